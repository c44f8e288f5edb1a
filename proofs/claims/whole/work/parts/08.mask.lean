set_option maxRecDepth 100000 in
set_option maxHeartbeats 4000000 in
theorem c_MS_clear (l : Launch) (F : Nat) (q : Nat) (hq : q = 3 ∨ q = 5 ∨ q = 7) (u : St) (res : Int32 × St) (h : sp_MS_clear F q u = some res) : ly_Mv ZsC clA layC l y_MS_clear w_MS_clear { frames := 1, cells := 0, slots := 0, locals := 24 } (fun ad => [.ref (ad q)]) u (fun u1 => ((0 : Int32), u1) = res) := by
  refine ly_entv (cc := b_MS_clear) (maxL := 1) (ret := none) (by decide) rfl (fun ad => Nat.le_of_ble_eq_true rfl) ?_
  intro p e s m below meth c D ad cA A ls fx hr hlocks hk hA hz hw hl
  have hl : lv_has ls 1 [(0, .ref (ad q))] := hl
  have hx := fx.1
  have hb := fx.2.1
  unfold sp_MS_clear at h
  refine lv_aload_n hx hb d_MS_clear_0 rfl (lv_at hl 0 rfl) ?_
  refine ly_getr fx hk hw (q) (la_M hq) rfl i_MaskSet 0 (by decide) rfl rfl (List.mem_cons_of_mem _ a_32) d_MS_clear_1 ?_
  refine lv_lconst (v := 0) hx hb d_MS_clear_4 (by decide) ?_
  obtain ⟨r1, u2, hq3, h⟩ := ck_r h
  refine ly_callSv (As := [.ref (ad (q + 1)), .long (0 : Int64)]) (rest := []) ZsC_ok fx hk hz hA hw (c_Arrays_fill l F q (0 : Int64) hq u _ hq3) (cw_S fx.2.2.2.2 a_298 a_299 a_8 ac_Arrays_fill rfl rfl hd_Arrays_fill ⟨Nat.le_of_ble_eq_true rfl, Nat.le_of_ble_eq_true rfl⟩) rfl rfl hl.1 rfl (Nat.le_of_ble_eq_true rfl) d_MS_clear_5 (Nat.zero_le _) (Nat.zero_le _) (fun u' H locs hp hw => ?_)
  cases hp
  refine lv_aload_n hx hb d_MS_clear_8 rfl (lv_at hl 0 rfl) ?_
  refine lv_sipush (v := 256) hx hb d_MS_clear_9 (by decide) ?_
  refine ly_put (v := (256 : Int32)) fx hk hw (q) (la_M hq) rfl i_MaskSet t_MaskSet t_MaskSet_ok n_MaskSet 1 (by decide) rfl rfl rfl (List.mem_cons_of_mem _ a_33) rfl rfl d_MS_clear_12 (fun H locs hw => ?_)
  obtain ⟨u4, ev⟩ : ∃ z, z = ly_pi u2 (q) 1 (256 : Int32) := ⟨_, rfl⟩
  rw [← ev] at hw
  have h := nk_r ev h
  exact ly_retv fx hr hlocks hk hw (Option.some.inj h) d_MS_clear_15
set_option maxRecDepth 100000 in
set_option maxHeartbeats 4000000 in
theorem c_MS_has (l : Launch) (q : Nat) (a1 : Int32) (hq : q = 3 ∨ q = 5 ∨ q = 7) (u : St) (res : Int32 × St) (h : sp_MS_has q a1 u = some res) : ly_Mi ZsC clA layC l y_MS_has w_MS_has { frames := 0, cells := 0, slots := 0, locals := 0 } (fun ad => [.ref (ad q), .int a1]) u (fun r1 u1 => (r1, u1) = res) := by
  refine ly_enti (cc := b_MS_has) (maxL := 2) (ret := (some .boolean)) (by decide) rfl (fun ad => Nat.le_of_ble_eq_true rfl) ?_
  intro p e s m below meth c D ad cA A ls fx hr hlocks hk hA hz hw hl
  have hl : lv_has ls 2 [(0, .ref (ad q)), (1, .int a1)] := hl
  have hx := fx.1
  have hb := fx.2.1
  unfold sp_MS_has at h
  refine lv_aload_n hx hb d_MS_has_0 rfl (lv_at hl 0 rfl) ?_
  refine ly_getr fx hk hw (q) (la_M hq) rfl i_MaskSet 0 (by decide) rfl rfl (List.mem_cons_of_mem _ a_32) d_MS_has_1 ?_
  refine lv_iload_n hx hb d_MS_has_4 rfl (lv_at hl 1 rfl) ?_
  refine lv_bipush (v := 6) hx hb d_MS_has_5 (by decide) ?_
  refine lv_ishr hx hb d_MS_has_7 ?_
  obtain ⟨hi1, h⟩ := it_in h
  refine ly_lald fx hk hw (q + 1) (la_Mw hq) hi1 d_MS_has_8 ?_
  refine lv_iload_n hx hb d_MS_has_9 rfl (lv_at hl 1 rfl) ?_
  refine lv_bipush (v := 63) hx hb d_MS_has_10 (by decide) ?_
  refine lv_iand hx hb d_MS_has_12 ?_
  refine lv_lushr hx hb d_MS_has_13 rfl ?_
  refine lv_lconst (v := 1) hx hb d_MS_has_14 (by decide) ?_
  refine lv_land hx hb d_MS_has_15 ?_
  refine lv_lconst (v := 0) hx hb d_MS_has_16 (by decide) ?_
  refine W.lcmp hx hb d_MS_has_17 ?_
  refine lv_if_eq (tgt := 25) hx hb d_MS_has_18 (by decide) (fun hc => ?_) (fun hc => ?_)
  · have h := it_t hc h
    refine lv_iconst (v := 0) hx hb d_MS_has_25 (by decide) ?_
    exact ly_retz fx hr hlocks hk hw (Or.inl rfl) (Option.some.inj h) d_MS_has_26
  · have h := it_f hc h
    refine lv_iconst (v := 1) hx hb d_MS_has_21 (by decide) ?_
    refine lv_goto (tgt := 26) hx hb d_MS_has_22 (by decide) ?_
    exact ly_retz fx hr hlocks hk hw (Or.inr rfl) (Option.some.inj h) d_MS_has_26
set_option maxRecDepth 100000 in
set_option maxHeartbeats 4000000 in
theorem wl_MS_addAllAbove_7 {p : Program} {l : Launch} {e : Env} {s : State} {m : MethodId} {args : Array Value} {below : List Frame} {meth : Method} {c : Code} {D : va_G} {ad : Nat → Nat} {cA : Nat → ClassId} {A : Nat → Prop} (fx : CallFix p m c b_MS_addAllAbove 6 s args w_MS_addAllAbove y_MS_addAllAbove.cls) (hr : meth.sig.returnType = none) (hlocks : meth.locks = false) (hk : ly_K D clA layC cA s) (hA : ∀ q, s.heap.size ≤ q → A q) (hz : ZsC A s s.heap) (F : Nat) (q0 : Nat) (v1 : Int32) (hq0 : q0 = 3 ∨ q0 = 5 ∨ q0 = 7) {k7 : Int64 → Int32 → St → Option (Int32 × St)} {res : Int32 × St}
    (hX7 : ∀ (v2 : Int64) (v4 : Int32) (u : St) (H : Heap) (locs : List Loc) (ls : Array Slot), k7 v2 v4 u = some res → lv_has ls 6 [(0, .ref (ad q0)), (1, .int v1), (2, .long v2), (4, .int v4)] → ly_G D clA layC ad cA A s.heap u H locs → W p l e { frames := 0, cells := 0, slots := 0, locals := 0 } s m args below meth c H locs 0 0 (MQ below (va_Qv (fun u1 => ((0 : Int32), u1) = res) (ly_B D clA layC ad cA A) A) args s 0 0 A) (F0 m 38 ls [])) :
    ∀ (n : Nat) (v2 : Int64) (v4 : Int32) (u : St) (H : Heap) (locs : List Loc) (ls : Array Slot), lp_MS_addAllAbove_7 F q0 v1 k7 n v2 v4 u = some res → lv_has ls 6 [(0, .ref (ad q0)), (1, .int v1), (2, .long v2), (4, .int v4)] → ly_G D clA layC ad cA A s.heap u H locs → W p l e { frames := 0, cells := 0, slots := 0, locals := 0 } s m args below meth c H locs 0 0 (MQ below (va_Qv (fun u1 => ((0 : Int32), u1) = res) (ly_B D clA layC ad cA A) A) args s 0 0 A) (F0 m 7 ls []) := by
  have hx := fx.1
  have hb := fx.2.1
  have hz' := hz
  obtain ⟨tH, hzZ, hzT⟩ := hz'.1
  intro n
  induction n with
  | zero => intro v2 v4 u H locs ls h; exact nomatch h
  | succ n ih =>
    intro v2 v4 u H locs ls h hl hw
    rw [lp_MS_addAllAbove_7] at h
    refine lv_iload hx hb d_MS_addAllAbove_7 (lv_at hl 3 rfl) ?_
    refine lv_bipush (v := 6) hx hb d_MS_addAllAbove_9 (by decide) ?_
    refine lv_icmp_ge (tgt := 38) hx hb d_MS_addAllAbove_11 (by decide) (fun hc => ?_) (fun hc => ?_)
    · have h := it_t hc h
      exact hX7 v2 v4 u _ _ _ h (lv_sub hl [0, 1, 2, 3] rfl) hw
    · have h := it_f hc h
      refine lv_iload_n hx hb d_MS_addAllAbove_14 rfl (lv_at hl 1 rfl) ?_
      refine lv_iconst (v := 1) hx hb d_MS_addAllAbove_15 (by decide) ?_
      refine lv_iload hx hb d_MS_addAllAbove_16 (lv_at hl 3 rfl) ?_
      refine lv_ishl hx hb d_MS_addAllAbove_18 ?_
      refine lv_iand hx hb d_MS_addAllAbove_19 ?_
      refine lv_if_eq (tgt := 32) hx hb d_MS_addAllAbove_20 (by decide) (fun hc => ?_) (fun hc => ?_)
      · have h := it_t hc h
        refine lv_iinc (lv' := [(4, .int (v4 + (1 : Int32))), (0, .ref (ad q0)), (1, .int v1), (2, .long v2)]) (k := 3) hx hb d_MS_addAllAbove_32 hl rfl (oi_p1 _) (by decide) rfl (fun ls hl => ?_)
        refine lv_goto (tgt := 7) hx hb d_MS_addAllAbove_35 (by decide) ?_
        exact ih v2 (v4 + (1 : Int32)) u _ _ _ h (lv_sub hl [1, 2, 3, 0] rfl) hw
      · have h := it_f hc h
        refine lv_lload_n hx hb d_MS_addAllAbove_23 rfl (lv_at hl 2 rfl) ?_
        refine va_gets hx hb hzZ hw.2.2 fx.2.2.2.1 (fx.2.2.2.2 _ (List.mem_cons_of_mem _ a_314)) (fun _ h9 => h9) d_MS_addAllAbove_24 ?_
        refine lv_iload hx hb d_MS_addAllAbove_27 (lv_at hl 3 rfl) ?_
        obtain ⟨hi2, h⟩ := it_in h
        refine va_tl hx hb hzT hw.2.2 hi2 rfl d_MS_addAllAbove_29 ?_
        refine lv_land hx hb d_MS_addAllAbove_30 ?_
        refine lv_topl (fun v2_3 ev => ?_)
        have h := nk_r ev h
        refine lv_lstore_n (lv' := [(2, .long v2_3), (0, .ref (ad q0)), (1, .int v1), (4, .int v4)]) hx hb d_MS_addAllAbove_31 rfl hl (by decide) rfl (fun ls hl => ?_)
        refine lv_iinc (lv' := [(4, .int (v4 + (1 : Int32))), (2, .long v2_3), (0, .ref (ad q0)), (1, .int v1)]) (k := 3) hx hb d_MS_addAllAbove_32 hl rfl (oi_p1 _) (by decide) rfl (fun ls hl => ?_)
        refine lv_goto (tgt := 7) hx hb d_MS_addAllAbove_35 (by decide) ?_
        exact ih v2_3 (v4 + (1 : Int32)) u _ _ _ h (lv_sub hl [2, 3, 1, 0] rfl) hw
set_option maxRecDepth 100000 in
set_option maxHeartbeats 4000000 in
theorem wl_MS_addAllAbove_48 {p : Program} {l : Launch} {e : Env} {s : State} {m : MethodId} {args : Array Value} {below : List Frame} {meth : Method} {c : Code} {D : va_G} {ad : Nat → Nat} {cA : Nat → ClassId} {A : Nat → Prop} (fx : CallFix p m c b_MS_addAllAbove 6 s args w_MS_addAllAbove y_MS_addAllAbove.cls) (hr : meth.sig.returnType = none) (hlocks : meth.locks = false) (hk : ly_K D clA layC cA s) (hA : ∀ q, s.heap.size ≤ q → A q) (hz : ZsC A s s.heap) (F : Nat) (q0 : Nat) (v1 : Int32) (v2 : Int64) (v4 : Int32) (hq0 : q0 = 3 ∨ q0 = 5 ∨ q0 = 7) {k48 : Int32 → St → Option (Int32 × St)} {res : Int32 × St}
    (hX48 : ∀ (v5 : Int32) (u : St) (H : Heap) (locs : List Loc) (ls : Array Slot), k48 v5 u = some res → lv_has ls 6 [(0, .ref (ad q0)), (1, .int v1), (2, .long v2), (4, .int v4), (5, .int v5)] → ly_G D clA layC ad cA A s.heap u H locs → W p l e { frames := 0, cells := 0, slots := 0, locals := 0 } s m args below meth c H locs 0 0 (MQ below (va_Qv (fun u1 => ((0 : Int32), u1) = res) (ly_B D clA layC ad cA A) A) args s 0 0 A) (F0 m 79 ls [])) :
    ∀ (n : Nat) (v5 : Int32) (u : St) (H : Heap) (locs : List Loc) (ls : Array Slot), lp_MS_addAllAbove_48 F q0 v1 v2 v4 k48 n v5 u = some res → lv_has ls 6 [(0, .ref (ad q0)), (1, .int v1), (2, .long v2), (4, .int v4), (5, .int v5)] → ly_G D clA layC ad cA A s.heap u H locs → W p l e { frames := 0, cells := 0, slots := 0, locals := 0 } s m args below meth c H locs 0 0 (MQ below (va_Qv (fun u1 => ((0 : Int32), u1) = res) (ly_B D clA layC ad cA A) A) args s 0 0 A) (F0 m 48 ls []) := by
  have hx := fx.1
  have hb := fx.2.1
  have hz' := hz
  obtain ⟨tH, hzZ, hzT⟩ := hz'.1
  intro n
  induction n with
  | zero => intro v5 u H locs ls h; exact nomatch h
  | succ n ih =>
    intro v5 u H locs ls h hl hw
    rw [lp_MS_addAllAbove_48] at h
    refine lv_iload hx hb d_MS_addAllAbove_48 (lv_at hl 4 rfl) ?_
    refine lv_sipush (v := 256) hx hb d_MS_addAllAbove_50 (by decide) ?_
    refine lv_icmp_ge (tgt := 79) hx hb d_MS_addAllAbove_53 (by decide) (fun hc => ?_) (fun hc => ?_)
    · have h := it_t hc h
      exact hX48 v5 u _ _ _ h (lv_sub hl [0, 1, 2, 3, 4] rfl) hw
    · have h := it_f hc h
      refine lv_aload_n hx hb d_MS_addAllAbove_56 rfl (lv_at hl 0 rfl) ?_
      refine ly_getr fx hk hw (q0) (la_M hq0) rfl i_MaskSet 0 (by decide) rfl rfl (List.mem_cons_of_mem _ a_32) d_MS_addAllAbove_57 ?_
      refine lv_iload hx hb d_MS_addAllAbove_60 (lv_at hl 4 rfl) ?_
      refine lv_dup2_11 hx hb d_MS_addAllAbove_62 rfl rfl ?_
      obtain ⟨hi8, h⟩ := it_in h
      refine ly_lald fx hk hw (q0 + 1) (la_Mw hq0) hi8 d_MS_addAllAbove_63 ?_
      refine lv_lload_n hx hb d_MS_addAllAbove_64 rfl (lv_at hl 2 rfl) ?_
      refine lv_lor hx hb d_MS_addAllAbove_65 ?_
      obtain ⟨hi9, h⟩ := it_in h
      refine ly_last fx hk hw (q0 + 1) (la_Mw hq0) hi9 d_MS_addAllAbove_66 (fun H locs hw => ?_)
      obtain ⟨u10, ev⟩ : ∃ z, z = ly_pl u (q0 + 1) v5.toNatClampNeg ((u.2 (q0 + 1) v5.toNatClampNeg) ||| v2) := ⟨_, rfl⟩
      rw [← ev] at hw
      have h := nk_r ev h
      refine lv_iload hx hb d_MS_addAllAbove_67 (lv_at hl 4 rfl) ?_
      refine lv_iconst (v := 1) hx hb d_MS_addAllAbove_69 (by decide) ?_
      refine lv_iadd hx hb d_MS_addAllAbove_70 ?_
      refine lv_iload hx hb d_MS_addAllAbove_71 (lv_at hl 3 rfl) ?_
      refine lv_ior hx hb d_MS_addAllAbove_73 ?_
      refine lv_topi (fun v5_11 ev => ?_)
      have h := nk_r ev h
      refine lv_istore (lv' := [(5, .int v5_11), (0, .ref (ad q0)), (1, .int v1), (2, .long v2), (4, .int v4)]) hx hb d_MS_addAllAbove_74 hl (by decide) rfl (fun ls hl => ?_)
      refine lv_goto (tgt := 48) hx hb d_MS_addAllAbove_76 (by decide) ?_
      exact ih v5_11 u10 _ _ _ h (lv_sub hl [1, 2, 3, 4, 0] rfl) hw
set_option maxRecDepth 100000 in
set_option maxHeartbeats 4000000 in
theorem c_MS_addAllAbove (l : Launch) (F : Nat) (q : Nat) (a1 : Int32) (hq : q = 3 ∨ q = 5 ∨ q = 7) (u : St) (res : Int32 × St) (h : sp_MS_addAllAbove F q a1 u = some res) : ly_Mv ZsC clA layC l y_MS_addAllAbove w_MS_addAllAbove { frames := 0, cells := 0, slots := 0, locals := 0 } (fun ad => [.ref (ad q), .int a1]) u (fun u1 => ((0 : Int32), u1) = res) := by
  refine ly_entv (cc := b_MS_addAllAbove) (maxL := 6) (ret := none) (by decide) rfl (fun ad => Nat.le_of_ble_eq_true rfl) ?_
  intro p e s m below meth c D ad cA A ls fx hr hlocks hk hA hz hw hl
  have hl : lv_has ls 6 [(0, .ref (ad q)), (1, .int a1)] := hl
  have hx := fx.1
  have hb := fx.2.1
  have hz' := hz
  obtain ⟨tH, hzZ, hzT⟩ := hz'.1
  unfold sp_MS_addAllAbove at h
  refine lv_ldc2 (v := -1) hx hb fx.2.2.2.1 (fx.2.2.2.2 _ (List.mem_cons_of_mem _ a_313)) d_MS_addAllAbove_0 ?_
  refine lv_topl (fun v2_1 ev => ?_)
  have h := nk_r ev h
  refine lv_lstore_n (lv' := [(2, .long v2_1), (0, .ref (ad q)), (1, .int a1)]) hx hb d_MS_addAllAbove_3 rfl hl (by decide) rfl (fun ls hl => ?_)
  refine lv_iconst (v := 0) hx hb d_MS_addAllAbove_4 (by decide) ?_
  refine lv_istore (lv' := [(4, .int (0 : Int32)), (2, .long v2_1), (0, .ref (ad q)), (1, .int a1)]) hx hb d_MS_addAllAbove_5 hl (by decide) rfl (fun ls hl => ?_)
  refine wl_MS_addAllAbove_7 fx hr hlocks hk hA hz F q a1 hq (fun v2_4 v4_5 u6 H locs ls h hl hw => ?_) _ v2_1 (0 : Int32) u _ _ _ h (lv_sub hl [2, 3, 1, 0] rfl) hw
  refine lv_iload_n hx hb d_MS_addAllAbove_38 rfl (lv_at hl 1 rfl) ?_
  refine lv_bipush (v := 6) hx hb d_MS_addAllAbove_39 (by decide) ?_
  refine lv_ishr hx hb d_MS_addAllAbove_41 ?_
  refine lv_topi (fun v4_7 ev => ?_)
  have h := nk_r ev h
  refine lv_istore (lv' := [(4, .int v4_7), (0, .ref (ad q)), (1, .int a1), (2, .long v2_4)]) hx hb d_MS_addAllAbove_42 hl (by decide) rfl (fun ls hl => ?_)
  refine lv_iload hx hb d_MS_addAllAbove_44 (lv_at hl 0 rfl) ?_
  refine lv_istore (lv' := [(5, .int v4_7), (4, .int v4_7), (0, .ref (ad q)), (1, .int a1), (2, .long v2_4)]) hx hb d_MS_addAllAbove_46 hl (by decide) rfl (fun ls hl => ?_)
  refine wl_MS_addAllAbove_48 fx hr hlocks hk hA hz F q a1 v2_4 v4_7 hq (fun v5_12 u13 H locs ls h hl hw => ?_) _ v4_7 u6 _ _ _ h (lv_sub hl [2, 3, 4, 1, 0] rfl) hw
  refine lv_aload_n hx hb d_MS_addAllAbove_79 rfl (lv_at hl 0 rfl) ?_
  refine lv_iload hx hb d_MS_addAllAbove_80 (lv_at hl 3 rfl) ?_
  refine lv_aload_n hx hb d_MS_addAllAbove_82 rfl (lv_at hl 0 rfl) ?_
  refine ly_get fx hk hw (q) (la_M hq) rfl i_MaskSet 1 (by decide) rfl rfl (List.mem_cons_of_mem _ a_33) d_MS_addAllAbove_83 ?_
  refine lv_icmp_ge (tgt := 94) hx hb d_MS_addAllAbove_86 (by decide) (fun hc => ?_) (fun hc => ?_)
  · have h := it_t hc h
    refine lv_aload_n hx hb d_MS_addAllAbove_94 rfl (lv_at hl 0 rfl) ?_
    refine ly_get fx hk hw (q) (la_M hq) rfl i_MaskSet 1 (by decide) rfl rfl (List.mem_cons_of_mem _ a_33) d_MS_addAllAbove_95 ?_
    refine ly_put (v := (u13.1 (q) 1)) fx hk hw (q) (la_M hq) rfl i_MaskSet t_MaskSet t_MaskSet_ok n_MaskSet 1 (by decide) rfl rfl rfl (List.mem_cons_of_mem _ a_33) rfl rfl d_MS_addAllAbove_98 (fun H locs hw => ?_)
    obtain ⟨u14, ev⟩ : ∃ z, z = ly_pi u13 (q) 1 (u13.1 (q) 1) := ⟨_, rfl⟩
    rw [← ev] at hw
    have h := nk_r ev h
    exact ly_retv fx hr hlocks hk hw (Option.some.inj h) d_MS_addAllAbove_101
  · have h := it_f hc h
    refine lv_iload hx hb d_MS_addAllAbove_89 (lv_at hl 3 rfl) ?_
    refine lv_goto (tgt := 98) hx hb d_MS_addAllAbove_91 (by decide) ?_
    refine ly_put (v := v4_7) fx hk hw (q) (la_M hq) rfl i_MaskSet t_MaskSet t_MaskSet_ok n_MaskSet 1 (by decide) rfl rfl rfl (List.mem_cons_of_mem _ a_33) rfl rfl d_MS_addAllAbove_98 (fun H locs hw => ?_)
    obtain ⟨u15, ev⟩ : ∃ z, z = ly_pi u13 (q) 1 v4_7 := ⟨_, rfl⟩
    rw [← ev] at hw
    have h := nk_r ev h
    exact ly_retv fx hr hlocks hk hw (Option.some.inj h) d_MS_addAllAbove_101
set_option maxRecDepth 100000 in
set_option maxHeartbeats 4000000 in
theorem c_MS_add (l : Launch) (q : Nat) (a1 : Int32) (hq : q = 3 ∨ q = 5 ∨ q = 7) (u : St) (res : Int32 × St) (h : sp_MS_add q a1 u = some res) : ly_Mv ZsC clA layC l y_MS_add w_MS_add { frames := 0, cells := 0, slots := 0, locals := 0 } (fun ad => [.ref (ad q), .int a1]) u (fun u1 => ((0 : Int32), u1) = res) := by
  refine ly_entv (cc := b_MS_add) (maxL := 3) (ret := none) (by decide) rfl (fun ad => Nat.le_of_ble_eq_true rfl) ?_
  intro p e s m below meth c D ad cA A ls fx hr hlocks hk hA hz hw hl
  have hl : lv_has ls 3 [(0, .ref (ad q)), (1, .int a1)] := hl
  have hx := fx.1
  have hb := fx.2.1
  unfold sp_MS_add at h
  refine lv_iload_n hx hb d_MS_add_0 rfl (lv_at hl 1 rfl) ?_
  refine lv_bipush (v := 6) hx hb d_MS_add_1 (by decide) ?_
  refine lv_ishr hx hb d_MS_add_3 ?_
  refine lv_topi (fun v2_1 ev => ?_)
  have h := nk_r ev h
  refine lv_istore_n (lv' := [(2, .int v2_1), (0, .ref (ad q)), (1, .int a1)]) hx hb d_MS_add_4 rfl hl (by decide) rfl (fun ls hl => ?_)
  refine lv_aload_n hx hb d_MS_add_5 rfl (lv_at hl 1 rfl) ?_
  refine ly_getr fx hk hw (q) (la_M hq) rfl i_MaskSet 0 (by decide) rfl rfl (List.mem_cons_of_mem _ a_32) d_MS_add_6 ?_
  refine lv_iload_n hx hb d_MS_add_9 rfl (lv_at hl 0 rfl) ?_
  refine lv_dup2_11 hx hb d_MS_add_10 rfl rfl ?_
  obtain ⟨hi2, h⟩ := it_in h
  refine ly_lald fx hk hw (q + 1) (la_Mw hq) hi2 d_MS_add_11 ?_
  refine lv_lconst (v := 1) hx hb d_MS_add_12 (by decide) ?_
  refine lv_iload_n hx hb d_MS_add_13 rfl (lv_at hl 2 rfl) ?_
  refine lv_bipush (v := 63) hx hb d_MS_add_14 (by decide) ?_
  refine lv_iand hx hb d_MS_add_16 ?_
  refine lv_lshl hx hb d_MS_add_17 rfl ?_
  refine lv_lor hx hb d_MS_add_18 ?_
  obtain ⟨hi3, h⟩ := it_in h
  refine ly_last fx hk hw (q + 1) (la_Mw hq) hi3 d_MS_add_19 (fun H locs hw => ?_)
  obtain ⟨u4, ev⟩ : ∃ z, z = ly_pl u (q + 1) v2_1.toNatClampNeg ((u.2 (q + 1) v2_1.toNatClampNeg) ||| (((1 : Int64) <<< ((a1 &&& (63 : Int32)).toInt64 &&& 63)))) := ⟨_, rfl⟩
  rw [← ev] at hw
  have h := nk_r ev h
  refine lv_aload_n hx hb d_MS_add_20 rfl (lv_at hl 1 rfl) ?_
  refine lv_iload_n hx hb d_MS_add_21 rfl (lv_at hl 0 rfl) ?_
  refine lv_aload_n hx hb d_MS_add_22 rfl (lv_at hl 1 rfl) ?_
  refine ly_get fx hk hw (q) (la_M hq) rfl i_MaskSet 1 (by decide) rfl rfl (List.mem_cons_of_mem _ a_33) d_MS_add_23 ?_
  refine lv_icmp_ge (tgt := 33) hx hb d_MS_add_26 (by decide) (fun hc => ?_) (fun hc => ?_)
  · have h := it_t hc h
    refine lv_aload_n hx hb d_MS_add_33 rfl (lv_at hl 1 rfl) ?_
    refine ly_get fx hk hw (q) (la_M hq) rfl i_MaskSet 1 (by decide) rfl rfl (List.mem_cons_of_mem _ a_33) d_MS_add_34 ?_
    refine ly_put (v := (u4.1 (q) 1)) fx hk hw (q) (la_M hq) rfl i_MaskSet t_MaskSet t_MaskSet_ok n_MaskSet 1 (by decide) rfl rfl rfl (List.mem_cons_of_mem _ a_33) rfl rfl d_MS_add_37 (fun H locs hw => ?_)
    obtain ⟨u5, ev⟩ : ∃ z, z = ly_pi u4 (q) 1 (u4.1 (q) 1) := ⟨_, rfl⟩
    rw [← ev] at hw
    have h := nk_r ev h
    exact ly_retv fx hr hlocks hk hw (Option.some.inj h) d_MS_add_40
  · have h := it_f hc h
    refine lv_iload_n hx hb d_MS_add_29 rfl (lv_at hl 0 rfl) ?_
    refine lv_goto (tgt := 37) hx hb d_MS_add_30 (by decide) ?_
    refine ly_put (v := v2_1) fx hk hw (q) (la_M hq) rfl i_MaskSet t_MaskSet t_MaskSet_ok n_MaskSet 1 (by decide) rfl rfl rfl (List.mem_cons_of_mem _ a_33) rfl rfl d_MS_add_37 (fun H locs hw => ?_)
    obtain ⟨u6, ev⟩ : ∃ z, z = ly_pi u4 (q) 1 v2_1 := ⟨_, rfl⟩
    rw [← ev] at hw
    have h := nk_r ev h
    exact ly_retv fx hr hlocks hk hw (Option.some.inj h) d_MS_add_40
set_option maxRecDepth 100000 in
set_option maxHeartbeats 4000000 in
theorem wl_MS_draw_0 {p : Program} {l : Launch} {e : Env} {s : State} {m : MethodId} {args : Array Value} {below : List Frame} {meth : Method} {c : Code} {D : va_G} {ad : Nat → Nat} {cA : Nat → ClassId} {A : Nat → Prop} (fx : CallFix p m c b_MS_draw 5 s args w_MS_draw y_MS_draw.cls) (hr : meth.sig.returnType = (some .int)) (hlocks : meth.locks = false) (hk : ly_K D clA layC cA s) (hA : ∀ q, s.heap.size ≤ q → A q) (hz : ZsC A s s.heap) (F : Nat) (q0 : Nat) (hq0 : q0 = 3 ∨ q0 = 5 ∨ q0 = 7) {k0 : St → Option (Int32 × St)} {res : Int32 × St}
    (hX0 : ∀ (u : St) (H : Heap) (locs : List Loc) (ls : Array Slot), k0 u = some res → lv_has ls 5 [(0, .ref (ad q0))] → ly_G D clA layC ad cA A s.heap u H locs → W p l e { frames := 1, cells := 0, slots := 0, locals := 21 } s m args below meth c H locs 0 0 (MQ below (va_Qi (fun r1 u1 => (r1, u1) = res) (ly_B D clA layC ad cA A) A) args s 0 0 A) (F0 m 71 ls [])) :
    ∀ (n : Nat) (u : St) (H : Heap) (locs : List Loc) (ls : Array Slot), lp_MS_draw_0 F q0 k0 n u = some res → lv_has ls 5 [(0, .ref (ad q0))] → ly_G D clA layC ad cA A s.heap u H locs → W p l e { frames := 1, cells := 0, slots := 0, locals := 21 } s m args below meth c H locs 0 0 (MQ below (va_Qi (fun r1 u1 => (r1, u1) = res) (ly_B D clA layC ad cA A) A) args s 0 0 A) (F0 m 0 ls []) := by
  have hx := fx.1
  have hb := fx.2.1
  intro n
  induction n with
  | zero => intro u H locs ls h; exact nomatch h
  | succ n ih =>
    intro u H locs ls h hl hw
    rw [lp_MS_draw_0] at h
    refine lv_aload_n hx hb d_MS_draw_0 rfl (lv_at hl 0 rfl) ?_
    refine ly_get fx hk hw (q0) (la_M hq0) rfl i_MaskSet 1 (by decide) rfl rfl (List.mem_cons_of_mem _ a_33) d_MS_draw_1 ?_
    refine lv_sipush (v := 256) hx hb d_MS_draw_4 (by decide) ?_
    refine lv_icmp_ge (tgt := 71) hx hb d_MS_draw_7 (by decide) (fun hc => ?_) (fun hc => ?_)
    · have h := it_t hc h
      exact hX0 u _ _ _ h (lv_sub hl [0] rfl) hw
    · have h := it_f hc h
      refine lv_aload_n hx hb d_MS_draw_10 rfl (lv_at hl 0 rfl) ?_
      refine ly_getr fx hk hw (q0) (la_M hq0) rfl i_MaskSet 0 (by decide) rfl rfl (List.mem_cons_of_mem _ a_32) d_MS_draw_11 ?_
      refine lv_aload_n hx hb d_MS_draw_14 rfl (lv_at hl 0 rfl) ?_
      refine ly_get fx hk hw (q0) (la_M hq0) rfl i_MaskSet 1 (by decide) rfl rfl (List.mem_cons_of_mem _ a_33) d_MS_draw_15 ?_
      obtain ⟨hi1, h⟩ := it_in h
      refine ly_lald fx hk hw (q0 + 1) (la_Mw hq0) hi1 d_MS_draw_18 ?_
      refine lv_topl (fun v1_2 ev => ?_)
      have h := nk_r ev h
      refine lv_lstore_n (lv' := [(1, .long v1_2), (0, .ref (ad q0))]) hx hb d_MS_draw_19 rfl hl (by decide) rfl (fun ls hl => ?_)
      refine lv_lload_n hx hb d_MS_draw_20 rfl (lv_at hl 0 rfl) ?_
      refine lv_lconst (v := 0) hx hb d_MS_draw_21 (by decide) ?_
      refine W.lcmp hx hb d_MS_draw_22 ?_
      refine lv_if_eq (tgt := 58) hx hb d_MS_draw_23 (by decide) (fun hc => ?_) (fun hc => ?_)
      · have h := it_t hc h
        refine lv_aload_n hx hb d_MS_draw_58 rfl (lv_at hl 1 rfl) ?_
        refine lv_dup hx hb d_MS_draw_59 rfl ?_
        refine ly_get fx hk hw (q0) (la_M hq0) rfl i_MaskSet 1 (by decide) rfl rfl (List.mem_cons_of_mem _ a_33) d_MS_draw_60 ?_
        refine lv_iconst (v := 1) hx hb d_MS_draw_63 (by decide) ?_
        refine lv_iadd hx hb d_MS_draw_64 ?_
        refine ly_put (v := ((u.1 (q0) 1) + (1 : Int32))) fx hk hw (q0) (la_M hq0) rfl i_MaskSet t_MaskSet t_MaskSet_ok n_MaskSet 1 (by decide) rfl rfl rfl (List.mem_cons_of_mem _ a_33) rfl rfl d_MS_draw_65 (fun H locs hw => ?_)
        obtain ⟨u3, ev⟩ : ∃ z, z = ly_pi u (q0) 1 ((u.1 (q0) 1) + (1 : Int32)) := ⟨_, rfl⟩
        rw [← ev] at hw
        have h := nk_r ev h
        refine lv_goto (tgt := 0) hx hb d_MS_draw_68 (by decide) ?_
        exact ih u3 _ _ _ h (lv_sub hl [1] rfl) hw
      · have h := it_f hc h
        refine lv_lload_n hx hb d_MS_draw_26 rfl (lv_at hl 0 rfl) ?_
        refine lv_lload_n hx hb d_MS_draw_27 rfl (lv_at hl 0 rfl) ?_
        refine lv_lneg hx hb d_MS_draw_28 ?_
        refine lv_land hx hb d_MS_draw_29 ?_
        refine lv_topl (fun v3_4 ev => ?_)
        have h := nk_r ev h
        refine lv_lstore_n (lv' := [(3, .long v3_4), (1, .long v1_2), (0, .ref (ad q0))]) hx hb d_MS_draw_30 rfl hl (by decide) rfl (fun ls hl => ?_)
        refine lv_aload_n hx hb d_MS_draw_31 rfl (lv_at hl 2 rfl) ?_
        refine ly_getr fx hk hw (q0) (la_M hq0) rfl i_MaskSet 0 (by decide) rfl rfl (List.mem_cons_of_mem _ a_32) d_MS_draw_32 ?_
        refine lv_aload_n hx hb d_MS_draw_35 rfl (lv_at hl 2 rfl) ?_
        refine ly_get fx hk hw (q0) (la_M hq0) rfl i_MaskSet 1 (by decide) rfl rfl (List.mem_cons_of_mem _ a_33) d_MS_draw_36 ?_
        refine lv_lload_n hx hb d_MS_draw_39 rfl (lv_at hl 1 rfl) ?_
        refine lv_lload_n hx hb d_MS_draw_40 rfl (lv_at hl 0 rfl) ?_
        refine lv_lxor hx hb d_MS_draw_41 ?_
        obtain ⟨hi5, h⟩ := it_in h
        refine ly_last fx hk hw (q0 + 1) (la_Mw hq0) hi5 d_MS_draw_42 (fun H locs hw => ?_)
        obtain ⟨u6, ev⟩ : ∃ z, z = ly_pl u (q0 + 1) (u.1 (q0) 1).toNatClampNeg (v1_2 ^^^ v3_4) := ⟨_, rfl⟩
        rw [← ev] at hw
        have h := nk_r ev h
        refine lv_aload_n hx hb d_MS_draw_43 rfl (lv_at hl 2 rfl) ?_
        refine ly_get fx hk hw (q0) (la_M hq0) rfl i_MaskSet 1 (by decide) rfl rfl (List.mem_cons_of_mem _ a_33) d_MS_draw_44 ?_
        refine lv_bipush (v := 6) hx hb d_MS_draw_47 (by decide) ?_
        refine lv_ishl hx hb d_MS_draw_49 ?_
        refine lv_lload_n hx hb d_MS_draw_50 rfl (lv_at hl 0 rfl) ?_
        refine lv_lconst (v := 1) hx hb d_MS_draw_51 (by decide) ?_
        refine lv_lsub hx hb d_MS_draw_52 ?_
        obtain ⟨r7, u8, hq9, h⟩ := ck_r h
        refine ly_callSi (As := [.long (v3_4 - (1 : Int64))]) (rest := [.int ((u6.1 (q0) 1) <<< ((6 : Int32) &&& 31))]) ZsC_ok fx hk hz hA hw (c_Long_bitCount l (v3_4 - (1 : Int64)) u6 _ hq9) (cw_S fx.2.2.2.2 a_324 a_325 a_9 ac_Long_bitCount rfl rfl hd_Long_bitCount ⟨Nat.le_of_ble_eq_true rfl, Nat.le_of_ble_eq_true rfl⟩) rfl rfl hl.1 rfl (Nat.le_of_ble_eq_true rfl) d_MS_draw_53 (Nat.zero_le _) (Nat.zero_le _) (fun r' u' H locs hp hw => ?_)
        cases hp
        refine lv_iadd hx hb d_MS_draw_56 ?_
        exact ly_reti fx hr hlocks hk hw (Option.some.inj h) d_MS_draw_57
set_option maxRecDepth 100000 in
set_option maxHeartbeats 4000000 in
theorem c_MS_draw (l : Launch) (F : Nat) (q : Nat) (hq : q = 3 ∨ q = 5 ∨ q = 7) (u : St) (res : Int32 × St) (h : sp_MS_draw F q u = some res) : ly_Mi ZsC clA layC l y_MS_draw w_MS_draw { frames := 1, cells := 0, slots := 0, locals := 21 } (fun ad => [.ref (ad q)]) u (fun r1 u1 => (r1, u1) = res) := by
  refine ly_enti (cc := b_MS_draw) (maxL := 5) (ret := (some .int)) (by decide) rfl (fun ad => Nat.le_of_ble_eq_true rfl) ?_
  intro p e s m below meth c D ad cA A ls fx hr hlocks hk hA hz hw hl
  have hl : lv_has ls 5 [(0, .ref (ad q))] := hl
  have hx := fx.1
  have hb := fx.2.1
  unfold sp_MS_draw at h
  refine wl_MS_draw_0 fx hr hlocks hk hA hz F q hq (fun u10 H locs ls h hl hw => ?_) _ u _ _ _ h (lv_sub hl [0] rfl) hw
  refine lv_iconst (v := -1) hx hb d_MS_draw_71 (by decide) ?_
  exact ly_reti fx hr hlocks hk hw (Option.some.inj h) d_MS_draw_72
set_option maxRecDepth 100000 in
set_option maxHeartbeats 4000000 in
theorem wl_MS_isWithin_2 {p : Program} {l : Launch} {e : Env} {s : State} {m : MethodId} {args : Array Value} {below : List Frame} {meth : Method} {c : Code} {D : va_G} {ad : Nat → Nat} {cA : Nat → ClassId} {A : Nat → Prop} (fx : CallFix p m c b_MS_isWithin 3 s args w_MS_isWithin y_MS_isWithin.cls) (hr : meth.sig.returnType = (some .boolean)) (hlocks : meth.locks = false) (hk : ly_K D clA layC cA s) (hA : ∀ q, s.heap.size ≤ q → A q) (hz : ZsC A s s.heap) (F : Nat) (q0 : Nat) (q1 : Nat) (hq0 : q0 = 3 ∨ q0 = 5 ∨ q0 = 7) (hq1 : q1 = 3 ∨ q1 = 5 ∨ q1 = 7) {k2 : Int32 → St → Option (Int32 × St)} {res : Int32 × St}
    (hX2 : ∀ (v2 : Int32) (u : St) (H : Heap) (locs : List Loc) (ls : Array Slot), k2 v2 u = some res → lv_has ls 3 [(0, .ref (ad q0)), (1, .ref (ad q1)), (2, .int v2)] → ly_G D clA layC ad cA A s.heap u H locs → W p l e { frames := 0, cells := 0, slots := 0, locals := 0 } s m args below meth c H locs 0 0 (MQ below (va_Qi (fun r1 u1 => (r1, u1) = res) (ly_B D clA layC ad cA A) A) args s 0 0 A) (F0 m 39 ls [])) :
    ∀ (n : Nat) (v2 : Int32) (u : St) (H : Heap) (locs : List Loc) (ls : Array Slot), lp_MS_isWithin_2 F q0 q1 k2 n v2 u = some res → lv_has ls 3 [(0, .ref (ad q0)), (1, .ref (ad q1)), (2, .int v2)] → ly_G D clA layC ad cA A s.heap u H locs → W p l e { frames := 0, cells := 0, slots := 0, locals := 0 } s m args below meth c H locs 0 0 (MQ below (va_Qi (fun r1 u1 => (r1, u1) = res) (ly_B D clA layC ad cA A) A) args s 0 0 A) (F0 m 2 ls []) := by
  have hx := fx.1
  have hb := fx.2.1
  intro n
  induction n with
  | zero => intro v2 u H locs ls h; exact nomatch h
  | succ n ih =>
    intro v2 u H locs ls h hl hw
    rw [lp_MS_isWithin_2] at h
    refine lv_iload_n hx hb d_MS_isWithin_2 rfl (lv_at hl 2 rfl) ?_
    refine lv_sipush (v := 256) hx hb d_MS_isWithin_3 (by decide) ?_
    refine lv_icmp_ge (tgt := 39) hx hb d_MS_isWithin_6 (by decide) (fun hc => ?_) (fun hc => ?_)
    · have h := it_t hc h
      exact hX2 v2 u _ _ _ h (lv_sub hl [0, 1, 2] rfl) hw
    · have h := it_f hc h
      refine lv_aload_n hx hb d_MS_isWithin_9 rfl (lv_at hl 0 rfl) ?_
      refine ly_getr fx hk hw (q0) (la_M hq0) rfl i_MaskSet 0 (by decide) rfl rfl (List.mem_cons_of_mem _ a_32) d_MS_isWithin_10 ?_
      refine lv_iload_n hx hb d_MS_isWithin_13 rfl (lv_at hl 2 rfl) ?_
      obtain ⟨hi1, h⟩ := it_in h
      refine ly_lald fx hk hw (q0 + 1) (la_Mw hq0) hi1 d_MS_isWithin_14 ?_
      refine lv_aload_n hx hb d_MS_isWithin_15 rfl (lv_at hl 1 rfl) ?_
      refine ly_getr fx hk hw (q1) (la_M hq1) rfl i_MaskSet 0 (by decide) rfl rfl (List.mem_cons_of_mem _ a_32) d_MS_isWithin_16 ?_
      refine lv_iload_n hx hb d_MS_isWithin_19 rfl (lv_at hl 2 rfl) ?_
      obtain ⟨hi2, h⟩ := it_in h
      refine ly_lald fx hk hw (q1 + 1) (la_Mw hq1) hi2 d_MS_isWithin_20 ?_
      refine lv_ldc2 (v := -1) hx hb fx.2.2.2.1 (fx.2.2.2.2 _ (List.mem_cons_of_mem _ a_313)) d_MS_isWithin_21 ?_
      refine lv_lxor hx hb d_MS_isWithin_24 ?_
      refine lv_land hx hb d_MS_isWithin_25 ?_
      refine lv_lconst (v := 0) hx hb d_MS_isWithin_26 (by decide) ?_
      refine W.lcmp hx hb d_MS_isWithin_27 ?_
      refine lv_if_eq (tgt := 33) hx hb d_MS_isWithin_28 (by decide) (fun hc => ?_) (fun hc => ?_)
      · have h := it_t hc h
        refine lv_iinc (lv' := [(2, .int (v2 + (1 : Int32))), (0, .ref (ad q0)), (1, .ref (ad q1))]) (k := 2) hx hb d_MS_isWithin_33 hl rfl (oi_p1 _) (by decide) rfl (fun ls hl => ?_)
        refine lv_goto (tgt := 2) hx hb d_MS_isWithin_36 (by decide) ?_
        exact ih (v2 + (1 : Int32)) u _ _ _ h (lv_sub hl [1, 2, 0] rfl) hw
      · have h := it_f hc h
        refine lv_iconst (v := 0) hx hb d_MS_isWithin_31 (by decide) ?_
        exact ly_retz fx hr hlocks hk hw (Or.inl rfl) (Option.some.inj h) d_MS_isWithin_32
set_option maxRecDepth 100000 in
set_option maxHeartbeats 4000000 in
theorem c_MS_isWithin (l : Launch) (F : Nat) (q : Nat) (q2 : Nat) (hq : q = 3 ∨ q = 5 ∨ q = 7) (hq2 : q2 = 3 ∨ q2 = 5 ∨ q2 = 7) (u : St) (res : Int32 × St) (h : sp_MS_isWithin F q q2 u = some res) : ly_Mi ZsC clA layC l y_MS_isWithin w_MS_isWithin { frames := 0, cells := 0, slots := 0, locals := 0 } (fun ad => [.ref (ad q), .ref (ad q2)]) u (fun r1 u1 => (r1, u1) = res) := by
  refine ly_enti (cc := b_MS_isWithin) (maxL := 3) (ret := (some .boolean)) (by decide) rfl (fun ad => Nat.le_of_ble_eq_true rfl) ?_
  intro p e s m below meth c D ad cA A ls fx hr hlocks hk hA hz hw hl
  have hl : lv_has ls 3 [(0, .ref (ad q)), (1, .ref (ad q2))] := hl
  have hx := fx.1
  have hb := fx.2.1
  unfold sp_MS_isWithin at h
  refine lv_iconst (v := 0) hx hb d_MS_isWithin_0 (by decide) ?_
  refine lv_istore_n (lv' := [(2, .int (0 : Int32)), (0, .ref (ad q)), (1, .ref (ad q2))]) hx hb d_MS_isWithin_1 rfl hl (by decide) rfl (fun ls hl => ?_)
  refine wl_MS_isWithin_2 fx hr hlocks hk hA hz F q q2 hq hq2 (fun v2_3 u4 H locs ls h hl hw => ?_) _ (0 : Int32) u _ _ _ h (lv_sub hl [1, 2, 0] rfl) hw
  refine lv_iconst (v := 1) hx hb d_MS_isWithin_39 (by decide) ?_
  exact ly_retz fx hr hlocks hk hw (Or.inr rfl) (Option.some.inj h) d_MS_isWithin_40
