set_option maxRecDepth 100000 in
set_option maxHeartbeats 4000000 in
theorem c_Integer_bitCount (l : Launch) (a1 : Int32) (u : St) (res : Int32 × St) (h : sp_Integer_bitCount a1 u = some res) : ly_Mi ZsC clA layC l y_Integer_bitCount w_Integer_bitCount { frames := 0, cells := 0, slots := 0, locals := 0 } (fun ad => [.int a1]) u (fun r1 u1 => (r1, u1) = res) := by
  refine ly_enti (cc := b_Integer_bitCount) (maxL := 1) (ret := (some .int)) (by decide) rfl (fun ad => Nat.le_of_ble_eq_true rfl) ?_
  intro p e s m below meth c D ad cA A ls fx hr hlocks hk hA hz hw hl
  have hl : lv_has ls 1 [(0, .int a1)] := hl
  have hx := fx.1
  have hb := fx.2.1
  unfold sp_Integer_bitCount at h
  refine lv_iload_n hx hb d_Integer_bitCount_0 rfl (lv_at hl 0 rfl) ?_
  refine lv_iload_n hx hb d_Integer_bitCount_1 rfl (lv_at hl 0 rfl) ?_
  refine lv_iconst (v := 1) hx hb d_Integer_bitCount_2 (by decide) ?_
  refine lv_iushr hx hb d_Integer_bitCount_3 rfl ?_
  refine lv_ldcw (v := 1431655765) hx hb fx.2.2.2.1 (fx.2.2.2.2 _ (List.mem_cons_of_mem _ a_196)) d_Integer_bitCount_4 ?_
  refine lv_iand hx hb d_Integer_bitCount_7 ?_
  refine lv_isub hx hb d_Integer_bitCount_8 ?_
  refine lv_topi (fun v0_1 ev => ?_)
  have h := nk_r ev h
  refine lv_istore_n (lv' := [(0, .int v0_1)]) hx hb d_Integer_bitCount_9 rfl hl (by decide) rfl (fun ls hl => ?_)
  refine lv_iload_n hx hb d_Integer_bitCount_10 rfl (lv_at hl 0 rfl) ?_
  refine lv_ldcw (v := 858993459) hx hb fx.2.2.2.1 (fx.2.2.2.2 _ (List.mem_cons_of_mem _ a_197)) d_Integer_bitCount_11 ?_
  refine lv_iand hx hb d_Integer_bitCount_14 ?_
  refine lv_iload_n hx hb d_Integer_bitCount_15 rfl (lv_at hl 0 rfl) ?_
  refine lv_iconst (v := 2) hx hb d_Integer_bitCount_16 (by decide) ?_
  refine lv_iushr hx hb d_Integer_bitCount_17 rfl ?_
  refine lv_ldcw (v := 858993459) hx hb fx.2.2.2.1 (fx.2.2.2.2 _ (List.mem_cons_of_mem _ a_197)) d_Integer_bitCount_18 ?_
  refine lv_iand hx hb d_Integer_bitCount_21 ?_
  refine lv_iadd hx hb d_Integer_bitCount_22 ?_
  refine lv_topi (fun v0_2 ev => ?_)
  have h := nk_r ev h
  refine lv_istore_n (lv' := [(0, .int v0_2)]) hx hb d_Integer_bitCount_23 rfl hl (by decide) rfl (fun ls hl => ?_)
  refine lv_iload_n hx hb d_Integer_bitCount_24 rfl (lv_at hl 0 rfl) ?_
  refine lv_iload_n hx hb d_Integer_bitCount_25 rfl (lv_at hl 0 rfl) ?_
  refine lv_iconst (v := 4) hx hb d_Integer_bitCount_26 (by decide) ?_
  refine lv_iushr hx hb d_Integer_bitCount_27 rfl ?_
  refine lv_iadd hx hb d_Integer_bitCount_28 ?_
  refine lv_ldcw (v := 252645135) hx hb fx.2.2.2.1 (fx.2.2.2.2 _ (List.mem_cons_of_mem _ a_198)) d_Integer_bitCount_29 ?_
  refine lv_iand hx hb d_Integer_bitCount_32 ?_
  refine lv_topi (fun v0_3 ev => ?_)
  have h := nk_r ev h
  refine lv_istore_n (lv' := [(0, .int v0_3)]) hx hb d_Integer_bitCount_33 rfl hl (by decide) rfl (fun ls hl => ?_)
  refine lv_iload_n hx hb d_Integer_bitCount_34 rfl (lv_at hl 0 rfl) ?_
  refine lv_iload_n hx hb d_Integer_bitCount_35 rfl (lv_at hl 0 rfl) ?_
  refine lv_bipush (v := 8) hx hb d_Integer_bitCount_36 (by decide) ?_
  refine lv_iushr hx hb d_Integer_bitCount_38 rfl ?_
  refine lv_iadd hx hb d_Integer_bitCount_39 ?_
  refine lv_topi (fun v0_4 ev => ?_)
  have h := nk_r ev h
  refine lv_istore_n (lv' := [(0, .int v0_4)]) hx hb d_Integer_bitCount_40 rfl hl (by decide) rfl (fun ls hl => ?_)
  refine lv_iload_n hx hb d_Integer_bitCount_41 rfl (lv_at hl 0 rfl) ?_
  refine lv_iload_n hx hb d_Integer_bitCount_42 rfl (lv_at hl 0 rfl) ?_
  refine lv_bipush (v := 16) hx hb d_Integer_bitCount_43 (by decide) ?_
  refine lv_iushr hx hb d_Integer_bitCount_45 rfl ?_
  refine lv_iadd hx hb d_Integer_bitCount_46 ?_
  refine lv_topi (fun v0_5 ev => ?_)
  have h := nk_r ev h
  refine lv_istore_n (lv' := [(0, .int v0_5)]) hx hb d_Integer_bitCount_47 rfl hl (by decide) rfl (fun ls hl => ?_)
  refine lv_iload_n hx hb d_Integer_bitCount_48 rfl (lv_at hl 0 rfl) ?_
  refine lv_bipush (v := 63) hx hb d_Integer_bitCount_49 (by decide) ?_
  refine lv_iand hx hb d_Integer_bitCount_51 ?_
  exact ly_reti fx hr hlocks hk hw (Option.some.inj h) d_Integer_bitCount_52
set_option maxRecDepth 100000 in
set_option maxHeartbeats 4000000 in
theorem wl_Arrays_fill_6 {p : Program} {l : Launch} {e : Env} {s : State} {m : MethodId} {args : Array Value} {below : List Frame} {meth : Method} {c : Code} {D : va_G} {ad : Nat → Nat} {cA : Nat → ClassId} {A : Nat → Prop} (fx : CallFix p m c b_Arrays_fill 5 s args w_Arrays_fill y_Arrays_fill.cls) (hr : meth.sig.returnType = none) (hlocks : meth.locks = false) (hk : ly_K D clA layC cA s) (hA : ∀ q, s.heap.size ≤ q → A q) (hz : ZsC A s s.heap) (F : Nat) (q0 : Nat) (v1 : Int64) (v4 : Int32) (hq0 : q0 = 3 ∨ q0 = 5 ∨ q0 = 7) {k6 : Int32 → St → Option (Int32 × St)} {res : Int32 × St}
    (hX6 : ∀ (v3 : Int32) (u : St) (H : Heap) (locs : List Loc) (ls : Array Slot), k6 v3 u = some res → lv_has ls 5 [(0, .ref (ad (q0 + 1))), (1, .long v1), (3, .int v3), (4, .int v4)] → ly_G D clA layC ad cA A s.heap u H locs → W p l e { frames := 0, cells := 0, slots := 0, locals := 0 } s m args below meth c H locs 0 0 (MQ below (va_Qv (fun u1 => ((0 : Int32), u1) = res) (ly_B D clA layC ad cA A) A) args s 0 0 A) (F0 m 22 ls [])) :
    ∀ (n : Nat) (v3 : Int32) (u : St) (H : Heap) (locs : List Loc) (ls : Array Slot), lp_Arrays_fill_6 F q0 v1 v4 k6 n v3 u = some res → lv_has ls 5 [(0, .ref (ad (q0 + 1))), (1, .long v1), (3, .int v3), (4, .int v4)] → ly_G D clA layC ad cA A s.heap u H locs → W p l e { frames := 0, cells := 0, slots := 0, locals := 0 } s m args below meth c H locs 0 0 (MQ below (va_Qv (fun u1 => ((0 : Int32), u1) = res) (ly_B D clA layC ad cA A) A) args s 0 0 A) (F0 m 6 ls []) := by
  have hx := fx.1
  have hb := fx.2.1
  intro n
  induction n with
  | zero => intro v3 u H locs ls h; exact nomatch h
  | succ n ih =>
    intro v3 u H locs ls h hl hw
    rw [lp_Arrays_fill_6] at h
    refine lv_iload_n hx hb d_Arrays_fill_6 rfl (lv_at hl 2 rfl) ?_
    refine lv_iload hx hb d_Arrays_fill_7 (lv_at hl 3 rfl) ?_
    refine lv_icmp_ge (tgt := 22) hx hb d_Arrays_fill_9 (by decide) (fun hc => ?_) (fun hc => ?_)
    · have h := it_t hc h
      exact hX6 v3 u _ _ _ h (lv_sub hl [0, 1, 2, 3] rfl) hw
    · have h := it_f hc h
      refine lv_aload_n hx hb d_Arrays_fill_12 rfl (lv_at hl 0 rfl) ?_
      refine lv_iload_n hx hb d_Arrays_fill_13 rfl (lv_at hl 2 rfl) ?_
      refine lv_lload_n hx hb d_Arrays_fill_14 rfl (lv_at hl 1 rfl) ?_
      obtain ⟨hi1, h⟩ := it_in h
      refine ly_last fx hk hw (q0 + 1) (la_Mw hq0) hi1 d_Arrays_fill_15 (fun H locs hw => ?_)
      obtain ⟨u2, ev⟩ : ∃ z, z = ly_pl u (q0 + 1) v3.toNatClampNeg v1 := ⟨_, rfl⟩
      rw [← ev] at hw
      have h := nk_r ev h
      refine lv_iinc (lv' := [(3, .int (v3 + (1 : Int32))), (0, .ref (ad (q0 + 1))), (1, .long v1), (4, .int v4)]) (k := 2) hx hb d_Arrays_fill_16 hl rfl (oi_p1 _) (by decide) rfl (fun ls hl => ?_)
      refine lv_goto (tgt := 6) hx hb d_Arrays_fill_19 (by decide) ?_
      exact ih (v3 + (1 : Int32)) u2 _ _ _ h (lv_sub hl [1, 2, 0, 3] rfl) hw
set_option maxRecDepth 100000 in
set_option maxHeartbeats 4000000 in
theorem c_Arrays_fill (l : Launch) (F : Nat) (q : Nat) (a2 : Int64) (hq : q = 3 ∨ q = 5 ∨ q = 7) (u : St) (res : Int32 × St) (h : sp_Arrays_fill F q a2 u = some res) : ly_Mv ZsC clA layC l y_Arrays_fill w_Arrays_fill { frames := 0, cells := 0, slots := 0, locals := 0 } (fun ad => [.ref (ad (q + 1)), .long a2]) u (fun u1 => ((0 : Int32), u1) = res) := by
  refine ly_entv (cc := b_Arrays_fill) (maxL := 5) (ret := none) (by decide) rfl (fun ad => Nat.le_of_ble_eq_true rfl) ?_
  intro p e s m below meth c D ad cA A ls fx hr hlocks hk hA hz hw hl
  have hl : lv_has ls 5 [(0, .ref (ad (q + 1))), (1, .long a2)] := hl
  have hx := fx.1
  have hb := fx.2.1
  unfold sp_Arrays_fill at h
  refine lv_iconst (v := 0) hx hb d_Arrays_fill_0 (by decide) ?_
  refine lv_istore_n (lv' := [(3, .int (0 : Int32)), (0, .ref (ad (q + 1))), (1, .long a2)]) hx hb d_Arrays_fill_1 rfl hl (by decide) rfl (fun ls hl => ?_)
  refine lv_aload_n hx hb d_Arrays_fill_2 rfl (lv_at hl 1 rfl) ?_
  refine ly_alen (v := 256) fx hk hw (q + 1) (la_Mw hq) (by decide) d_Arrays_fill_3 ?_
  refine lv_istore (lv' := [(4, .int (256 : Int32)), (3, .int (0 : Int32)), (0, .ref (ad (q + 1))), (1, .long a2)]) hx hb d_Arrays_fill_4 hl (by decide) rfl (fun ls hl => ?_)
  refine wl_Arrays_fill_6 fx hr hlocks hk hA hz F q a2 (256 : Int32) hq (fun v3_3 u4 H locs ls h hl hw => ?_) _ (0 : Int32) u _ _ _ h (lv_sub hl [2, 3, 1, 0] rfl) hw
  exact ly_retv fx hr hlocks hk hw (Option.some.inj h) d_Arrays_fill_22
set_option maxRecDepth 100000 in
set_option maxHeartbeats 4000000 in
theorem c_Long_bitCount (l : Launch) (a1 : Int64) (u : St) (res : Int32 × St) (h : sp_Long_bitCount a1 u = some res) : ly_Mi ZsC clA layC l y_Long_bitCount w_Long_bitCount { frames := 0, cells := 0, slots := 0, locals := 0 } (fun ad => [.long a1]) u (fun r1 u1 => (r1, u1) = res) := by
  refine ly_enti (cc := b_Long_bitCount) (maxL := 2) (ret := (some .int)) (by decide) rfl (fun ad => Nat.le_of_ble_eq_true rfl) ?_
  intro p e s m below meth c D ad cA A ls fx hr hlocks hk hA hz hw hl
  have hl : lv_has ls 2 [(0, .long a1)] := hl
  have hx := fx.1
  have hb := fx.2.1
  unfold sp_Long_bitCount at h
  refine lv_lload_n hx hb d_Long_bitCount_0 rfl (lv_at hl 0 rfl) ?_
  refine lv_lload_n hx hb d_Long_bitCount_1 rfl (lv_at hl 0 rfl) ?_
  refine lv_iconst (v := 1) hx hb d_Long_bitCount_2 (by decide) ?_
  refine lv_lushr hx hb d_Long_bitCount_3 rfl ?_
  refine lv_ldc2 (v := 6148914691236517205) hx hb fx.2.2.2.1 (fx.2.2.2.2 _ (List.mem_cons_of_mem _ a_327)) d_Long_bitCount_4 ?_
  refine lv_land hx hb d_Long_bitCount_7 ?_
  refine lv_lsub hx hb d_Long_bitCount_8 ?_
  refine lv_topl (fun v0_1 ev => ?_)
  have h := nk_r ev h
  refine lv_lstore_n (lv' := [(0, .long v0_1)]) hx hb d_Long_bitCount_9 rfl hl (by decide) rfl (fun ls hl => ?_)
  refine lv_lload_n hx hb d_Long_bitCount_10 rfl (lv_at hl 0 rfl) ?_
  refine lv_ldc2 (v := 3689348814741910323) hx hb fx.2.2.2.1 (fx.2.2.2.2 _ (List.mem_cons_of_mem _ a_328)) d_Long_bitCount_11 ?_
  refine lv_land hx hb d_Long_bitCount_14 ?_
  refine lv_lload_n hx hb d_Long_bitCount_15 rfl (lv_at hl 0 rfl) ?_
  refine lv_iconst (v := 2) hx hb d_Long_bitCount_16 (by decide) ?_
  refine lv_lushr hx hb d_Long_bitCount_17 rfl ?_
  refine lv_ldc2 (v := 3689348814741910323) hx hb fx.2.2.2.1 (fx.2.2.2.2 _ (List.mem_cons_of_mem _ a_328)) d_Long_bitCount_18 ?_
  refine lv_land hx hb d_Long_bitCount_21 ?_
  refine lv_ladd hx hb d_Long_bitCount_22 ?_
  refine lv_topl (fun v0_2 ev => ?_)
  have h := nk_r ev h
  refine lv_lstore_n (lv' := [(0, .long v0_2)]) hx hb d_Long_bitCount_23 rfl hl (by decide) rfl (fun ls hl => ?_)
  refine lv_lload_n hx hb d_Long_bitCount_24 rfl (lv_at hl 0 rfl) ?_
  refine lv_lload_n hx hb d_Long_bitCount_25 rfl (lv_at hl 0 rfl) ?_
  refine lv_iconst (v := 4) hx hb d_Long_bitCount_26 (by decide) ?_
  refine lv_lushr hx hb d_Long_bitCount_27 rfl ?_
  refine lv_ladd hx hb d_Long_bitCount_28 ?_
  refine lv_ldc2 (v := 1085102592571150095) hx hb fx.2.2.2.1 (fx.2.2.2.2 _ (List.mem_cons_of_mem _ a_329)) d_Long_bitCount_29 ?_
  refine lv_land hx hb d_Long_bitCount_32 ?_
  refine lv_topl (fun v0_3 ev => ?_)
  have h := nk_r ev h
  refine lv_lstore_n (lv' := [(0, .long v0_3)]) hx hb d_Long_bitCount_33 rfl hl (by decide) rfl (fun ls hl => ?_)
  refine lv_lload_n hx hb d_Long_bitCount_34 rfl (lv_at hl 0 rfl) ?_
  refine lv_lload_n hx hb d_Long_bitCount_35 rfl (lv_at hl 0 rfl) ?_
  refine lv_bipush (v := 8) hx hb d_Long_bitCount_36 (by decide) ?_
  refine lv_lushr hx hb d_Long_bitCount_38 rfl ?_
  refine lv_ladd hx hb d_Long_bitCount_39 ?_
  refine lv_topl (fun v0_4 ev => ?_)
  have h := nk_r ev h
  refine lv_lstore_n (lv' := [(0, .long v0_4)]) hx hb d_Long_bitCount_40 rfl hl (by decide) rfl (fun ls hl => ?_)
  refine lv_lload_n hx hb d_Long_bitCount_41 rfl (lv_at hl 0 rfl) ?_
  refine lv_lload_n hx hb d_Long_bitCount_42 rfl (lv_at hl 0 rfl) ?_
  refine lv_bipush (v := 16) hx hb d_Long_bitCount_43 (by decide) ?_
  refine lv_lushr hx hb d_Long_bitCount_45 rfl ?_
  refine lv_ladd hx hb d_Long_bitCount_46 ?_
  refine lv_topl (fun v0_5 ev => ?_)
  have h := nk_r ev h
  refine lv_lstore_n (lv' := [(0, .long v0_5)]) hx hb d_Long_bitCount_47 rfl hl (by decide) rfl (fun ls hl => ?_)
  refine lv_lload_n hx hb d_Long_bitCount_48 rfl (lv_at hl 0 rfl) ?_
  refine lv_lload_n hx hb d_Long_bitCount_49 rfl (lv_at hl 0 rfl) ?_
  refine lv_bipush (v := 32) hx hb d_Long_bitCount_50 (by decide) ?_
  refine lv_lushr hx hb d_Long_bitCount_52 rfl ?_
  refine lv_ladd hx hb d_Long_bitCount_53 ?_
  refine lv_topl (fun v0_6 ev => ?_)
  have h := nk_r ev h
  refine lv_lstore_n (lv' := [(0, .long v0_6)]) hx hb d_Long_bitCount_54 rfl hl (by decide) rfl (fun ls hl => ?_)
  refine lv_lload_n hx hb d_Long_bitCount_55 rfl (lv_at hl 0 rfl) ?_
  refine lv_l2i hx hb d_Long_bitCount_56 rfl ?_
  refine lv_bipush (v := 127) hx hb d_Long_bitCount_57 (by decide) ?_
  refine lv_iand hx hb d_Long_bitCount_59 ?_
  exact ly_reti fx hr hlocks hk hw (Option.some.inj h) d_Long_bitCount_60
