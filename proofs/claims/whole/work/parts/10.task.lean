set_option maxRecDepth 100000 in
set_option maxHeartbeats 4000000 in
theorem c_Task_putWork (l : Launch) (t : Nat) (a1 : Int32) (a2 : Int32) (a3 : Int32) (a4 : Int32) (ht : t < 6) (u : St) (res : Int32 × St) (h : sp_Task_putWork t a1 a2 a3 a4 u = some res) : ly_Mv ZsC clA layC l y_Task_putWork w_Task_putWork { frames := 0, cells := 0, slots := 0, locals := 0 } (fun ad => [.ref (ad (9 + 6 * t)), .int a1, .int a2, .int a3, .int a4]) u (fun u1 => ((0 : Int32), u1) = res) := by
  refine ly_entv (cc := b_Task_putWork) (maxL := 5) (ret := none) (by decide) rfl (fun ad => Nat.le_of_ble_eq_true rfl) ?_
  intro p e s m below meth c D ad cA A ls fx hr hlocks hk hA hz hw hl
  have hl : lv_has ls 5 [(0, .ref (ad (9 + 6 * t))), (1, .int a1), (2, .int a2), (3, .int a3), (4, .int a4)] := hl
  have hx := fx.1
  have hb := fx.2.1
  unfold sp_Task_putWork at h
  refine lv_aload_n hx hb d_Task_putWork_0 rfl (lv_at hl 0 rfl) ?_
  refine lv_iload_n hx hb d_Task_putWork_1 rfl (lv_at hl 1 rfl) ?_
  refine ly_put (v := a1) fx hk hw (9 + 6 * t) (la_T ht) rfl i_Task t_Task t_Task_ok n_Task 7 (by decide) rfl rfl rfl (List.mem_cons_of_mem _ a_61) rfl rfl d_Task_putWork_2 (fun H locs hw => ?_)
  obtain ⟨u1, ev⟩ : ∃ z, z = ly_pi u (9 + 6 * t) 7 a1 := ⟨_, rfl⟩
  rw [← ev] at hw
  have h := nk_r ev h
  refine lv_aload_n hx hb d_Task_putWork_5 rfl (lv_at hl 0 rfl) ?_
  refine lv_iload_n hx hb d_Task_putWork_6 rfl (lv_at hl 2 rfl) ?_
  refine ly_put (v := a2) fx hk hw (9 + 6 * t) (la_T ht) rfl i_Task t_Task t_Task_ok n_Task 8 (by decide) rfl rfl rfl (List.mem_cons_of_mem _ a_63) rfl rfl d_Task_putWork_7 (fun H locs hw => ?_)
  obtain ⟨u2, ev⟩ : ∃ z, z = ly_pi u1 (9 + 6 * t) 8 a2 := ⟨_, rfl⟩
  rw [← ev] at hw
  have h := nk_r ev h
  refine lv_aload_n hx hb d_Task_putWork_10 rfl (lv_at hl 0 rfl) ?_
  refine lv_iload_n hx hb d_Task_putWork_11 rfl (lv_at hl 3 rfl) ?_
  refine ly_put (v := a3) fx hk hw (9 + 6 * t) (la_T ht) rfl i_Task t_Task t_Task_ok n_Task 9 (by decide) rfl rfl rfl (List.mem_cons_of_mem _ a_65) rfl rfl d_Task_putWork_12 (fun H locs hw => ?_)
  obtain ⟨u3, ev⟩ : ∃ z, z = ly_pi u2 (9 + 6 * t) 9 a3 := ⟨_, rfl⟩
  rw [← ev] at hw
  have h := nk_r ev h
  refine lv_aload_n hx hb d_Task_putWork_15 rfl (lv_at hl 0 rfl) ?_
  refine lv_iload hx hb d_Task_putWork_16 (lv_at hl 4 rfl) ?_
  refine ly_put (v := a4) fx hk hw (9 + 6 * t) (la_T ht) rfl i_Task t_Task t_Task_ok n_Task 10 (by decide) rfl rfl rfl (List.mem_cons_of_mem _ a_67) rfl rfl d_Task_putWork_18 (fun H locs hw => ?_)
  obtain ⟨u4, ev⟩ : ∃ z, z = ly_pi u3 (9 + 6 * t) 10 a4 := ⟨_, rfl⟩
  rw [← ev] at hw
  have h := nk_r ev h
  exact ly_retv fx hr hlocks hk hw (Option.some.inj h) d_Task_putWork_21
set_option maxRecDepth 100000 in
set_option maxHeartbeats 4000000 in
theorem c_Task_putGuard (l : Launch) (t : Nat) (a1 : Int32) (a2 : Int32) (a3 : Int32) (a4 : Int32) (ht : t < 6) (u : St) (res : Int32 × St) (h : sp_Task_putGuard t a1 a2 a3 a4 u = some res) : ly_Mv ZsC clA layC l y_Task_putGuard w_Task_putGuard { frames := 0, cells := 0, slots := 0, locals := 0 } (fun ad => [.ref (ad (9 + 6 * t)), .int a1, .int a2, .int a3, .int a4]) u (fun u1 => ((0 : Int32), u1) = res) := by
  refine ly_entv (cc := b_Task_putGuard) (maxL := 5) (ret := none) (by decide) rfl (fun ad => Nat.le_of_ble_eq_true rfl) ?_
  intro p e s m below meth c D ad cA A ls fx hr hlocks hk hA hz hw hl
  have hl : lv_has ls 5 [(0, .ref (ad (9 + 6 * t))), (1, .int a1), (2, .int a2), (3, .int a3), (4, .int a4)] := hl
  have hx := fx.1
  have hb := fx.2.1
  unfold sp_Task_putGuard at h
  refine lv_aload_n hx hb d_Task_putGuard_0 rfl (lv_at hl 0 rfl) ?_
  refine ly_getr fx hk hw (9 + 6 * t) (la_T ht) rfl i_Task 16 (by decide) rfl rfl (List.mem_cons_of_mem _ a_78) d_Task_putGuard_1 ?_
  refine lv_iload_n hx hb d_Task_putGuard_4 rfl (lv_at hl 1 rfl) ?_
  refine lv_iload_n hx hb d_Task_putGuard_5 rfl (lv_at hl 2 rfl) ?_
  obtain ⟨hi1, h⟩ := it_in h
  refine ly_iast fx hk hw (9 + 6 * t + 3) (la_T3 ht) hi1 d_Task_putGuard_6 (fun H locs hw => ?_)
  obtain ⟨u2, ev⟩ : ∃ z, z = ly_pi u (9 + 6 * t + 3) a1.toNatClampNeg a2 := ⟨_, rfl⟩
  rw [← ev] at hw
  have h := nk_r ev h
  refine lv_aload_n hx hb d_Task_putGuard_7 rfl (lv_at hl 0 rfl) ?_
  refine ly_getr fx hk hw (9 + 6 * t) (la_T ht) rfl i_Task 17 (by decide) rfl rfl (List.mem_cons_of_mem _ a_79) d_Task_putGuard_8 ?_
  refine lv_iload_n hx hb d_Task_putGuard_11 rfl (lv_at hl 1 rfl) ?_
  refine lv_iload_n hx hb d_Task_putGuard_12 rfl (lv_at hl 3 rfl) ?_
  obtain ⟨hi3, h⟩ := it_in h
  refine ly_iast fx hk hw (9 + 6 * t + 4) (la_T4 ht) hi3 d_Task_putGuard_13 (fun H locs hw => ?_)
  obtain ⟨u4, ev⟩ : ∃ z, z = ly_pi u2 (9 + 6 * t + 4) a1.toNatClampNeg a3 := ⟨_, rfl⟩
  rw [← ev] at hw
  have h := nk_r ev h
  refine lv_aload_n hx hb d_Task_putGuard_14 rfl (lv_at hl 0 rfl) ?_
  refine ly_getr fx hk hw (9 + 6 * t) (la_T ht) rfl i_Task 18 (by decide) rfl rfl (List.mem_cons_of_mem _ a_80) d_Task_putGuard_15 ?_
  refine lv_iload_n hx hb d_Task_putGuard_18 rfl (lv_at hl 1 rfl) ?_
  refine lv_iload hx hb d_Task_putGuard_19 (lv_at hl 4 rfl) ?_
  obtain ⟨hi5, h⟩ := it_in h
  refine ly_iast fx hk hw (9 + 6 * t + 5) (la_T5 ht) hi5 d_Task_putGuard_21 (fun H locs hw => ?_)
  obtain ⟨u6, ev⟩ : ∃ z, z = ly_pi u4 (9 + 6 * t + 5) a1.toNatClampNeg a4 := ⟨_, rfl⟩
  rw [← ev] at hw
  have h := nk_r ev h
  exact ly_retv fx hr hlocks hk hw (Option.some.inj h) d_Task_putGuard_22
set_option maxRecDepth 100000 in
set_option maxHeartbeats 4000000 in
theorem c_Task_isMoveOf (l : Launch) (a1 : Int32) (a2 : Int32) (a3 : Int32) (u : St) (res : Int32 × St) (h : sp_Task_isMoveOf a1 a2 a3 u = some res) : ly_Mi ZsC clA layC l y_Task_isMoveOf w_Task_isMoveOf { frames := 1, cells := 0, slots := 0, locals := 20 } (fun ad => [.int a1, .int a2, .int a3]) u (fun r1 u1 => (r1, u1) = res) := by
  refine ly_enti (cc := b_Task_isMoveOf) (maxL := 3) (ret := (some .boolean)) (by decide) rfl (fun ad => Nat.le_of_ble_eq_true rfl) ?_
  intro p e s m below meth c D ad cA A ls fx hr hlocks hk hA hz hw hl
  have hl : lv_has ls 3 [(0, .int a1), (1, .int a2), (2, .int a3)] := hl
  have hx := fx.1
  have hb := fx.2.1
  unfold sp_Task_isMoveOf at h
  refine lv_iload_n hx hb d_Task_isMoveOf_0 rfl (lv_at hl 0 rfl) ?_
  by_cases hc1 : a1 = (0 : Int32)
  · have h := it_t hc1 h
    refine lv_lookup (off := 27) (tgt := 28) hx hb d_Task_isMoveOf_1 (by decide) (by rw [hc1]; decide) (by decide) ?_
    refine lv_iload_n hx hb d_Task_isMoveOf_28 rfl (lv_at hl 1 rfl) ?_
    refine lv_iload_n hx hb d_Task_isMoveOf_29 rfl (lv_at hl 2 rfl) ?_
    refine lv_icmp_ne (tgt := 37) hx hb d_Task_isMoveOf_30 (by decide) (fun hc => ?_) (fun hc => ?_)
    · have h := it_f hc h
      refine lv_iconst (v := 0) hx hb d_Task_isMoveOf_37 (by decide) ?_
      exact ly_retz fx hr hlocks hk hw (Or.inl rfl) (Option.some.inj h) d_Task_isMoveOf_38
    · have h := it_t hc h
      refine lv_iconst (v := 1) hx hb d_Task_isMoveOf_33 (by decide) ?_
      refine lv_goto (tgt := 38) hx hb d_Task_isMoveOf_34 (by decide) ?_
      exact ly_retz fx hr hlocks hk hw (Or.inr rfl) (Option.some.inj h) d_Task_isMoveOf_38
  have h := it_f hc1 h
  by_cases hc5 : a1 = (1 : Int32)
  · have h := it_t hc5 h
    refine lv_lookup (off := 38) (tgt := 39) hx hb d_Task_isMoveOf_1 (by decide) (by rw [hc5]; decide) (by decide) ?_
    refine lv_iload_n hx hb d_Task_isMoveOf_39 rfl (lv_at hl 1 rfl) ?_
    obtain ⟨r2, u3, hq4, h⟩ := ck_r h
    refine ly_callSi (As := [.int a2]) (rest := []) ZsC_ok fx hk hz hA hw (c_Integer_bitCount l a2 u _ hq4) (cw_S fx.2.2.2.2 a_220 a_194 a_7 ac_Integer_bitCount rfl rfl hd_Integer_bitCount ⟨Nat.le_of_ble_eq_true rfl, Nat.le_of_ble_eq_true rfl⟩) rfl rfl hl.1 rfl (Nat.le_of_ble_eq_true rfl) d_Task_isMoveOf_40 (Nat.zero_le _) (Nat.zero_le _) (fun r' u' H locs hp hw => ?_)
    cases hp
    refine lv_iconst (v := 1) hx hb d_Task_isMoveOf_43 (by decide) ?_
    refine lv_icmp_ne (tgt := 51) hx hb d_Task_isMoveOf_44 (by decide) (fun hc => ?_) (fun hc => ?_)
    · have h := it_f hc h
      refine lv_iconst (v := 0) hx hb d_Task_isMoveOf_51 (by decide) ?_
      exact ly_retz fx hr hlocks hk hw (Or.inl rfl) (Option.some.inj h) d_Task_isMoveOf_52
    · have h := it_t hc h
      refine lv_iconst (v := 1) hx hb d_Task_isMoveOf_47 (by decide) ?_
      refine lv_goto (tgt := 52) hx hb d_Task_isMoveOf_48 (by decide) ?_
      exact ly_retz fx hr hlocks hk hw (Or.inr rfl) (Option.some.inj h) d_Task_isMoveOf_52
  have h := it_f hc5 h
  refine lv_lookup (off := 52) (tgt := 53) hx hb d_Task_isMoveOf_1 (by decide) ((lv_osw hc1 (by decide)).trans ((lv_osw hc5 (by decide)).trans rfl)) (by decide) ?_
  refine lv_iconst (v := 1) hx hb d_Task_isMoveOf_53 (by decide) ?_
  exact ly_retz fx hr hlocks hk hw (Or.inr rfl) (Option.some.inj h) d_Task_isMoveOf_54
set_option maxRecDepth 100000 in
set_option maxHeartbeats 4000000 in
theorem wl_Task_listTakes_7 {p : Program} {l : Launch} {e : Env} {s : State} {m : MethodId} {args : Array Value} {below : List Frame} {meth : Method} {c : Code} {D : va_G} {ad : Nat → Nat} {cA : Nat → ClassId} {A : Nat → Prop} (fx : CallFix p m c b_Task_listTakes 2 s args w_Task_listTakes y_Task_listTakes.cls) (hr : meth.sig.returnType = none) (hlocks : meth.locks = false) (hk : ly_K D clA layC cA s) (hA : ∀ q, s.heap.size ≤ q → A q) (hz : ZsC A s s.heap) (F : Nat) (t0 : Nat) (ht0 : t0 < 6) {k7 : Int32 → St → Option (Int32 × St)} {res : Int32 × St}
    (hX7 : ∀ (v1 : Int32) (u : St) (H : Heap) (locs : List Loc) (ls : Array Slot), k7 v1 u = some res → lv_has ls 2 [(0, .ref (ad (9 + 6 * t0))), (1, .int v1)] → ly_G D clA layC ad cA A s.heap u H locs → W p l e { frames := 2, cells := 0, slots := 0, locals := 42 } s m args below meth c H locs 0 0 (MQ below (va_Qv (fun u1 => ((0 : Int32), u1) = res) (ly_B D clA layC ad cA A) A) args s 0 0 A) (F0 m 75 ls [])) :
    ∀ (n : Nat) (v1 : Int32) (u : St) (H : Heap) (locs : List Loc) (ls : Array Slot), lp_Task_listTakes_7 F t0 k7 n v1 u = some res → lv_has ls 2 [(0, .ref (ad (9 + 6 * t0))), (1, .int v1)] → ly_G D clA layC ad cA A s.heap u H locs → W p l e { frames := 2, cells := 0, slots := 0, locals := 42 } s m args below meth c H locs 0 0 (MQ below (va_Qv (fun u1 => ((0 : Int32), u1) = res) (ly_B D clA layC ad cA A) A) args s 0 0 A) (F0 m 7 ls []) := by
  have hx := fx.1
  have hb := fx.2.1
  intro n
  induction n with
  | zero => intro v1 u H locs ls h; exact nomatch h
  | succ n ih =>
    intro v1 u H locs ls h hl hw
    rw [lp_Task_listTakes_7] at h
    refine lv_iload_n hx hb d_Task_listTakes_7 rfl (lv_at hl 1 rfl) ?_
    refine lv_aload_n hx hb d_Task_listTakes_8 rfl (lv_at hl 0 rfl) ?_
    refine ly_get fx hk hw (9 + 6 * t0) (la_T ht0) rfl i_Task 4 (by decide) rfl rfl (List.mem_cons_of_mem _ a_54) d_Task_listTakes_9 ?_
    refine lv_icmp_gt (tgt := 75) hx hb d_Task_listTakes_12 (by decide) (fun hc => ?_) (fun hc => ?_)
    · have h := it_t hc h
      exact hX7 v1 u _ _ _ h (lv_sub hl [0, 1] rfl) hw
    · have h := it_f hc h
      refine lv_iload_n hx hb d_Task_listTakes_15 rfl (lv_at hl 1 rfl) ?_
      refine lv_aload_n hx hb d_Task_listTakes_16 rfl (lv_at hl 0 rfl) ?_
      refine ly_get fx hk hw (9 + 6 * t0) (la_T ht0) rfl i_Task 4 (by decide) rfl rfl (List.mem_cons_of_mem _ a_54) d_Task_listTakes_17 ?_
      refine lv_iconst (v := -1) hx hb d_Task_listTakes_20 (by decide) ?_
      refine lv_ixor hx hb d_Task_listTakes_21 ?_
      refine lv_iand hx hb d_Task_listTakes_22 ?_
      refine lv_if_ne (tgt := 69) hx hb d_Task_listTakes_23 (by decide) (fun hc => ?_) (fun hc => ?_)
      · have h := it_f hc h
        refine lv_iinc (lv' := [(1, .int (v1 + (1 : Int32))), (0, .ref (ad (9 + 6 * t0)))]) (k := 1) hx hb d_Task_listTakes_69 hl rfl (oi_p1 _) (by decide) rfl (fun ls hl => ?_)
        refine lv_goto (tgt := 7) hx hb d_Task_listTakes_72 (by decide) ?_
        exact ih (v1 + (1 : Int32)) u _ _ _ h (lv_sub hl [1, 0] rfl) hw
      · have h := it_t hc h
        refine lv_aload_n hx hb d_Task_listTakes_26 rfl (lv_at hl 0 rfl) ?_
        refine ly_get fx hk hw (9 + 6 * t0) (la_T ht0) rfl i_Task 2 (by decide) rfl rfl (List.mem_cons_of_mem _ a_50) d_Task_listTakes_27 ?_
        refine lv_if_ne (tgt := 37) hx hb d_Task_listTakes_30 (by decide) (fun hc => ?_) (fun hc => ?_)
        · have h := it_f hc h
          refine lv_iconst (v := 1) hx hb d_Task_listTakes_37 (by decide) ?_
          refine lv_iload_n hx hb d_Task_listTakes_38 rfl (lv_at hl 1 rfl) ?_
          refine lv_aload_n hx hb d_Task_listTakes_39 rfl (lv_at hl 0 rfl) ?_
          refine ly_get fx hk hw (9 + 6 * t0) (la_T ht0) rfl i_Task 4 (by decide) rfl rfl (List.mem_cons_of_mem _ a_54) d_Task_listTakes_40 ?_
          obtain ⟨r2, u3, hq4, h⟩ := ck_r h
          refine ly_callSi (As := [.int (1 : Int32), .int v1, .int (u.1 (9 + 6 * t0) 4)]) (rest := []) ZsC_ok fx hk hz hA hw (c_Task_isMoveOf l (1 : Int32) v1 (u.1 (9 + 6 * t0) 4) u _ hq4) (cw_S fx.2.2.2.2 a_217 a_218 a_4 ac_Task_isMoveOf rfl rfl hd_Task_isMoveOf ⟨Nat.le_of_ble_eq_true rfl, Nat.le_of_ble_eq_true rfl⟩) rfl rfl hl.1 rfl (Nat.le_of_ble_eq_true rfl) d_Task_listTakes_43 (Nat.zero_le _) (Nat.zero_le _) (fun r' u' H locs hp hw => ?_)
          cases hp
          refine lv_if_eq (tgt := 69) hx hb d_Task_listTakes_46 (by decide) (fun hc => ?_) (fun hc => ?_)
          · have h := it_t hc h
            refine lv_iinc (lv' := [(1, .int (v1 + (1 : Int32))), (0, .ref (ad (9 + 6 * t0)))]) (k := 1) hx hb d_Task_listTakes_69 hl rfl (oi_p1 _) (by decide) rfl (fun ls hl => ?_)
            refine lv_goto (tgt := 7) hx hb d_Task_listTakes_72 (by decide) ?_
            exact ih (v1 + (1 : Int32)) u3 _ _ _ h (lv_sub hl [1, 0] rfl) hw
          · have h := it_f hc h
            refine lv_aload_n hx hb d_Task_listTakes_49 rfl (lv_at hl 0 rfl) ?_
            refine ly_getr fx hk hw (9 + 6 * t0) (la_T ht0) rfl i_Task 12 (by decide) rfl rfl (List.mem_cons_of_mem _ a_70) d_Task_listTakes_50 ?_
            refine lv_aload_n hx hb d_Task_listTakes_53 rfl (lv_at hl 0 rfl) ?_
            refine ly_get fx hk hw (9 + 6 * t0) (la_T ht0) rfl i_Task 14 (by decide) rfl rfl (List.mem_cons_of_mem _ a_74) d_Task_listTakes_54 ?_
            refine lv_iload_n hx hb d_Task_listTakes_57 rfl (lv_at hl 1 rfl) ?_
            obtain ⟨hi5, h⟩ := it_in h
            refine ly_iast fx hk hw (9 + 6 * t0 + 1) (la_T1 ht0) hi5 d_Task_listTakes_58 (fun H locs hw => ?_)
            obtain ⟨u6, ev⟩ : ∃ z, z = ly_pi u3 (9 + 6 * t0 + 1) (u3.1 (9 + 6 * t0) 14).toNatClampNeg v1 := ⟨_, rfl⟩
            rw [← ev] at hw
            have h := nk_r ev h
            refine lv_aload_n hx hb d_Task_listTakes_59 rfl (lv_at hl 0 rfl) ?_
            refine lv_dup hx hb d_Task_listTakes_60 rfl ?_
            refine ly_get fx hk hw (9 + 6 * t0) (la_T ht0) rfl i_Task 14 (by decide) rfl rfl (List.mem_cons_of_mem _ a_74) d_Task_listTakes_61 ?_
            refine lv_iconst (v := 1) hx hb d_Task_listTakes_64 (by decide) ?_
            refine lv_iadd hx hb d_Task_listTakes_65 ?_
            refine ly_put (v := ((u6.1 (9 + 6 * t0) 14) + (1 : Int32))) fx hk hw (9 + 6 * t0) (la_T ht0) rfl i_Task t_Task t_Task_ok n_Task 14 (by decide) rfl rfl rfl (List.mem_cons_of_mem _ a_74) rfl rfl d_Task_listTakes_66 (fun H locs hw => ?_)
            obtain ⟨u7, ev⟩ : ∃ z, z = ly_pi u6 (9 + 6 * t0) 14 ((u6.1 (9 + 6 * t0) 14) + (1 : Int32)) := ⟨_, rfl⟩
            rw [← ev] at hw
            have h := nk_r ev h
            refine lv_iinc (lv' := [(1, .int (v1 + (1 : Int32))), (0, .ref (ad (9 + 6 * t0)))]) (k := 1) hx hb d_Task_listTakes_69 hl rfl (oi_p1 _) (by decide) rfl (fun ls hl => ?_)
            refine lv_goto (tgt := 7) hx hb d_Task_listTakes_72 (by decide) ?_
            exact ih (v1 + (1 : Int32)) u7 _ _ _ h (lv_sub hl [1, 0] rfl) hw
        · have h := it_t hc h
          refine lv_iconst (v := 0) hx hb d_Task_listTakes_33 (by decide) ?_
          refine lv_goto (tgt := 38) hx hb d_Task_listTakes_34 (by decide) ?_
          refine lv_iload_n hx hb d_Task_listTakes_38 rfl (lv_at hl 1 rfl) ?_
          refine lv_aload_n hx hb d_Task_listTakes_39 rfl (lv_at hl 0 rfl) ?_
          refine ly_get fx hk hw (9 + 6 * t0) (la_T ht0) rfl i_Task 4 (by decide) rfl rfl (List.mem_cons_of_mem _ a_54) d_Task_listTakes_40 ?_
          obtain ⟨r8, u9, hq10, h⟩ := ck_r h
          refine ly_callSi (As := [.int (0 : Int32), .int v1, .int (u.1 (9 + 6 * t0) 4)]) (rest := []) ZsC_ok fx hk hz hA hw (c_Task_isMoveOf l (0 : Int32) v1 (u.1 (9 + 6 * t0) 4) u _ hq10) (cw_S fx.2.2.2.2 a_217 a_218 a_4 ac_Task_isMoveOf rfl rfl hd_Task_isMoveOf ⟨Nat.le_of_ble_eq_true rfl, Nat.le_of_ble_eq_true rfl⟩) rfl rfl hl.1 rfl (Nat.le_of_ble_eq_true rfl) d_Task_listTakes_43 (Nat.zero_le _) (Nat.zero_le _) (fun r' u' H locs hp hw => ?_)
          cases hp
          refine lv_if_eq (tgt := 69) hx hb d_Task_listTakes_46 (by decide) (fun hc => ?_) (fun hc => ?_)
          · have h := it_t hc h
            refine lv_iinc (lv' := [(1, .int (v1 + (1 : Int32))), (0, .ref (ad (9 + 6 * t0)))]) (k := 1) hx hb d_Task_listTakes_69 hl rfl (oi_p1 _) (by decide) rfl (fun ls hl => ?_)
            refine lv_goto (tgt := 7) hx hb d_Task_listTakes_72 (by decide) ?_
            exact ih (v1 + (1 : Int32)) u9 _ _ _ h (lv_sub hl [1, 0] rfl) hw
          · have h := it_f hc h
            refine lv_aload_n hx hb d_Task_listTakes_49 rfl (lv_at hl 0 rfl) ?_
            refine ly_getr fx hk hw (9 + 6 * t0) (la_T ht0) rfl i_Task 12 (by decide) rfl rfl (List.mem_cons_of_mem _ a_70) d_Task_listTakes_50 ?_
            refine lv_aload_n hx hb d_Task_listTakes_53 rfl (lv_at hl 0 rfl) ?_
            refine ly_get fx hk hw (9 + 6 * t0) (la_T ht0) rfl i_Task 14 (by decide) rfl rfl (List.mem_cons_of_mem _ a_74) d_Task_listTakes_54 ?_
            refine lv_iload_n hx hb d_Task_listTakes_57 rfl (lv_at hl 1 rfl) ?_
            obtain ⟨hi11, h⟩ := it_in h
            refine ly_iast fx hk hw (9 + 6 * t0 + 1) (la_T1 ht0) hi11 d_Task_listTakes_58 (fun H locs hw => ?_)
            obtain ⟨u12, ev⟩ : ∃ z, z = ly_pi u9 (9 + 6 * t0 + 1) (u9.1 (9 + 6 * t0) 14).toNatClampNeg v1 := ⟨_, rfl⟩
            rw [← ev] at hw
            have h := nk_r ev h
            refine lv_aload_n hx hb d_Task_listTakes_59 rfl (lv_at hl 0 rfl) ?_
            refine lv_dup hx hb d_Task_listTakes_60 rfl ?_
            refine ly_get fx hk hw (9 + 6 * t0) (la_T ht0) rfl i_Task 14 (by decide) rfl rfl (List.mem_cons_of_mem _ a_74) d_Task_listTakes_61 ?_
            refine lv_iconst (v := 1) hx hb d_Task_listTakes_64 (by decide) ?_
            refine lv_iadd hx hb d_Task_listTakes_65 ?_
            refine ly_put (v := ((u12.1 (9 + 6 * t0) 14) + (1 : Int32))) fx hk hw (9 + 6 * t0) (la_T ht0) rfl i_Task t_Task t_Task_ok n_Task 14 (by decide) rfl rfl rfl (List.mem_cons_of_mem _ a_74) rfl rfl d_Task_listTakes_66 (fun H locs hw => ?_)
            obtain ⟨u13, ev⟩ : ∃ z, z = ly_pi u12 (9 + 6 * t0) 14 ((u12.1 (9 + 6 * t0) 14) + (1 : Int32)) := ⟨_, rfl⟩
            rw [← ev] at hw
            have h := nk_r ev h
            refine lv_iinc (lv' := [(1, .int (v1 + (1 : Int32))), (0, .ref (ad (9 + 6 * t0)))]) (k := 1) hx hb d_Task_listTakes_69 hl rfl (oi_p1 _) (by decide) rfl (fun ls hl => ?_)
            refine lv_goto (tgt := 7) hx hb d_Task_listTakes_72 (by decide) ?_
            exact ih (v1 + (1 : Int32)) u13 _ _ _ h (lv_sub hl [1, 0] rfl) hw
set_option maxRecDepth 100000 in
set_option maxHeartbeats 4000000 in
theorem c_Task_listTakes (l : Launch) (F : Nat) (t : Nat) (ht : t < 6) (u : St) (res : Int32 × St) (h : sp_Task_listTakes F t u = some res) : ly_Mv ZsC clA layC l y_Task_listTakes w_Task_listTakes { frames := 2, cells := 0, slots := 0, locals := 42 } (fun ad => [.ref (ad (9 + 6 * t))]) u (fun u1 => ((0 : Int32), u1) = res) := by
  refine ly_entv (cc := b_Task_listTakes) (maxL := 2) (ret := none) (by decide) rfl (fun ad => Nat.le_of_ble_eq_true rfl) ?_
  intro p e s m below meth c D ad cA A ls fx hr hlocks hk hA hz hw hl
  have hl : lv_has ls 2 [(0, .ref (ad (9 + 6 * t)))] := hl
  have hx := fx.1
  have hb := fx.2.1
  unfold sp_Task_listTakes at h
  refine lv_aload_n hx hb d_Task_listTakes_0 rfl (lv_at hl 0 rfl) ?_
  refine lv_iconst (v := 0) hx hb d_Task_listTakes_1 (by decide) ?_
  refine ly_put (v := (0 : Int32)) fx hk hw (9 + 6 * t) (la_T ht) rfl i_Task t_Task t_Task_ok n_Task 14 (by decide) rfl rfl rfl (List.mem_cons_of_mem _ a_74) rfl rfl d_Task_listTakes_2 (fun H locs hw => ?_)
  obtain ⟨u1, ev⟩ : ∃ z, z = ly_pi u (9 + 6 * t) 14 (0 : Int32) := ⟨_, rfl⟩
  rw [← ev] at hw
  have h := nk_r ev h
  refine lv_iconst (v := 1) hx hb d_Task_listTakes_5 (by decide) ?_
  refine lv_istore_n (lv' := [(1, .int (1 : Int32)), (0, .ref (ad (9 + 6 * t)))]) hx hb d_Task_listTakes_6 rfl hl (by decide) rfl (fun ls hl => ?_)
  refine wl_Task_listTakes_7 fx hr hlocks hk hA hz F t ht (fun v1_14 u15 H locs ls h hl hw => ?_) _ (1 : Int32) u1 _ _ _ h (lv_sub hl [1, 0] rfl) hw
  exact ly_retv fx hr hlocks hk hw (Option.some.inj h) d_Task_listTakes_75
set_option maxRecDepth 100000 in
set_option maxHeartbeats 4000000 in
theorem wl_Task_listPuts_7 {p : Program} {l : Launch} {e : Env} {s : State} {m : MethodId} {args : Array Value} {below : List Frame} {meth : Method} {c : Code} {D : va_G} {ad : Nat → Nat} {cA : Nat → ClassId} {A : Nat → Prop} (fx : CallFix p m c b_Task_listPuts 2 s args w_Task_listPuts y_Task_listPuts.cls) (hr : meth.sig.returnType = none) (hlocks : meth.locks = false) (hk : ly_K D clA layC cA s) (hA : ∀ q, s.heap.size ≤ q → A q) (hz : ZsC A s s.heap) (F : Nat) (t0 : Nat) (ht0 : t0 < 6) {k7 : Int32 → St → Option (Int32 × St)} {res : Int32 × St}
    (hX7 : ∀ (v1 : Int32) (u : St) (H : Heap) (locs : List Loc) (ls : Array Slot), k7 v1 u = some res → lv_has ls 2 [(0, .ref (ad (9 + 6 * t0))), (1, .int v1)] → ly_G D clA layC ad cA A s.heap u H locs → W p l e { frames := 2, cells := 0, slots := 0, locals := 42 } s m args below meth c H locs 0 0 (MQ below (va_Qv (fun u1 => ((0 : Int32), u1) = res) (ly_B D clA layC ad cA A) A) args s 0 0 A) (F0 m 67 ls [])) :
    ∀ (n : Nat) (v1 : Int32) (u : St) (H : Heap) (locs : List Loc) (ls : Array Slot), lp_Task_listPuts_7 F t0 k7 n v1 u = some res → lv_has ls 2 [(0, .ref (ad (9 + 6 * t0))), (1, .int v1)] → ly_G D clA layC ad cA A s.heap u H locs → W p l e { frames := 2, cells := 0, slots := 0, locals := 42 } s m args below meth c H locs 0 0 (MQ below (va_Qv (fun u1 => ((0 : Int32), u1) = res) (ly_B D clA layC ad cA A) A) args s 0 0 A) (F0 m 7 ls []) := by
  have hx := fx.1
  have hb := fx.2.1
  intro n
  induction n with
  | zero => intro v1 u H locs ls h; exact nomatch h
  | succ n ih =>
    intro v1 u H locs ls h hl hw
    rw [lp_Task_listPuts_7] at h
    refine lv_iload_n hx hb d_Task_listPuts_7 rfl (lv_at hl 1 rfl) ?_
    refine lv_aload_n hx hb d_Task_listPuts_8 rfl (lv_at hl 0 rfl) ?_
    refine ly_get fx hk hw (9 + 6 * t0) (la_T ht0) rfl i_Task 5 (by decide) rfl rfl (List.mem_cons_of_mem _ a_56) d_Task_listPuts_9 ?_
    refine lv_icmp_gt (tgt := 67) hx hb d_Task_listPuts_12 (by decide) (fun hc => ?_) (fun hc => ?_)
    · have h := it_t hc h
      exact hX7 v1 u _ _ _ h (lv_sub hl [0, 1] rfl) hw
    · have h := it_f hc h
      refine lv_iload_n hx hb d_Task_listPuts_15 rfl (lv_at hl 1 rfl) ?_
      refine lv_aload_n hx hb d_Task_listPuts_16 rfl (lv_at hl 0 rfl) ?_
      refine ly_get fx hk hw (9 + 6 * t0) (la_T ht0) rfl i_Task 5 (by decide) rfl rfl (List.mem_cons_of_mem _ a_56) d_Task_listPuts_17 ?_
      refine lv_iconst (v := -1) hx hb d_Task_listPuts_20 (by decide) ?_
      refine lv_ixor hx hb d_Task_listPuts_21 ?_
      refine lv_iand hx hb d_Task_listPuts_22 ?_
      refine lv_if_ne (tgt := 61) hx hb d_Task_listPuts_23 (by decide) (fun hc => ?_) (fun hc => ?_)
      · have h := it_f hc h
        refine lv_iinc (lv' := [(1, .int (v1 + (1 : Int32))), (0, .ref (ad (9 + 6 * t0)))]) (k := 1) hx hb d_Task_listPuts_61 hl rfl (oi_p1 _) (by decide) rfl (fun ls hl => ?_)
        refine lv_goto (tgt := 7) hx hb d_Task_listPuts_64 (by decide) ?_
        exact ih (v1 + (1 : Int32)) u _ _ _ h (lv_sub hl [1, 0] rfl) hw
      · have h := it_t hc h
        refine lv_aload_n hx hb d_Task_listPuts_26 rfl (lv_at hl 0 rfl) ?_
        refine ly_get fx hk hw (9 + 6 * t0) (la_T ht0) rfl i_Task 3 (by decide) rfl rfl (List.mem_cons_of_mem _ a_53) d_Task_listPuts_27 ?_
        refine lv_iload_n hx hb d_Task_listPuts_30 rfl (lv_at hl 1 rfl) ?_
        refine lv_aload_n hx hb d_Task_listPuts_31 rfl (lv_at hl 0 rfl) ?_
        refine ly_get fx hk hw (9 + 6 * t0) (la_T ht0) rfl i_Task 5 (by decide) rfl rfl (List.mem_cons_of_mem _ a_56) d_Task_listPuts_32 ?_
        obtain ⟨r2, u3, hq4, h⟩ := ck_r h
        refine ly_callSi (As := [.int (u.1 (9 + 6 * t0) 3), .int v1, .int (u.1 (9 + 6 * t0) 5)]) (rest := []) ZsC_ok fx hk hz hA hw (c_Task_isMoveOf l (u.1 (9 + 6 * t0) 3) v1 (u.1 (9 + 6 * t0) 5) u _ hq4) (cw_S fx.2.2.2.2 a_217 a_218 a_4 ac_Task_isMoveOf rfl rfl hd_Task_isMoveOf ⟨Nat.le_of_ble_eq_true rfl, Nat.le_of_ble_eq_true rfl⟩) rfl rfl hl.1 rfl (Nat.le_of_ble_eq_true rfl) d_Task_listPuts_35 (Nat.zero_le _) (Nat.zero_le _) (fun r' u' H locs hp hw => ?_)
        cases hp
        refine lv_if_eq (tgt := 61) hx hb d_Task_listPuts_38 (by decide) (fun hc => ?_) (fun hc => ?_)
        · have h := it_t hc h
          refine lv_iinc (lv' := [(1, .int (v1 + (1 : Int32))), (0, .ref (ad (9 + 6 * t0)))]) (k := 1) hx hb d_Task_listPuts_61 hl rfl (oi_p1 _) (by decide) rfl (fun ls hl => ?_)
          refine lv_goto (tgt := 7) hx hb d_Task_listPuts_64 (by decide) ?_
          exact ih (v1 + (1 : Int32)) u3 _ _ _ h (lv_sub hl [1, 0] rfl) hw
        · have h := it_f hc h
          refine lv_aload_n hx hb d_Task_listPuts_41 rfl (lv_at hl 0 rfl) ?_
          refine ly_getr fx hk hw (9 + 6 * t0) (la_T ht0) rfl i_Task 13 (by decide) rfl rfl (List.mem_cons_of_mem _ a_72) d_Task_listPuts_42 ?_
          refine lv_aload_n hx hb d_Task_listPuts_45 rfl (lv_at hl 0 rfl) ?_
          refine ly_get fx hk hw (9 + 6 * t0) (la_T ht0) rfl i_Task 15 (by decide) rfl rfl (List.mem_cons_of_mem _ a_76) d_Task_listPuts_46 ?_
          refine lv_iload_n hx hb d_Task_listPuts_49 rfl (lv_at hl 1 rfl) ?_
          obtain ⟨hi5, h⟩ := it_in h
          refine ly_iast fx hk hw (9 + 6 * t0 + 2) (la_T2 ht0) hi5 d_Task_listPuts_50 (fun H locs hw => ?_)
          obtain ⟨u6, ev⟩ : ∃ z, z = ly_pi u3 (9 + 6 * t0 + 2) (u3.1 (9 + 6 * t0) 15).toNatClampNeg v1 := ⟨_, rfl⟩
          rw [← ev] at hw
          have h := nk_r ev h
          refine lv_aload_n hx hb d_Task_listPuts_51 rfl (lv_at hl 0 rfl) ?_
          refine lv_dup hx hb d_Task_listPuts_52 rfl ?_
          refine ly_get fx hk hw (9 + 6 * t0) (la_T ht0) rfl i_Task 15 (by decide) rfl rfl (List.mem_cons_of_mem _ a_76) d_Task_listPuts_53 ?_
          refine lv_iconst (v := 1) hx hb d_Task_listPuts_56 (by decide) ?_
          refine lv_iadd hx hb d_Task_listPuts_57 ?_
          refine ly_put (v := ((u6.1 (9 + 6 * t0) 15) + (1 : Int32))) fx hk hw (9 + 6 * t0) (la_T ht0) rfl i_Task t_Task t_Task_ok n_Task 15 (by decide) rfl rfl rfl (List.mem_cons_of_mem _ a_76) rfl rfl d_Task_listPuts_58 (fun H locs hw => ?_)
          obtain ⟨u7, ev⟩ : ∃ z, z = ly_pi u6 (9 + 6 * t0) 15 ((u6.1 (9 + 6 * t0) 15) + (1 : Int32)) := ⟨_, rfl⟩
          rw [← ev] at hw
          have h := nk_r ev h
          refine lv_iinc (lv' := [(1, .int (v1 + (1 : Int32))), (0, .ref (ad (9 + 6 * t0)))]) (k := 1) hx hb d_Task_listPuts_61 hl rfl (oi_p1 _) (by decide) rfl (fun ls hl => ?_)
          refine lv_goto (tgt := 7) hx hb d_Task_listPuts_64 (by decide) ?_
          exact ih (v1 + (1 : Int32)) u7 _ _ _ h (lv_sub hl [1, 0] rfl) hw
set_option maxRecDepth 100000 in
set_option maxHeartbeats 4000000 in
theorem c_Task_listPuts (l : Launch) (F : Nat) (t : Nat) (ht : t < 6) (u : St) (res : Int32 × St) (h : sp_Task_listPuts F t u = some res) : ly_Mv ZsC clA layC l y_Task_listPuts w_Task_listPuts { frames := 2, cells := 0, slots := 0, locals := 42 } (fun ad => [.ref (ad (9 + 6 * t))]) u (fun u1 => ((0 : Int32), u1) = res) := by
  refine ly_entv (cc := b_Task_listPuts) (maxL := 2) (ret := none) (by decide) rfl (fun ad => Nat.le_of_ble_eq_true rfl) ?_
  intro p e s m below meth c D ad cA A ls fx hr hlocks hk hA hz hw hl
  have hl : lv_has ls 2 [(0, .ref (ad (9 + 6 * t)))] := hl
  have hx := fx.1
  have hb := fx.2.1
  unfold sp_Task_listPuts at h
  refine lv_aload_n hx hb d_Task_listPuts_0 rfl (lv_at hl 0 rfl) ?_
  refine lv_iconst (v := 0) hx hb d_Task_listPuts_1 (by decide) ?_
  refine ly_put (v := (0 : Int32)) fx hk hw (9 + 6 * t) (la_T ht) rfl i_Task t_Task t_Task_ok n_Task 15 (by decide) rfl rfl rfl (List.mem_cons_of_mem _ a_76) rfl rfl d_Task_listPuts_2 (fun H locs hw => ?_)
  obtain ⟨u1, ev⟩ : ∃ z, z = ly_pi u (9 + 6 * t) 15 (0 : Int32) := ⟨_, rfl⟩
  rw [← ev] at hw
  have h := nk_r ev h
  refine lv_iconst (v := 1) hx hb d_Task_listPuts_5 (by decide) ?_
  refine lv_istore_n (lv' := [(1, .int (1 : Int32)), (0, .ref (ad (9 + 6 * t)))]) hx hb d_Task_listPuts_6 rfl hl (by decide) rfl (fun ls hl => ?_)
  refine wl_Task_listPuts_7 fx hr hlocks hk hA hz F t ht (fun v1_8 u9 H locs ls h hl hw => ?_) _ (1 : Int32) u1 _ _ _ h (lv_sub hl [1, 0] rfl) hw
  exact ly_retv fx hr hlocks hk hw (Option.some.inj h) d_Task_listPuts_67
set_option maxRecDepth 100000 in
set_option maxHeartbeats 4000000 in
theorem wl_Task_define_42 {p : Program} {l : Launch} {e : Env} {s : State} {m : MethodId} {args : Array Value} {below : List Frame} {meth : Method} {c : Code} {D : va_G} {ad : Nat → Nat} {cA : Nat → ClassId} {A : Nat → Prop} (fx : CallFix p m c b_Task_define 6 s args w_Task_define y_Task_define.cls) (hr : meth.sig.returnType = none) (hlocks : meth.locks = false) (hk : ly_K D clA layC cA s) (hA : ∀ q, s.heap.size ≤ q → A q) (hz : ZsC A s s.heap) (F : Nat) (t0 : Nat) (v1 : Int32) (v2 : Int32) (v3 : Int32) (v4 : Int32) (ht0 : t0 < 6) {k42 : Int32 → St → Option (Int32 × St)} {res : Int32 × St}
    (hX42 : ∀ (v5 : Int32) (u : St) (H : Heap) (locs : List Loc) (ls : Array Slot), k42 v5 u = some res → lv_has ls 6 [(0, .ref (ad (9 + 6 * t0))), (1, .int v1), (2, .int v2), (3, .int v3), (4, .int v4), (5, .int v5)] → ly_G D clA layC ad cA A s.heap u H locs → W p l e { frames := 3, cells := 0, slots := 0, locals := 63 } s m args below meth c H locs 0 0 (MQ below (va_Qv (fun u1 => ((0 : Int32), u1) = res) (ly_B D clA layC ad cA A) A) args s 0 0 A) (F0 m 66 ls [])) :
    ∀ (n : Nat) (v5 : Int32) (u : St) (H : Heap) (locs : List Loc) (ls : Array Slot), lp_Task_define_42 F t0 v1 v2 v3 v4 k42 n v5 u = some res → lv_has ls 6 [(0, .ref (ad (9 + 6 * t0))), (1, .int v1), (2, .int v2), (3, .int v3), (4, .int v4), (5, .int v5)] → ly_G D clA layC ad cA A s.heap u H locs → W p l e { frames := 3, cells := 0, slots := 0, locals := 63 } s m args below meth c H locs 0 0 (MQ below (va_Qv (fun u1 => ((0 : Int32), u1) = res) (ly_B D clA layC ad cA A) A) args s 0 0 A) (F0 m 42 ls []) := by
  have hx := fx.1
  have hb := fx.2.1
  intro n
  induction n with
  | zero => intro v5 u H locs ls h; exact nomatch h
  | succ n ih =>
    intro v5 u H locs ls h hl hw
    rw [lp_Task_define_42] at h
    refine lv_iload hx hb d_Task_define_42 (lv_at hl 5 rfl) ?_
    refine lv_bipush (v := 8) hx hb d_Task_define_44 (by decide) ?_
    refine lv_icmp_ge (tgt := 66) hx hb d_Task_define_46 (by decide) (fun hc => ?_) (fun hc => ?_)
    · have h := it_t hc h
      exact hX42 v5 u _ _ _ h (lv_sub hl [0, 1, 2, 3, 4, 5] rfl) hw
    · have h := it_f hc h
      refine lv_aload_n hx hb d_Task_define_49 rfl (lv_at hl 0 rfl) ?_
      refine lv_iload hx hb d_Task_define_50 (lv_at hl 5 rfl) ?_
      refine lv_iconst (v := 0) hx hb d_Task_define_52 (by decide) ?_
      refine lv_ldc (v := -2147483648) hx hb fx.2.2.2.1 (fx.2.2.2.2 _ (List.mem_cons_of_mem _ a_207)) d_Task_define_53 ?_
      refine lv_ldc (v := 2147483647) hx hb fx.2.2.2.1 (fx.2.2.2.2 _ (List.mem_cons_of_mem _ a_208)) d_Task_define_55 ?_
      obtain ⟨r10, u11, hq12, h⟩ := ck_r h
      refine ly_callVv (As := [.int v5, .int (0 : Int32), .int (-2147483648 : Int32), .int (2147483647 : Int32)]) (rest := []) ZsC_ok fx hk hz hA hw (c_Task_putGuard l t0 v5 (0 : Int32) (-2147483648 : Int32) (2147483647 : Int32) ht0 u _ hq12) (cw_V fx.2.2.2.2 a_209 a_210 a_211 a_4 ac_Task_putGuard rfl rfl rfl hd_Task_putGuard ⟨Nat.le_of_ble_eq_true rfl, Nat.le_of_ble_eq_true rfl⟩) (9 + 6 * t0) (la_T ht0) rfl rfl rfl hl.1 rfl (Nat.le_of_ble_eq_true rfl) d_Task_define_57 (Nat.zero_le _) (Nat.zero_le _) (fun u' H locs hp hw => ?_)
      cases hp
      refine lv_iinc (lv' := [(5, .int (v5 + (1 : Int32))), (0, .ref (ad (9 + 6 * t0))), (1, .int v1), (2, .int v2), (3, .int v3), (4, .int v4)]) (k := 5) hx hb d_Task_define_60 hl rfl (oi_p1 _) (by decide) rfl (fun ls hl => ?_)
      refine lv_goto (tgt := 42) hx hb d_Task_define_63 (by decide) ?_
      exact ih (v5 + (1 : Int32)) u11 _ _ _ h (lv_sub hl [1, 2, 3, 4, 5, 0] rfl) hw
set_option maxRecDepth 100000 in
set_option maxHeartbeats 4000000 in
theorem c_Task_define (l : Launch) (F : Nat) (t : Nat) (a1 : Int32) (a2 : Int32) (a3 : Int32) (a4 : Int32) (ht : t < 6) (u : St) (res : Int32 × St) (h : sp_Task_define F t a1 a2 a3 a4 u = some res) : ly_Mv ZsC clA layC l y_Task_define w_Task_define { frames := 3, cells := 0, slots := 0, locals := 63 } (fun ad => [.ref (ad (9 + 6 * t)), .int a1, .int a2, .int a3, .int a4]) u (fun u1 => ((0 : Int32), u1) = res) := by
  refine ly_entv (cc := b_Task_define) (maxL := 6) (ret := none) (by decide) rfl (fun ad => Nat.le_of_ble_eq_true rfl) ?_
  intro p e s m below meth c D ad cA A ls fx hr hlocks hk hA hz hw hl
  have hl : lv_has ls 6 [(0, .ref (ad (9 + 6 * t))), (1, .int a1), (2, .int a2), (3, .int a3), (4, .int a4)] := hl
  have hx := fx.1
  have hb := fx.2.1
  unfold sp_Task_define at h
  refine lv_aload_n hx hb d_Task_define_0 rfl (lv_at hl 0 rfl) ?_
  refine lv_iconst (v := 1) hx hb d_Task_define_1 (by decide) ?_
  refine ly_put (v := (1 : Int32)) fx hk hw (9 + 6 * t) (la_T ht) rfl i_Task t_Task t_Task_ok n_Task 1 (by decide) rfl rfl rfl (List.mem_cons_of_mem _ a_48) (by decide) (by decide) d_Task_define_2 (fun H locs hw => ?_)
  obtain ⟨u1, ev⟩ : ∃ z, z = ly_pi u (9 + 6 * t) 1 (1 : Int32) := ⟨_, rfl⟩
  rw [← ev] at hw
  have h := nk_r ev h
  refine lv_aload_n hx hb d_Task_define_5 rfl (lv_at hl 0 rfl) ?_
  refine lv_iload_n hx hb d_Task_define_6 rfl (lv_at hl 1 rfl) ?_
  refine ly_put (v := a1) fx hk hw (9 + 6 * t) (la_T ht) rfl i_Task t_Task t_Task_ok n_Task 2 (by decide) rfl rfl rfl (List.mem_cons_of_mem _ a_50) rfl rfl d_Task_define_7 (fun H locs hw => ?_)
  obtain ⟨u2, ev⟩ : ∃ z, z = ly_pi u1 (9 + 6 * t) 2 a1 := ⟨_, rfl⟩
  rw [← ev] at hw
  have h := nk_r ev h
  refine lv_aload_n hx hb d_Task_define_10 rfl (lv_at hl 0 rfl) ?_
  refine lv_iload_n hx hb d_Task_define_11 rfl (lv_at hl 2 rfl) ?_
  refine ly_put (v := a2) fx hk hw (9 + 6 * t) (la_T ht) rfl i_Task t_Task t_Task_ok n_Task 3 (by decide) rfl rfl rfl (List.mem_cons_of_mem _ a_53) rfl rfl d_Task_define_12 (fun H locs hw => ?_)
  obtain ⟨u3, ev⟩ : ∃ z, z = ly_pi u2 (9 + 6 * t) 3 a2 := ⟨_, rfl⟩
  rw [← ev] at hw
  have h := nk_r ev h
  refine lv_aload_n hx hb d_Task_define_15 rfl (lv_at hl 0 rfl) ?_
  refine lv_iload_n hx hb d_Task_define_16 rfl (lv_at hl 3 rfl) ?_
  refine ly_put (v := a3) fx hk hw (9 + 6 * t) (la_T ht) rfl i_Task t_Task t_Task_ok n_Task 4 (by decide) rfl rfl rfl (List.mem_cons_of_mem _ a_54) rfl rfl d_Task_define_17 (fun H locs hw => ?_)
  obtain ⟨u4, ev⟩ : ∃ z, z = ly_pi u3 (9 + 6 * t) 4 a3 := ⟨_, rfl⟩
  rw [← ev] at hw
  have h := nk_r ev h
  refine lv_aload_n hx hb d_Task_define_20 rfl (lv_at hl 0 rfl) ?_
  refine lv_iload hx hb d_Task_define_21 (lv_at hl 4 rfl) ?_
  refine ly_put (v := a4) fx hk hw (9 + 6 * t) (la_T ht) rfl i_Task t_Task t_Task_ok n_Task 5 (by decide) rfl rfl rfl (List.mem_cons_of_mem _ a_56) rfl rfl d_Task_define_23 (fun H locs hw => ?_)
  obtain ⟨u5, ev⟩ : ∃ z, z = ly_pi u4 (9 + 6 * t) 5 a4 := ⟨_, rfl⟩
  rw [← ev] at hw
  have h := nk_r ev h
  refine lv_aload_n hx hb d_Task_define_26 rfl (lv_at hl 0 rfl) ?_
  refine lv_iconst (v := 0) hx hb d_Task_define_27 (by decide) ?_
  refine ly_put (v := (0 : Int32)) fx hk hw (9 + 6 * t) (la_T ht) rfl i_Task t_Task t_Task_ok n_Task 6 (by decide) rfl rfl rfl (List.mem_cons_of_mem _ a_58) rfl rfl d_Task_define_28 (fun H locs hw => ?_)
  obtain ⟨u6, ev⟩ : ∃ z, z = ly_pi u5 (9 + 6 * t) 6 (0 : Int32) := ⟨_, rfl⟩
  rw [← ev] at hw
  have h := nk_r ev h
  refine lv_aload_n hx hb d_Task_define_31 rfl (lv_at hl 0 rfl) ?_
  refine lv_iconst (v := 1) hx hb d_Task_define_32 (by decide) ?_
  refine lv_iconst (v := 1) hx hb d_Task_define_33 (by decide) ?_
  refine lv_iconst (v := 0) hx hb d_Task_define_34 (by decide) ?_
  refine lv_iconst (v := 0) hx hb d_Task_define_35 (by decide) ?_
  obtain ⟨r7, u8, hq9, h⟩ := ck_r h
  refine ly_callVv (As := [.int (1 : Int32), .int (1 : Int32), .int (0 : Int32), .int (0 : Int32)]) (rest := []) ZsC_ok fx hk hz hA hw (c_Task_putWork l t (1 : Int32) (1 : Int32) (0 : Int32) (0 : Int32) ht u6 _ hq9) (cw_V fx.2.2.2.2 a_203 a_204 a_205 a_4 ac_Task_putWork rfl rfl rfl hd_Task_putWork ⟨Nat.le_of_ble_eq_true rfl, Nat.le_of_ble_eq_true rfl⟩) (9 + 6 * t) (la_T ht) rfl rfl rfl hl.1 rfl (Nat.le_of_ble_eq_true rfl) d_Task_define_36 (Nat.zero_le _) (Nat.zero_le _) (fun u' H locs hp hw => ?_)
  cases hp
  refine lv_iconst (v := 0) hx hb d_Task_define_39 (by decide) ?_
  refine lv_istore (lv' := [(5, .int (0 : Int32)), (0, .ref (ad (9 + 6 * t))), (1, .int a1), (2, .int a2), (3, .int a3), (4, .int a4)]) hx hb d_Task_define_40 hl (by decide) rfl (fun ls hl => ?_)
  refine wl_Task_define_42 fx hr hlocks hk hA hz F t a1 a2 a3 a4 ht (fun v5_13 u14 H locs ls h hl hw => ?_) _ (0 : Int32) u8 _ _ _ h (lv_sub hl [1, 2, 3, 4, 5, 0] rfl) hw
  refine lv_aload_n hx hb d_Task_define_66 rfl (lv_at hl 0 rfl) ?_
  obtain ⟨r15, u16, hq17, h⟩ := ck_r h
  refine ly_callVv (As := []) (rest := []) ZsC_ok fx hk hz hA hw (c_Task_listTakes l F t ht u14 _ hq17) (cw_V fx.2.2.2.2 a_213 a_215 as_0 a_4 ac_Task_listTakes rfl rfl rfl hd_Task_listTakes ⟨Nat.le_of_ble_eq_true rfl, Nat.le_of_ble_eq_true rfl⟩) (9 + 6 * t) (la_T ht) rfl rfl rfl hl.1 rfl (Nat.le_of_ble_eq_true rfl) d_Task_define_67 (Nat.zero_le _) (Nat.zero_le _) (fun u' H locs hp hw => ?_)
  cases hp
  refine lv_aload_n hx hb d_Task_define_70 rfl (lv_at hl 0 rfl) ?_
  obtain ⟨r18, u19, hq20, h⟩ := ck_r h
  refine ly_callVv (As := []) (rest := []) ZsC_ok fx hk hz hA hw (c_Task_listPuts l F t ht u16 _ hq20) (cw_V fx.2.2.2.2 a_221 a_223 as_1 a_4 ac_Task_listPuts rfl rfl rfl hd_Task_listPuts ⟨Nat.le_of_ble_eq_true rfl, Nat.le_of_ble_eq_true rfl⟩) (9 + 6 * t) (la_T ht) rfl rfl rfl hl.1 rfl (Nat.le_of_ble_eq_true rfl) d_Task_define_71 (Nat.zero_le _) (Nat.zero_le _) (fun u' H locs hp hw => ?_)
  cases hp
  exact ly_retv fx hr hlocks hk hw (Option.some.inj h) d_Task_define_74
set_option maxRecDepth 100000 in
set_option maxHeartbeats 4000000 in
theorem c_Task_inputsUsed (l : Launch) (t : Nat) (a1 : Int32) (ht : t < 6) (u : St) (res : Int32 × St) (h : sp_Task_inputsUsed t a1 u = some res) : ly_Mi ZsC clA layC l y_Task_inputsUsed w_Task_inputsUsed { frames := 0, cells := 0, slots := 0, locals := 0 } (fun ad => [.ref (ad (9 + 6 * t)), .int a1]) u (fun r1 u1 => (r1, u1) = res) := by
  refine ly_enti (cc := b_Task_inputsUsed) (maxL := 3) (ret := (some .int)) (by decide) rfl (fun ad => Nat.le_of_ble_eq_true rfl) ?_
  intro p e s m below meth c D ad cA A ls fx hr hlocks hk hA hz hw hl
  have hl : lv_has ls 3 [(0, .ref (ad (9 + 6 * t))), (1, .int a1)] := hl
  have hx := fx.1
  have hb := fx.2.1
  unfold sp_Task_inputsUsed at h
  refine lv_iload_n hx hb d_Task_inputsUsed_0 rfl (lv_at hl 1 rfl) ?_
  refine lv_aload_n hx hb d_Task_inputsUsed_1 rfl (lv_at hl 0 rfl) ?_
  refine ly_get fx hk hw (9 + 6 * t) (la_T ht) rfl i_Task 4 (by decide) rfl rfl (List.mem_cons_of_mem _ a_54) d_Task_inputsUsed_2 ?_
  refine lv_iand hx hb d_Task_inputsUsed_5 ?_
  refine lv_topi (fun v2_1 ev => ?_)
  have h := nk_r ev h
  refine lv_istore_n (lv' := [(2, .int v2_1), (0, .ref (ad (9 + 6 * t))), (1, .int a1)]) hx hb d_Task_inputsUsed_6 rfl hl (by decide) rfl (fun ls hl => ?_)
  refine lv_aload_n hx hb d_Task_inputsUsed_7 rfl (lv_at hl 1 rfl) ?_
  refine ly_get fx hk hw (9 + 6 * t) (la_T ht) rfl i_Task 2 (by decide) rfl rfl (List.mem_cons_of_mem _ a_50) d_Task_inputsUsed_8 ?_
  refine lv_iconst (v := 1) hx hb d_Task_inputsUsed_11 (by decide) ?_
  refine lv_icmp_ne (tgt := 22) hx hb d_Task_inputsUsed_12 (by decide) (fun hc => ?_) (fun hc => ?_)
  · have h := it_f hc h
    refine lv_iload_n hx hb d_Task_inputsUsed_22 rfl (lv_at hl 0 rfl) ?_
    exact ly_reti fx hr hlocks hk hw (Option.some.inj h) d_Task_inputsUsed_23
  · have h := it_t hc h
    refine lv_iload_n hx hb d_Task_inputsUsed_15 rfl (lv_at hl 0 rfl) ?_
    refine lv_iload_n hx hb d_Task_inputsUsed_16 rfl (lv_at hl 0 rfl) ?_
    refine lv_ineg hx hb d_Task_inputsUsed_17 ?_
    refine lv_iand hx hb d_Task_inputsUsed_18 ?_
    refine lv_goto (tgt := 23) hx hb d_Task_inputsUsed_19 (by decide) ?_
    exact ly_reti fx hr hlocks hk hw (Option.some.inj h) d_Task_inputsUsed_23
set_option maxRecDepth 100000 in
set_option maxHeartbeats 4000000 in
theorem c_Task_guardHolds (l : Launch) (t : Nat) (a1 : Int32) (ht : t < 6) (u : St) (res : Int32 × St) (h : sp_Task_guardHolds t a1 u = some res) : ly_Mi ZsC clA layC l y_Task_guardHolds w_Task_guardHolds { frames := 0, cells := 0, slots := 0, locals := 0 } (fun ad => [.ref (ad (9 + 6 * t)), .int a1, .ref (ad 49)]) u (fun r1 u1 => (r1, u1) = res) := by
  refine ly_enti (cc := b_Task_guardHolds) (maxL := 4) (ret := (some .boolean)) (by decide) rfl (fun ad => Nat.le_of_ble_eq_true rfl) ?_
  intro p e s m below meth c D ad cA A ls fx hr hlocks hk hA hz hw hl
  have hl : lv_has ls 4 [(0, .ref (ad (9 + 6 * t))), (1, .int a1), (2, .ref (ad 49))] := hl
  have hx := fx.1
  have hb := fx.2.1
  unfold sp_Task_guardHolds at h
  refine lv_aload_n hx hb d_Task_guardHolds_0 rfl (lv_at hl 2 rfl) ?_
  refine lv_aload_n hx hb d_Task_guardHolds_1 rfl (lv_at hl 0 rfl) ?_
  refine ly_getr fx hk hw (9 + 6 * t) (la_T ht) rfl i_Task 16 (by decide) rfl rfl (List.mem_cons_of_mem _ a_78) d_Task_guardHolds_2 ?_
  refine lv_iload_n hx hb d_Task_guardHolds_5 rfl (lv_at hl 1 rfl) ?_
  obtain ⟨hi1, h⟩ := it_in h
  refine ly_iald fx hk hw (9 + 6 * t + 3) (la_T3 ht) hi1 d_Task_guardHolds_6 ?_
  obtain ⟨hi2, h⟩ := it_in h
  refine ly_iald fx hk hw (49) rfl hi2 d_Task_guardHolds_7 ?_
  refine lv_topi (fun v3_3 ev => ?_)
  have h := nk_r ev h
  refine lv_istore_n (lv' := [(3, .int v3_3), (0, .ref (ad (9 + 6 * t))), (1, .int a1), (2, .ref (ad 49))]) hx hb d_Task_guardHolds_8 rfl hl (by decide) rfl (fun ls hl => ?_)
  refine lv_iload_n hx hb d_Task_guardHolds_9 rfl (lv_at hl 0 rfl) ?_
  refine lv_aload_n hx hb d_Task_guardHolds_10 rfl (lv_at hl 1 rfl) ?_
  refine ly_getr fx hk hw (9 + 6 * t) (la_T ht) rfl i_Task 17 (by decide) rfl rfl (List.mem_cons_of_mem _ a_79) d_Task_guardHolds_11 ?_
  refine lv_iload_n hx hb d_Task_guardHolds_14 rfl (lv_at hl 2 rfl) ?_
  obtain ⟨hi4, h⟩ := it_in h
  refine ly_iald fx hk hw (9 + 6 * t + 4) (la_T4 ht) hi4 d_Task_guardHolds_15 ?_
  refine lv_icmp_lt (tgt := 33) hx hb d_Task_guardHolds_16 (by decide) (fun hc => ?_) (fun hc => ?_)
  · have h := it_t hc h
    refine lv_iconst (v := 0) hx hb d_Task_guardHolds_33 (by decide) ?_
    exact ly_retz fx hr hlocks hk hw (Or.inl rfl) (Option.some.inj h) d_Task_guardHolds_34
  · have h := it_f hc h
    refine lv_iload_n hx hb d_Task_guardHolds_19 rfl (lv_at hl 0 rfl) ?_
    refine lv_aload_n hx hb d_Task_guardHolds_20 rfl (lv_at hl 1 rfl) ?_
    refine ly_getr fx hk hw (9 + 6 * t) (la_T ht) rfl i_Task 18 (by decide) rfl rfl (List.mem_cons_of_mem _ a_80) d_Task_guardHolds_21 ?_
    refine lv_iload_n hx hb d_Task_guardHolds_24 rfl (lv_at hl 2 rfl) ?_
    obtain ⟨hi5, h⟩ := it_in h
    refine ly_iald fx hk hw (9 + 6 * t + 5) (la_T5 ht) hi5 d_Task_guardHolds_25 ?_
    refine lv_icmp_gt (tgt := 33) hx hb d_Task_guardHolds_26 (by decide) (fun hc => ?_) (fun hc => ?_)
    · have h := it_t hc h
      refine lv_iconst (v := 0) hx hb d_Task_guardHolds_33 (by decide) ?_
      exact ly_retz fx hr hlocks hk hw (Or.inl rfl) (Option.some.inj h) d_Task_guardHolds_34
    · have h := it_f hc h
      refine lv_iconst (v := 1) hx hb d_Task_guardHolds_29 (by decide) ?_
      refine lv_goto (tgt := 34) hx hb d_Task_guardHolds_30 (by decide) ?_
      exact ly_retz fx hr hlocks hk hw (Or.inr rfl) (Option.some.inj h) d_Task_guardHolds_34
set_option maxRecDepth 100000 in
set_option maxHeartbeats 4000000 in
theorem wl_Task_chosenOutputs_19 {p : Program} {l : Launch} {e : Env} {s : State} {m : MethodId} {args : Array Value} {below : List Frame} {meth : Method} {c : Code} {D : va_G} {ad : Nat → Nat} {cA : Nat → ClassId} {A : Nat → Prop} (fx : CallFix p m c b_Task_chosenOutputs 5 s args w_Task_chosenOutputs y_Task_chosenOutputs.cls) (hr : meth.sig.returnType = (some .int)) (hlocks : meth.locks = false) (hk : ly_K D clA layC cA s) (hA : ∀ q, s.heap.size ≤ q → A q) (hz : ZsC A s s.heap) (F : Nat) (t0 : Nat) (ht0 : t0 < 6) {k19 : Int32 → Int32 → Int32 → St → Option (Int32 × St)} {res : Int32 × St}
    (hX19 : ∀ (v2 : Int32) (v3 : Int32) (v4 : Int32) (u : St) (H : Heap) (locs : List Loc) (ls : Array Slot), k19 v2 v3 v4 u = some res → lv_has ls 5 [(0, .ref (ad (9 + 6 * t0))), (1, .ref (ad 49)), (2, .int v2), (3, .int v3), (4, .int v4)] → ly_G D clA layC ad cA A s.heap u H locs → W p l e { frames := 1, cells := 0, slots := 0, locals := 23 } s m args below meth c H locs 0 0 (MQ below (va_Qi (fun r1 u1 => (r1, u1) = res) (ly_B D clA layC ad cA A) A) args s 0 0 A) (F0 m 67 ls [])) :
    ∀ (n : Nat) (v2 : Int32) (v3 : Int32) (v4 : Int32) (u : St) (H : Heap) (locs : List Loc) (ls : Array Slot), lp_Task_chosenOutputs_19 F t0 k19 n v2 v3 v4 u = some res → lv_has ls 5 [(0, .ref (ad (9 + 6 * t0))), (1, .ref (ad 49)), (2, .int v2), (3, .int v3), (4, .int v4)] → ly_G D clA layC ad cA A s.heap u H locs → W p l e { frames := 1, cells := 0, slots := 0, locals := 23 } s m args below meth c H locs 0 0 (MQ below (va_Qi (fun r1 u1 => (r1, u1) = res) (ly_B D clA layC ad cA A) A) args s 0 0 A) (F0 m 19 ls []) := by
  have hx := fx.1
  have hb := fx.2.1
  intro n
  induction n with
  | zero => intro v2 v3 v4 u H locs ls h; exact nomatch h
  | succ n ih =>
    intro v2 v3 v4 u H locs ls h hl hw
    rw [lp_Task_chosenOutputs_19] at h
    refine lv_iload hx hb d_Task_chosenOutputs_19 (lv_at hl 4 rfl) ?_
    refine lv_bipush (v := 8) hx hb d_Task_chosenOutputs_21 (by decide) ?_
    refine lv_icmp_ge (tgt := 67) hx hb d_Task_chosenOutputs_23 (by decide) (fun hc => ?_) (fun hc => ?_)
    · have h := it_t hc h
      exact hX19 v2 v3 v4 u _ _ _ h (lv_sub hl [0, 1, 2, 3, 4] rfl) hw
    · have h := it_f hc h
      refine lv_aload_n hx hb d_Task_chosenOutputs_26 rfl (lv_at hl 0 rfl) ?_
      refine ly_get fx hk hw (9 + 6 * t0) (la_T ht0) rfl i_Task 5 (by decide) rfl rfl (List.mem_cons_of_mem _ a_56) d_Task_chosenOutputs_27 ?_
      refine lv_iconst (v := 1) hx hb d_Task_chosenOutputs_30 (by decide) ?_
      refine lv_iload hx hb d_Task_chosenOutputs_31 (lv_at hl 4 rfl) ?_
      refine lv_ishl hx hb d_Task_chosenOutputs_33 ?_
      refine lv_iand hx hb d_Task_chosenOutputs_34 ?_
      refine lv_if_eq (tgt := 61) hx hb d_Task_chosenOutputs_35 (by decide) (fun hc => ?_) (fun hc => ?_)
      · have h := it_t hc h
        refine lv_iinc (lv' := [(4, .int (v4 + (1 : Int32))), (0, .ref (ad (9 + 6 * t0))), (1, .ref (ad 49)), (2, .int v2), (3, .int v3)]) (k := 4) hx hb d_Task_chosenOutputs_61 hl rfl (oi_p1 _) (by decide) rfl (fun ls hl => ?_)
        refine lv_goto (tgt := 19) hx hb d_Task_chosenOutputs_64 (by decide) ?_
        exact ih v2 v3 (v4 + (1 : Int32)) u _ _ _ h (lv_sub hl [1, 2, 3, 4, 0] rfl) hw
      · have h := it_f hc h
        refine lv_iconst (v := 1) hx hb d_Task_chosenOutputs_38 (by decide) ?_
        refine lv_iload hx hb d_Task_chosenOutputs_39 (lv_at hl 4 rfl) ?_
        refine lv_ishl hx hb d_Task_chosenOutputs_41 ?_
        refine lv_topi (fun v3_1 ev => ?_)
        have h := nk_r ev h
        refine lv_istore_n (lv' := [(3, .int v3_1), (0, .ref (ad (9 + 6 * t0))), (1, .ref (ad 49)), (2, .int v2), (4, .int v4)]) hx hb d_Task_chosenOutputs_42 rfl hl (by decide) rfl (fun ls hl => ?_)
        refine lv_iload_n hx hb d_Task_chosenOutputs_43 rfl (lv_at hl 3 rfl) ?_
        refine lv_aload_n hx hb d_Task_chosenOutputs_44 rfl (lv_at hl 1 rfl) ?_
        refine lv_iload hx hb d_Task_chosenOutputs_45 (lv_at hl 4 rfl) ?_
        refine lv_aload_n hx hb d_Task_chosenOutputs_47 rfl (lv_at hl 2 rfl) ?_
        obtain ⟨r2, u3, hq4, h⟩ := ck_r h
        refine ly_callVi (As := [.int v4, .ref (ad 49)]) (rest := [.int v2]) ZsC_ok fx hk hz hA hw (c_Task_guardHolds l t0 v4 ht0 u _ hq4) (cw_V fx.2.2.2.2 a_378 a_380 as_10 a_4 ac_Task_guardHolds rfl rfl rfl hd_Task_guardHolds ⟨Nat.le_of_ble_eq_true rfl, Nat.le_of_ble_eq_true rfl⟩) (9 + 6 * t0) (la_T ht0) rfl rfl rfl hl.1 rfl (Nat.le_of_ble_eq_true rfl) d_Task_chosenOutputs_48 (Nat.zero_le _) (Nat.zero_le _) (fun r' u' H locs hp hw => ?_)
        cases hp
        refine lv_if_eq (tgt := 58) hx hb d_Task_chosenOutputs_51 (by decide) (fun hc => ?_) (fun hc => ?_)
        · have h := it_t hc h
          refine lv_iconst (v := 0) hx hb d_Task_chosenOutputs_58 (by decide) ?_
          refine lv_ior hx hb d_Task_chosenOutputs_59 ?_
          refine lv_topi (fun v2_5 ev => ?_)
          have h := nk_r ev h
          refine lv_istore_n (lv' := [(2, .int v2_5), (3, .int v3_1), (0, .ref (ad (9 + 6 * t0))), (1, .ref (ad 49)), (4, .int v4)]) hx hb d_Task_chosenOutputs_60 rfl hl (by decide) rfl (fun ls hl => ?_)
          refine lv_iinc (lv' := [(4, .int (v4 + (1 : Int32))), (2, .int v2_5), (3, .int v3_1), (0, .ref (ad (9 + 6 * t0))), (1, .ref (ad 49))]) (k := 4) hx hb d_Task_chosenOutputs_61 hl rfl (oi_p1 _) (by decide) rfl (fun ls hl => ?_)
          refine lv_goto (tgt := 19) hx hb d_Task_chosenOutputs_64 (by decide) ?_
          exact ih v2_5 v3_1 (v4 + (1 : Int32)) u3 _ _ _ h (lv_sub hl [3, 4, 1, 2, 0] rfl) hw
        · have h := it_f hc h
          refine lv_iload_n hx hb d_Task_chosenOutputs_54 rfl (lv_at hl 0 rfl) ?_
          refine lv_goto (tgt := 59) hx hb d_Task_chosenOutputs_55 (by decide) ?_
          refine lv_ior hx hb d_Task_chosenOutputs_59 ?_
          refine lv_topi (fun v2_6 ev => ?_)
          have h := nk_r ev h
          refine lv_istore_n (lv' := [(2, .int v2_6), (3, .int v3_1), (0, .ref (ad (9 + 6 * t0))), (1, .ref (ad 49)), (4, .int v4)]) hx hb d_Task_chosenOutputs_60 rfl hl (by decide) rfl (fun ls hl => ?_)
          refine lv_iinc (lv' := [(4, .int (v4 + (1 : Int32))), (2, .int v2_6), (3, .int v3_1), (0, .ref (ad (9 + 6 * t0))), (1, .ref (ad 49))]) (k := 4) hx hb d_Task_chosenOutputs_61 hl rfl (oi_p1 _) (by decide) rfl (fun ls hl => ?_)
          refine lv_goto (tgt := 19) hx hb d_Task_chosenOutputs_64 (by decide) ?_
          exact ih v2_6 v3_1 (v4 + (1 : Int32)) u3 _ _ _ h (lv_sub hl [3, 4, 1, 2, 0] rfl) hw
set_option maxRecDepth 100000 in
set_option maxHeartbeats 4000000 in
theorem c_Task_chosenOutputs (l : Launch) (F : Nat) (t : Nat) (ht : t < 6) (u : St) (res : Int32 × St) (h : sp_Task_chosenOutputs F t u = some res) : ly_Mi ZsC clA layC l y_Task_chosenOutputs w_Task_chosenOutputs { frames := 1, cells := 0, slots := 0, locals := 23 } (fun ad => [.ref (ad (9 + 6 * t)), .ref (ad 49)]) u (fun r1 u1 => (r1, u1) = res) := by
  refine ly_enti (cc := b_Task_chosenOutputs) (maxL := 5) (ret := (some .int)) (by decide) rfl (fun ad => Nat.le_of_ble_eq_true rfl) ?_
  intro p e s m below meth c D ad cA A ls fx hr hlocks hk hA hz hw hl
  have hl : lv_has ls 5 [(0, .ref (ad (9 + 6 * t))), (1, .ref (ad 49))] := hl
  have hx := fx.1
  have hb := fx.2.1
  unfold sp_Task_chosenOutputs at h
  refine lv_aload_n hx hb d_Task_chosenOutputs_0 rfl (lv_at hl 0 rfl) ?_
  refine ly_get fx hk hw (9 + 6 * t) (la_T ht) rfl i_Task 3 (by decide) rfl rfl (List.mem_cons_of_mem _ a_53) d_Task_chosenOutputs_1 ?_
  refine lv_if_ne (tgt := 12) hx hb d_Task_chosenOutputs_4 (by decide) (fun hc => ?_) (fun hc => ?_)
  · have h := it_f hc h
    refine lv_iconst (v := 0) hx hb d_Task_chosenOutputs_12 (by decide) ?_
    refine lv_istore_n (lv' := [(2, .int (0 : Int32)), (0, .ref (ad (9 + 6 * t))), (1, .ref (ad 49))]) hx hb d_Task_chosenOutputs_13 rfl hl (by decide) rfl (fun ls hl => ?_)
    refine lv_iconst (v := 0) hx hb d_Task_chosenOutputs_14 (by decide) ?_
    refine lv_istore_n (lv' := [(3, .int (0 : Int32)), (2, .int (0 : Int32)), (0, .ref (ad (9 + 6 * t))), (1, .ref (ad 49))]) hx hb d_Task_chosenOutputs_15 rfl hl (by decide) rfl (fun ls hl => ?_)
    refine lv_iconst (v := 0) hx hb d_Task_chosenOutputs_16 (by decide) ?_
    refine lv_istore (lv' := [(4, .int (0 : Int32)), (3, .int (0 : Int32)), (2, .int (0 : Int32)), (0, .ref (ad (9 + 6 * t))), (1, .ref (ad 49))]) hx hb d_Task_chosenOutputs_17 hl (by decide) rfl (fun ls hl => ?_)
    refine wl_Task_chosenOutputs_19 fx hr hlocks hk hA hz F t ht (fun v2_7 v3_8 v4_9 u10 H locs ls h hl hw => ?_) _ (0 : Int32) (0 : Int32) (0 : Int32) u _ _ _ h (lv_sub hl [3, 4, 2, 1, 0] rfl) hw
    refine lv_iload_n hx hb d_Task_chosenOutputs_67 rfl (lv_at hl 2 rfl) ?_
    refine lv_if_ne (tgt := 73) hx hb d_Task_chosenOutputs_68 (by decide) (fun hc => ?_) (fun hc => ?_)
    · have h := it_f hc h
      refine lv_aload_n hx hb d_Task_chosenOutputs_73 rfl (lv_at hl 0 rfl) ?_
      refine ly_get fx hk hw (9 + 6 * t) (la_T ht) rfl i_Task 3 (by decide) rfl rfl (List.mem_cons_of_mem _ a_53) d_Task_chosenOutputs_74 ?_
      refine lv_iconst (v := 1) hx hb d_Task_chosenOutputs_77 (by decide) ?_
      refine lv_icmp_ne (tgt := 88) hx hb d_Task_chosenOutputs_78 (by decide) (fun hc => ?_) (fun hc => ?_)
      · have h := it_f hc h
        refine lv_iload_n hx hb d_Task_chosenOutputs_88 rfl (lv_at hl 2 rfl) ?_
        exact ly_reti fx hr hlocks hk hw (Option.some.inj h) d_Task_chosenOutputs_89
      · have h := it_t hc h
        refine lv_iload_n hx hb d_Task_chosenOutputs_81 rfl (lv_at hl 2 rfl) ?_
        refine lv_iload_n hx hb d_Task_chosenOutputs_82 rfl (lv_at hl 2 rfl) ?_
        refine lv_ineg hx hb d_Task_chosenOutputs_83 ?_
        refine lv_iand hx hb d_Task_chosenOutputs_84 ?_
        refine lv_goto (tgt := 89) hx hb d_Task_chosenOutputs_85 (by decide) ?_
        exact ly_reti fx hr hlocks hk hw (Option.some.inj h) d_Task_chosenOutputs_89
    · have h := it_t hc h
      refine lv_iload_n hx hb d_Task_chosenOutputs_71 rfl (lv_at hl 3 rfl) ?_
      exact ly_reti fx hr hlocks hk hw (Option.some.inj h) d_Task_chosenOutputs_72
  · have h := it_t hc h
    refine lv_aload_n hx hb d_Task_chosenOutputs_7 rfl (lv_at hl 0 rfl) ?_
    refine ly_get fx hk hw (9 + 6 * t) (la_T ht) rfl i_Task 5 (by decide) rfl rfl (List.mem_cons_of_mem _ a_56) d_Task_chosenOutputs_8 ?_
    exact ly_reti fx hr hlocks hk hw (Option.some.inj h) d_Task_chosenOutputs_11
