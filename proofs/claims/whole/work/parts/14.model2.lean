set_option maxRecDepth 100000 in
set_option maxHeartbeats 4000000 in
theorem wl_Md_enabled_4 {p : Program} {l : Launch} {e : Env} {s : State} {m : MethodId} {args : Array Value} {below : List Frame} {meth : Method} {c : Code} {D : va_G} {ad : Nat → Nat} {cA : Nat → ClassId} {A : Nat → Prop} (fx : CallFix p m c b_Md_enabled 3 s args w_Md_enabled y_Md_enabled.cls) (hr : meth.sig.returnType = (some .int)) (hlocks : meth.locks = false) (hk : ly_K D clA layM cA s) (hA : ∀ q, s.heap.size ≤ q → A q) (hz : ZsM A s s.heap) (F : Nat) {k4 : Int32 → Int32 → St → Option (Int32 × St)} {res : Int32 × St}
    (hX4 : ∀ (v1 : Int32) (v2 : Int32) (u : St) (H : Heap) (locs : List Loc) (ls : Array Slot), k4 v1 v2 u = some res → lv_has ls 3 [(0, .ref (ad 0)), (1, .int v1), (2, .int v2)] → ly_G D clA layM ad cA A s.heap u H locs → W p l e { frames := 5, cells := 0, slots := 0, locals := 125 } s m args below meth c H locs 0 0 (MQ below (va_Qi (fun r1 u1 => (r1, u1) = res) (ly_B D clA layM ad cA A) A) args s 0 0 A) (F0 m 34 ls [])) :
    ∀ (n : Nat) (v1 : Int32) (v2 : Int32) (u : St) (H : Heap) (locs : List Loc) (ls : Array Slot), lp_Md_enabled_4 F k4 n v1 v2 u = some res → lv_has ls 3 [(0, .ref (ad 0)), (1, .int v1), (2, .int v2)] → ly_G D clA layM ad cA A s.heap u H locs → W p l e { frames := 5, cells := 0, slots := 0, locals := 125 } s m args below meth c H locs 0 0 (MQ below (va_Qi (fun r1 u1 => (r1, u1) = res) (ly_B D clA layM ad cA A) A) args s 0 0 A) (F0 m 4 ls []) := by
  have hx := fx.1
  have hb := fx.2.1
  intro n
  induction n with
  | zero => intro v1 v2 u H locs ls h; exact nomatch h
  | succ n ih =>
    intro v1 v2 u H locs ls h hl hw
    rw [lp_Md_enabled_4] at h
    refine lv_iload_n hx hb d_Md_enabled_4 rfl (lv_at hl 2 rfl) ?_
    refine lv_bipush (v := 6) hx hb d_Md_enabled_5 (by decide) ?_
    refine lv_icmp_ge (tgt := 34) hx hb d_Md_enabled_7 (by decide) (fun hc => ?_) (fun hc => ?_)
    · have h := it_t hc h
      exact hX4 v1 v2 u _ _ _ h (lv_sub hl [0, 1, 2] rfl) hw
    · have h := it_f hc h
      refine lv_iload_n hx hb d_Md_enabled_10 rfl (lv_at hl 1 rfl) ?_
      refine lv_aload_n hx hb d_Md_enabled_11 rfl (lv_at hl 0 rfl) ?_
      refine lv_iload_n hx hb d_Md_enabled_12 rfl (lv_at hl 2 rfl) ?_
      obtain ⟨r1, u2, hq3, h⟩ := ck_r h
      refine ly_callVi (As := [.int v2]) (rest := [.int v1]) ZsM_ok fx hk hz hA hw (c_Md_isEnabled l F v2 u _ hq3) (cw_V fx.2.2.2.2 a_628 a_630 as_27 a_6 ac_Md_isEnabled rfl rfl rfl hd_Md_isEnabled ⟨Nat.le_of_ble_eq_true rfl, Nat.le_of_ble_eq_true rfl⟩) (0) rfl rfl rfl rfl hl.1 rfl (Nat.le_of_ble_eq_true rfl) d_Md_enabled_13 (Nat.zero_le _) (Nat.zero_le _) (fun r' u' H locs hp hw => ?_)
      cases hp
      refine lv_if_eq (tgt := 25) hx hb d_Md_enabled_16 (by decide) (fun hc => ?_) (fun hc => ?_)
      · have h := it_t hc h
        refine lv_iconst (v := 0) hx hb d_Md_enabled_25 (by decide) ?_
        refine lv_ior hx hb d_Md_enabled_26 ?_
        refine lv_topi (fun v1_4 ev => ?_)
        have h := nk_r ev h
        refine lv_istore_n (lv' := [(1, .int v1_4), (0, .ref (ad 0)), (2, .int v2)]) hx hb d_Md_enabled_27 rfl hl (by decide) rfl (fun ls hl => ?_)
        refine lv_iinc (lv' := [(2, .int (v2 + (1 : Int32))), (1, .int v1_4), (0, .ref (ad 0))]) (k := 2) hx hb d_Md_enabled_28 hl rfl (oi_p1 _) (by decide) rfl (fun ls hl => ?_)
        refine lv_goto (tgt := 4) hx hb d_Md_enabled_31 (by decide) ?_
        exact ih v1_4 (v2 + (1 : Int32)) u2 _ _ _ h (lv_sub hl [2, 1, 0] rfl) hw
      · have h := it_f hc h
        refine lv_iconst (v := 1) hx hb d_Md_enabled_19 (by decide) ?_
        refine lv_iload_n hx hb d_Md_enabled_20 rfl (lv_at hl 2 rfl) ?_
        refine lv_ishl hx hb d_Md_enabled_21 ?_
        refine lv_goto (tgt := 26) hx hb d_Md_enabled_22 (by decide) ?_
        refine lv_ior hx hb d_Md_enabled_26 ?_
        refine lv_topi (fun v1_5 ev => ?_)
        have h := nk_r ev h
        refine lv_istore_n (lv' := [(1, .int v1_5), (0, .ref (ad 0)), (2, .int v2)]) hx hb d_Md_enabled_27 rfl hl (by decide) rfl (fun ls hl => ?_)
        refine lv_iinc (lv' := [(2, .int (v2 + (1 : Int32))), (1, .int v1_5), (0, .ref (ad 0))]) (k := 2) hx hb d_Md_enabled_28 hl rfl (oi_p1 _) (by decide) rfl (fun ls hl => ?_)
        refine lv_goto (tgt := 4) hx hb d_Md_enabled_31 (by decide) ?_
        exact ih v1_5 (v2 + (1 : Int32)) u2 _ _ _ h (lv_sub hl [2, 1, 0] rfl) hw
set_option maxRecDepth 100000 in
set_option maxHeartbeats 4000000 in
theorem c_Md_enabled (l : Launch) (F : Nat) (u : St) (res : Int32 × St) (h : sp_Md_enabled F u = some res) : ly_Mi ZsM clA layM l y_Md_enabled w_Md_enabled { frames := 5, cells := 0, slots := 0, locals := 125 } (fun ad => [.ref (ad 0)]) u (fun r1 u1 => (r1, u1) = res) := by
  refine ly_enti (cc := b_Md_enabled) (maxL := 3) (ret := (some .int)) (by decide) rfl (fun ad => Nat.le_of_ble_eq_true rfl) ?_
  intro p e s m below meth c D ad cA A ls fx hr hlocks hk hA hz hw hl
  have hl : lv_has ls 3 [(0, .ref (ad 0))] := hl
  have hx := fx.1
  have hb := fx.2.1
  unfold sp_Md_enabled at h
  refine lv_iconst (v := 0) hx hb d_Md_enabled_0 (by decide) ?_
  refine lv_istore_n (lv' := [(1, .int (0 : Int32)), (0, .ref (ad 0))]) hx hb d_Md_enabled_1 rfl hl (by decide) rfl (fun ls hl => ?_)
  refine lv_iconst (v := 0) hx hb d_Md_enabled_2 (by decide) ?_
  refine lv_istore_n (lv' := [(2, .int (0 : Int32)), (1, .int (0 : Int32)), (0, .ref (ad 0))]) hx hb d_Md_enabled_3 rfl hl (by decide) rfl (fun ls hl => ?_)
  refine wl_Md_enabled_4 fx hr hlocks hk hA hz F (fun v1_6 v2_7 u8 H locs ls h hl hw => ?_) _ (0 : Int32) (0 : Int32) u _ _ _ h (lv_sub hl [2, 1, 0] rfl) hw
  refine lv_iload_n hx hb d_Md_enabled_34 rfl (lv_at hl 1 rfl) ?_
  exact ly_reti fx hr hlocks hk hw (Option.some.inj h) d_Md_enabled_35
set_option maxRecDepth 100000 in
set_option maxHeartbeats 4000000 in
theorem wl_Md_fire_110 {p : Program} {l : Launch} {e : Env} {s : State} {m : MethodId} {args : Array Value} {below : List Frame} {meth : Method} {c : Code} {D : va_G} {ad : Nat → Nat} {cA : Nat → ClassId} {A : Nat → Prop} (fx : CallFix p m c b_Md_fire 4 s args w_Md_fire y_Md_fire.cls) (hr : meth.sig.returnType = (some .int)) (hlocks : meth.locks = false) (hk : ly_K D clA layM cA s) (hA : ∀ q, s.heap.size ≤ q → A q) (hz : ZsM A s s.heap) (F : Nat) (v1 : Int32) (v2 : Int32) {k110 : Int32 → St → Option (Int32 × St)} {res : Int32 × St}
    (hX110 : ∀ (v3 : Int32) (u : St) (H : Heap) (locs : List Loc) (ls : Array Slot), k110 v3 u = some res → lv_has ls 4 [(0, .ref (ad 0)), (1, .int v1), (2, .int v2), (3, .int v3)] → ly_G D clA layM ad cA A s.heap u H locs → W p l e { frames := 5, cells := 0, slots := 0, locals := 125 } s m args below meth c H locs 0 0 (MQ below (va_Qi (fun r1 u1 => (r1, u1) = res) (ly_B D clA layM ad cA A) A) args s 0 0 A) (F0 m 169 ls [])) :
    ∀ (n : Nat) (v3 : Int32) (u : St) (H : Heap) (locs : List Loc) (ls : Array Slot), lp_Md_fire_110 F v1 v2 k110 n v3 u = some res → lv_has ls 4 [(0, .ref (ad 0)), (1, .int v1), (2, .int v2), (3, .int v3)] → ly_G D clA layM ad cA A s.heap u H locs → W p l e { frames := 5, cells := 0, slots := 0, locals := 125 } s m args below meth c H locs 0 0 (MQ below (va_Qi (fun r1 u1 => (r1, u1) = res) (ly_B D clA layM ad cA A) A) args s 0 0 A) (F0 m 110 ls []) := by
  have hx := fx.1
  have hb := fx.2.1
  intro n
  induction n with
  | zero => intro v3 u H locs ls h; exact nomatch h
  | succ n ih =>
    intro v3 u H locs ls h hl hw
    rw [lp_Md_fire_110] at h
    refine lv_iload_n hx hb d_Md_fire_110 rfl (lv_at hl 3 rfl) ?_
    refine lv_aload_n hx hb d_Md_fire_111 rfl (lv_at hl 0 rfl) ?_
    refine ly_getr fx hk hw (0) rfl rfl i_Model 11 (by decide) rfl rfl (List.mem_cons_of_mem _ a_478) d_Md_fire_112 ?_
    refine lv_iload_n hx hb d_Md_fire_115 rfl (lv_at hl 1 rfl) ?_
    obtain ⟨hi15, h⟩ := it_in h
    refine ly_iald fx hk hw (12) rfl hi15 d_Md_fire_116 ?_
    refine lv_icmp_ge (tgt := 169) hx hb d_Md_fire_117 (by decide) (fun hc => ?_) (fun hc => ?_)
    · have h := it_t hc h
      exact hX110 v3 u _ _ _ h (lv_sub hl [0, 1, 2, 3] rfl) hw
    · have h := it_f hc h
      refine lv_aload_n hx hb d_Md_fire_120 rfl (lv_at hl 0 rfl) ?_
      refine lv_dup hx hb d_Md_fire_121 rfl ?_
      refine ly_get fx hk hw (0) rfl rfl i_Model 19 (by decide) rfl rfl (List.mem_cons_of_mem _ a_486) d_Md_fire_122 ?_
      refine lv_iconst (v := 1) hx hb d_Md_fire_125 (by decide) ?_
      refine lv_iadd hx hb d_Md_fire_126 ?_
      refine ly_put (v := ((u.1 (0) 19) + (1 : Int32))) fx hk hw (0) rfl rfl i_Model t_Model t_Model_ok n_Model 19 (by decide) rfl rfl rfl (List.mem_cons_of_mem _ a_486) rfl rfl d_Md_fire_127 (fun H locs hw => ?_)
      obtain ⟨u16, ev⟩ : ∃ z, z = ly_pi u (0) 19 ((u.1 (0) 19) + (1 : Int32)) := ⟨_, rfl⟩
      rw [← ev] at hw
      have h := nk_r ev h
      refine lv_aload_n hx hb d_Md_fire_130 rfl (lv_at hl 0 rfl) ?_
      refine ly_getr fx hk hw (0) rfl rfl i_Model 20 (by decide) rfl rfl (List.mem_cons_of_mem _ a_487) d_Md_fire_131 ?_
      refine lv_aload_n hx hb d_Md_fire_134 rfl (lv_at hl 0 rfl) ?_
      refine ly_get fx hk hw (0) rfl rfl i_Model 19 (by decide) rfl rfl (List.mem_cons_of_mem _ a_486) d_Md_fire_135 ?_
      refine lv_iload_n hx hb d_Md_fire_138 rfl (lv_at hl 1 rfl) ?_
      obtain ⟨hi17, h⟩ := it_in h
      refine ly_iast fx hk hw (17) rfl hi17 d_Md_fire_139 (fun H locs hw => ?_)
      obtain ⟨u18, ev⟩ : ∃ z, z = ly_pi u16 (17) (u16.1 (0) 19).toNatClampNeg v1 := ⟨_, rfl⟩
      rw [← ev] at hw
      have h := nk_r ev h
      refine lv_aload_n hx hb d_Md_fire_140 rfl (lv_at hl 0 rfl) ?_
      refine ly_getr fx hk hw (0) rfl rfl i_Model 21 (by decide) rfl rfl (List.mem_cons_of_mem _ a_488) d_Md_fire_141 ?_
      refine lv_aload_n hx hb d_Md_fire_144 rfl (lv_at hl 0 rfl) ?_
      refine ly_get fx hk hw (0) rfl rfl i_Model 19 (by decide) rfl rfl (List.mem_cons_of_mem _ a_486) d_Md_fire_145 ?_
      refine lv_iconst (v := 1) hx hb d_Md_fire_148 (by decide) ?_
      obtain ⟨hi19, h⟩ := it_in h
      refine ly_iast fx hk hw (18) rfl hi19 d_Md_fire_149 (fun H locs hw => ?_)
      obtain ⟨u20, ev⟩ : ∃ z, z = ly_pi u18 (18) (u18.1 (0) 19).toNatClampNeg (1 : Int32) := ⟨_, rfl⟩
      rw [← ev] at hw
      have h := nk_r ev h
      refine lv_aload_n hx hb d_Md_fire_150 rfl (lv_at hl 0 rfl) ?_
      refine ly_getr fx hk hw (0) rfl rfl i_Model 22 (by decide) rfl rfl (List.mem_cons_of_mem _ a_489) d_Md_fire_151 ?_
      refine lv_aload_n hx hb d_Md_fire_154 rfl (lv_at hl 0 rfl) ?_
      refine ly_get fx hk hw (0) rfl rfl i_Model 19 (by decide) rfl rfl (List.mem_cons_of_mem _ a_486) d_Md_fire_155 ?_
      refine lv_aload_n hx hb d_Md_fire_158 rfl (lv_at hl 0 rfl) ?_
      refine ly_get fx hk hw (0) rfl rfl i_Model 17 (by decide) rfl rfl (List.mem_cons_of_mem _ a_484) d_Md_fire_159 ?_
      obtain ⟨hi21, h⟩ := it_in h
      refine ly_iast fx hk hw (19) rfl hi21 d_Md_fire_162 (fun H locs hw => ?_)
      obtain ⟨u22, ev⟩ : ∃ z, z = ly_pi u20 (19) (u20.1 (0) 19).toNatClampNeg (u20.1 (0) 17) := ⟨_, rfl⟩
      rw [← ev] at hw
      have h := nk_r ev h
      refine lv_iinc (lv' := [(3, .int (v3 + (1 : Int32))), (0, .ref (ad 0)), (1, .int v1), (2, .int v2)]) (k := 3) hx hb d_Md_fire_163 hl rfl (oi_p1 _) (by decide) rfl (fun ls hl => ?_)
      refine lv_goto (tgt := 110) hx hb d_Md_fire_166 (by decide) ?_
      exact ih (v3 + (1 : Int32)) u22 _ _ _ h (lv_sub hl [1, 2, 3, 0] rfl) hw
set_option maxRecDepth 100000 in
set_option maxHeartbeats 4000000 in
theorem c_Md_fire (l : Launch) (F : Nat) (a1 : Int32) (u : St) (res : Int32 × St) (h : sp_Md_fire F a1 u = some res) : ly_Mi ZsM clA layM l y_Md_fire w_Md_fire { frames := 5, cells := 0, slots := 0, locals := 125 } (fun ad => [.ref (ad 0), .int a1]) u (fun r1 u1 => (r1, u1) = res) := by
  refine ly_enti (cc := b_Md_fire) (maxL := 4) (ret := (some .int)) (by decide) rfl (fun ad => Nat.le_of_ble_eq_true rfl) ?_
  intro p e s m below meth c D ad cA A ls fx hr hlocks hk hA hz hw hl
  have hl : lv_has ls 4 [(0, .ref (ad 0)), (1, .int a1)] := hl
  have hx := fx.1
  have hb := fx.2.1
  unfold sp_Md_fire at h
  refine lv_aload_n hx hb d_Md_fire_0 rfl (lv_at hl 0 rfl) ?_
  refine lv_iload_n hx hb d_Md_fire_1 rfl (lv_at hl 1 rfl) ?_
  obtain ⟨r1, u2, hq3, h⟩ := ck_r h
  refine ly_callVi (As := [.int a1]) (rest := []) ZsM_ok fx hk hz hA hw (c_Md_isDefined l a1 u _ hq3) (cw_V fx.2.2.2.2 a_569 a_571 as_19 a_6 ac_Md_isDefined rfl rfl rfl hd_Md_isDefined ⟨Nat.le_of_ble_eq_true rfl, Nat.le_of_ble_eq_true rfl⟩) (0) rfl rfl rfl rfl hl.1 rfl (Nat.le_of_ble_eq_true rfl) d_Md_fire_2 (Nat.zero_le _) (Nat.zero_le _) (fun r' u' H locs hp hw => ?_)
  cases hp
  refine lv_if_ne (tgt := 10) hx hb d_Md_fire_5 (by decide) (fun hc => ?_) (fun hc => ?_)
  · have h := it_f hc h
    refine lv_aload_n hx hb d_Md_fire_10 rfl (lv_at hl 0 rfl) ?_
    refine lv_iload_n hx hb d_Md_fire_11 rfl (lv_at hl 1 rfl) ?_
    obtain ⟨r4, u5, hq6, h⟩ := ck_r h
    refine ly_callVi (As := [.int a1]) (rest := []) ZsM_ok fx hk hz hA hw (c_Md_isEnabled l F a1 u2 _ hq6) (cw_V fx.2.2.2.2 a_628 a_630 as_27 a_6 ac_Md_isEnabled rfl rfl rfl hd_Md_isEnabled ⟨Nat.le_of_ble_eq_true rfl, Nat.le_of_ble_eq_true rfl⟩) (0) rfl rfl rfl rfl hl.1 rfl (Nat.le_of_ble_eq_true rfl) d_Md_fire_12 (Nat.zero_le _) (Nat.zero_le _) (fun r' u' H locs hp hw => ?_)
    cases hp
    refine lv_if_ne (tgt := 21) hx hb d_Md_fire_15 (by decide) (fun hc => ?_) (fun hc => ?_)
    · have h := it_f hc h
      refine lv_aload_n hx hb d_Md_fire_21 rfl (lv_at hl 0 rfl) ?_
      refine ly_get fx hk hw (0) rfl rfl i_Model 19 (by decide) rfl rfl (List.mem_cons_of_mem _ a_486) d_Md_fire_22 ?_
      refine lv_aload_n hx hb d_Md_fire_25 rfl (lv_at hl 0 rfl) ?_
      refine ly_getr fx hk hw (0) rfl rfl i_Model 11 (by decide) rfl rfl (List.mem_cons_of_mem _ a_478) d_Md_fire_26 ?_
      refine lv_iload_n hx hb d_Md_fire_29 rfl (lv_at hl 1 rfl) ?_
      obtain ⟨hi7, h⟩ := it_in h
      refine ly_iald fx hk hw (12) rfl hi7 d_Md_fire_30 ?_
      refine lv_iadd hx hb d_Md_fire_31 ?_
      refine lv_bipush (v := 60) hx hb d_Md_fire_32 (by decide) ?_
      refine lv_icmp_le (tgt := 40) hx hb d_Md_fire_34 (by decide) (fun hc => ?_) (fun hc => ?_)
      · have h := it_t hc h
        refine lv_aload_n hx hb d_Md_fire_40 rfl (lv_at hl 0 rfl) ?_
        refine ly_getr fx hk hw (0) rfl rfl i_Model 3 (by decide) rfl rfl (List.mem_cons_of_mem _ a_470) d_Md_fire_41 ?_
        refine lv_iload_n hx hb d_Md_fire_44 rfl (lv_at hl 1 rfl) ?_
        obtain ⟨hi8, h⟩ := it_in h
        refine ly_iald fx hk hw (4) rfl hi8 d_Md_fire_45 ?_
        refine lv_aload_n hx hb d_Md_fire_46 rfl (lv_at hl 0 rfl) ?_
        refine ly_get fx hk hw (0) rfl rfl i_Model 16 (by decide) rfl rfl (List.mem_cons_of_mem _ a_483) d_Md_fire_47 ?_
        refine lv_iand hx hb d_Md_fire_50 ?_
        refine lv_topi (fun v2_9 ev => ?_)
        have h := nk_r ev h
        refine lv_istore_n (lv' := [(2, .int v2_9), (0, .ref (ad 0)), (1, .int a1)]) hx hb d_Md_fire_51 rfl hl (by decide) rfl (fun ls hl => ?_)
        refine lv_aload_n hx hb d_Md_fire_52 rfl (lv_at hl 1 rfl) ?_
        refine lv_dup hx hb d_Md_fire_53 rfl ?_
        refine ly_get fx hk hw (0) rfl rfl i_Model 16 (by decide) rfl rfl (List.mem_cons_of_mem _ a_483) d_Md_fire_54 ?_
        refine lv_aload_n hx hb d_Md_fire_57 rfl (lv_at hl 1 rfl) ?_
        refine ly_getr fx hk hw (0) rfl rfl i_Model 1 (by decide) rfl rfl (List.mem_cons_of_mem _ a_468) d_Md_fire_58 ?_
        refine lv_iload_n hx hb d_Md_fire_61 rfl (lv_at hl 2 rfl) ?_
        obtain ⟨hi10, h⟩ := it_in h
        refine ly_iald fx hk hw (2) rfl hi10 d_Md_fire_62 ?_
        refine lv_iconst (v := 1) hx hb d_Md_fire_63 (by decide) ?_
        refine lv_icmp_ne (tgt := 74) hx hb d_Md_fire_64 (by decide) (fun hc => ?_) (fun hc => ?_)
        · have h := it_f hc h
          refine lv_iload_n hx hb d_Md_fire_74 rfl (lv_at hl 0 rfl) ?_
          refine lv_iconst (v := -1) hx hb d_Md_fire_75 (by decide) ?_
          refine lv_ixor hx hb d_Md_fire_76 ?_
          refine lv_iand hx hb d_Md_fire_77 ?_
          refine ly_put (v := ((u5.1 (0) 16) &&& (v2_9 ^^^ (-1 : Int32)))) fx hk hw (0) rfl rfl i_Model t_Model t_Model_ok n_Model 16 (by decide) rfl rfl rfl (List.mem_cons_of_mem _ a_483) rfl rfl d_Md_fire_78 (fun H locs hw => ?_)
          obtain ⟨u11, ev⟩ : ∃ z, z = ly_pi u5 (0) 16 ((u5.1 (0) 16) &&& (v2_9 ^^^ (-1 : Int32))) := ⟨_, rfl⟩
          rw [← ev] at hw
          have h := nk_r ev h
          refine lv_aload_n hx hb d_Md_fire_81 rfl (lv_at hl 1 rfl) ?_
          refine lv_dup hx hb d_Md_fire_82 rfl ?_
          refine ly_get fx hk hw (0) rfl rfl i_Model 16 (by decide) rfl rfl (List.mem_cons_of_mem _ a_483) d_Md_fire_83 ?_
          refine lv_iconst (v := 1) hx hb d_Md_fire_86 (by decide) ?_
          refine lv_bipush (v := 8) hx hb d_Md_fire_87 (by decide) ?_
          refine lv_iload_n hx hb d_Md_fire_89 rfl (lv_at hl 2 rfl) ?_
          refine lv_iadd hx hb d_Md_fire_90 ?_
          refine lv_ishl hx hb d_Md_fire_91 ?_
          refine lv_ior hx hb d_Md_fire_92 ?_
          refine ly_put (v := ((u11.1 (0) 16) ||| ((1 : Int32) <<< (((8 : Int32) + a1) &&& 31)))) fx hk hw (0) rfl rfl i_Model t_Model t_Model_ok n_Model 16 (by decide) rfl rfl rfl (List.mem_cons_of_mem _ a_483) rfl rfl d_Md_fire_93 (fun H locs hw => ?_)
          obtain ⟨u12, ev⟩ : ∃ z, z = ly_pi u11 (0) 16 ((u11.1 (0) 16) ||| ((1 : Int32) <<< (((8 : Int32) + a1) &&& 31))) := ⟨_, rfl⟩
          rw [← ev] at hw
          have h := nk_r ev h
          refine lv_aload_n hx hb d_Md_fire_96 rfl (lv_at hl 1 rfl) ?_
          refine ly_getr fx hk hw (0) rfl rfl i_Model 23 (by decide) rfl rfl (List.mem_cons_of_mem _ a_490) d_Md_fire_97 ?_
          refine lv_iload_n hx hb d_Md_fire_100 rfl (lv_at hl 2 rfl) ?_
          refine lv_aload_n hx hb d_Md_fire_101 rfl (lv_at hl 1 rfl) ?_
          refine ly_get fx hk hw (0) rfl rfl i_Model 19 (by decide) rfl rfl (List.mem_cons_of_mem _ a_486) d_Md_fire_102 ?_
          refine lv_iconst (v := 1) hx hb d_Md_fire_105 (by decide) ?_
          refine lv_iadd hx hb d_Md_fire_106 ?_
          obtain ⟨hi13, h⟩ := it_in h
          refine ly_iast fx hk hw (20) rfl hi13 d_Md_fire_107 (fun H locs hw => ?_)
          obtain ⟨u14, ev⟩ : ∃ z, z = ly_pi u12 (20) a1.toNatClampNeg ((u12.1 (0) 19) + (1 : Int32)) := ⟨_, rfl⟩
          rw [← ev] at hw
          have h := nk_r ev h
          refine lv_iconst (v := 0) hx hb d_Md_fire_108 (by decide) ?_
          refine lv_istore_n (lv' := [(3, .int (0 : Int32)), (2, .int v2_9), (0, .ref (ad 0)), (1, .int a1)]) hx hb d_Md_fire_109 rfl hl (by decide) rfl (fun ls hl => ?_)
          refine wl_Md_fire_110 fx hr hlocks hk hA hz F a1 v2_9 (fun v3_23 u24 H locs ls h hl hw => ?_) _ (0 : Int32) u14 _ _ _ h (lv_sub hl [2, 3, 1, 0] rfl) hw
          refine lv_aload_n hx hb d_Md_fire_169 rfl (lv_at hl 0 rfl) ?_
          refine ly_getr fx hk hw (0) rfl rfl i_Model 23 (by decide) rfl rfl (List.mem_cons_of_mem _ a_490) d_Md_fire_170 ?_
          refine lv_iload_n hx hb d_Md_fire_173 rfl (lv_at hl 1 rfl) ?_
          obtain ⟨hi25, h⟩ := it_in h
          refine ly_iald fx hk hw (20) rfl hi25 d_Md_fire_174 ?_
          exact ly_reti fx hr hlocks hk hw (Option.some.inj h) d_Md_fire_175
        · have h := it_t hc h
          refine lv_iload_n hx hb d_Md_fire_67 rfl (lv_at hl 0 rfl) ?_
          refine lv_iload_n hx hb d_Md_fire_68 rfl (lv_at hl 0 rfl) ?_
          refine lv_ineg hx hb d_Md_fire_69 ?_
          refine lv_iand hx hb d_Md_fire_70 ?_
          refine lv_goto (tgt := 75) hx hb d_Md_fire_71 (by decide) ?_
          refine lv_iconst (v := -1) hx hb d_Md_fire_75 (by decide) ?_
          refine lv_ixor hx hb d_Md_fire_76 ?_
          refine lv_iand hx hb d_Md_fire_77 ?_
          refine ly_put (v := ((u5.1 (0) 16) &&& ((v2_9 &&& (-v2_9)) ^^^ (-1 : Int32)))) fx hk hw (0) rfl rfl i_Model t_Model t_Model_ok n_Model 16 (by decide) rfl rfl rfl (List.mem_cons_of_mem _ a_483) rfl rfl d_Md_fire_78 (fun H locs hw => ?_)
          obtain ⟨u26, ev⟩ : ∃ z, z = ly_pi u5 (0) 16 ((u5.1 (0) 16) &&& ((v2_9 &&& (-v2_9)) ^^^ (-1 : Int32))) := ⟨_, rfl⟩
          rw [← ev] at hw
          have h := nk_r ev h
          refine lv_aload_n hx hb d_Md_fire_81 rfl (lv_at hl 1 rfl) ?_
          refine lv_dup hx hb d_Md_fire_82 rfl ?_
          refine ly_get fx hk hw (0) rfl rfl i_Model 16 (by decide) rfl rfl (List.mem_cons_of_mem _ a_483) d_Md_fire_83 ?_
          refine lv_iconst (v := 1) hx hb d_Md_fire_86 (by decide) ?_
          refine lv_bipush (v := 8) hx hb d_Md_fire_87 (by decide) ?_
          refine lv_iload_n hx hb d_Md_fire_89 rfl (lv_at hl 2 rfl) ?_
          refine lv_iadd hx hb d_Md_fire_90 ?_
          refine lv_ishl hx hb d_Md_fire_91 ?_
          refine lv_ior hx hb d_Md_fire_92 ?_
          refine ly_put (v := ((u26.1 (0) 16) ||| ((1 : Int32) <<< (((8 : Int32) + a1) &&& 31)))) fx hk hw (0) rfl rfl i_Model t_Model t_Model_ok n_Model 16 (by decide) rfl rfl rfl (List.mem_cons_of_mem _ a_483) rfl rfl d_Md_fire_93 (fun H locs hw => ?_)
          obtain ⟨u27, ev⟩ : ∃ z, z = ly_pi u26 (0) 16 ((u26.1 (0) 16) ||| ((1 : Int32) <<< (((8 : Int32) + a1) &&& 31))) := ⟨_, rfl⟩
          rw [← ev] at hw
          have h := nk_r ev h
          refine lv_aload_n hx hb d_Md_fire_96 rfl (lv_at hl 1 rfl) ?_
          refine ly_getr fx hk hw (0) rfl rfl i_Model 23 (by decide) rfl rfl (List.mem_cons_of_mem _ a_490) d_Md_fire_97 ?_
          refine lv_iload_n hx hb d_Md_fire_100 rfl (lv_at hl 2 rfl) ?_
          refine lv_aload_n hx hb d_Md_fire_101 rfl (lv_at hl 1 rfl) ?_
          refine ly_get fx hk hw (0) rfl rfl i_Model 19 (by decide) rfl rfl (List.mem_cons_of_mem _ a_486) d_Md_fire_102 ?_
          refine lv_iconst (v := 1) hx hb d_Md_fire_105 (by decide) ?_
          refine lv_iadd hx hb d_Md_fire_106 ?_
          obtain ⟨hi28, h⟩ := it_in h
          refine ly_iast fx hk hw (20) rfl hi28 d_Md_fire_107 (fun H locs hw => ?_)
          obtain ⟨u29, ev⟩ : ∃ z, z = ly_pi u27 (20) a1.toNatClampNeg ((u27.1 (0) 19) + (1 : Int32)) := ⟨_, rfl⟩
          rw [← ev] at hw
          have h := nk_r ev h
          refine lv_iconst (v := 0) hx hb d_Md_fire_108 (by decide) ?_
          refine lv_istore_n (lv' := [(3, .int (0 : Int32)), (2, .int v2_9), (0, .ref (ad 0)), (1, .int a1)]) hx hb d_Md_fire_109 rfl hl (by decide) rfl (fun ls hl => ?_)
          refine wl_Md_fire_110 fx hr hlocks hk hA hz F a1 v2_9 (fun v3_30 u31 H locs ls h hl hw => ?_) _ (0 : Int32) u29 _ _ _ h (lv_sub hl [2, 3, 1, 0] rfl) hw
          refine lv_aload_n hx hb d_Md_fire_169 rfl (lv_at hl 0 rfl) ?_
          refine ly_getr fx hk hw (0) rfl rfl i_Model 23 (by decide) rfl rfl (List.mem_cons_of_mem _ a_490) d_Md_fire_170 ?_
          refine lv_iload_n hx hb d_Md_fire_173 rfl (lv_at hl 1 rfl) ?_
          obtain ⟨hi32, h⟩ := it_in h
          refine ly_iald fx hk hw (20) rfl hi32 d_Md_fire_174 ?_
          exact ly_reti fx hr hlocks hk hw (Option.some.inj h) d_Md_fire_175
      · have h := it_f hc h
        refine lv_bipush (v := -3) hx hb d_Md_fire_37 (by decide) ?_
        exact ly_reti fx hr hlocks hk hw (Option.some.inj h) d_Md_fire_39
    · have h := it_t hc h
      refine lv_bipush (v := -2) hx hb d_Md_fire_18 (by decide) ?_
      exact ly_reti fx hr hlocks hk hw (Option.some.inj h) d_Md_fire_20
  · have h := it_t hc h
    refine lv_iconst (v := -1) hx hb d_Md_fire_8 (by decide) ?_
    exact ly_reti fx hr hlocks hk hw (Option.some.inj h) d_Md_fire_9
set_option maxRecDepth 100000 in
set_option maxHeartbeats 4000000 in
theorem c_Md_isItem (l : Launch) (a1 : Int32) (u : St) (res : Int32 × St) (h : sp_Md_isItem a1 u = some res) : ly_Mi ZsM clA layM l y_Md_isItem w_Md_isItem { frames := 0, cells := 0, slots := 0, locals := 0 } (fun ad => [.ref (ad 0), .int a1]) u (fun r1 u1 => (r1, u1) = res) := by
  refine ly_enti (cc := b_Md_isItem) (maxL := 2) (ret := (some .boolean)) (by decide) rfl (fun ad => Nat.le_of_ble_eq_true rfl) ?_
  intro p e s m below meth c D ad cA A ls fx hr hlocks hk hA hz hw hl
  have hl : lv_has ls 2 [(0, .ref (ad 0)), (1, .int a1)] := hl
  have hx := fx.1
  have hb := fx.2.1
  unfold sp_Md_isItem at h
  refine lv_iload_n hx hb d_Md_isItem_0 rfl (lv_at hl 1 rfl) ?_
  refine lv_iconst (v := 1) hx hb d_Md_isItem_1 (by decide) ?_
  refine lv_icmp_lt (tgt := 17) hx hb d_Md_isItem_2 (by decide) (fun hc => ?_) (fun hc => ?_)
  · have h := it_t hc h
    refine lv_iconst (v := 0) hx hb d_Md_isItem_17 (by decide) ?_
    exact ly_retz fx hr hlocks hk hw (Or.inl rfl) (Option.some.inj h) d_Md_isItem_18
  · have h := it_f hc h
    refine lv_iload_n hx hb d_Md_isItem_5 rfl (lv_at hl 1 rfl) ?_
    refine lv_aload_n hx hb d_Md_isItem_6 rfl (lv_at hl 0 rfl) ?_
    refine ly_get fx hk hw (0) rfl rfl i_Model 19 (by decide) rfl rfl (List.mem_cons_of_mem _ a_486) d_Md_isItem_7 ?_
    refine lv_icmp_gt (tgt := 17) hx hb d_Md_isItem_10 (by decide) (fun hc => ?_) (fun hc => ?_)
    · have h := it_t hc h
      refine lv_iconst (v := 0) hx hb d_Md_isItem_17 (by decide) ?_
      exact ly_retz fx hr hlocks hk hw (Or.inl rfl) (Option.some.inj h) d_Md_isItem_18
    · have h := it_f hc h
      refine lv_iconst (v := 1) hx hb d_Md_isItem_13 (by decide) ?_
      refine lv_goto (tgt := 18) hx hb d_Md_isItem_14 (by decide) ?_
      exact ly_retz fx hr hlocks hk hw (Or.inr rfl) (Option.some.inj h) d_Md_isItem_18
set_option maxRecDepth 100000 in
set_option maxHeartbeats 4000000 in
theorem wl_Md_inState_11 {p : Program} {l : Launch} {e : Env} {s : State} {m : MethodId} {args : Array Value} {below : List Frame} {meth : Method} {c : Code} {D : va_G} {ad : Nat → Nat} {cA : Nat → ClassId} {A : Nat → Prop} (fx : CallFix p m c b_Md_inState 6 s args w_Md_inState y_Md_inState.cls) (hr : meth.sig.returnType = (some .int)) (hlocks : meth.locks = false) (hk : ly_K D clA layM cA s) (hA : ∀ q, s.heap.size ≤ q → A q) (hz : ZsM A s s.heap) (F : Nat) (v1 : Int32) (v2 : Int32) (v3 : Int32) {k11 : Int32 → Int32 → St → Option (Int32 × St)} {res : Int32 × St}
    (hX11 : ∀ (v4 : Int32) (v5 : Int32) (u : St) (H : Heap) (locs : List Loc) (ls : Array Slot), k11 v4 v5 u = some res → lv_has ls 6 [(0, .ref (ad 0)), (1, .int v1), (2, .int v2), (3, .int v3), (4, .int v4), (5, .int v5)] → ly_G D clA layM ad cA A s.heap u H locs → W p l e { frames := 0, cells := 0, slots := 0, locals := 0 } s m args below meth c H locs 0 0 (MQ below (va_Qi (fun r1 u1 => (r1, u1) = res) (ly_B D clA layM ad cA A) A) args s 0 0 A) (F0 m 69 ls [])) :
    ∀ (n : Nat) (v4 : Int32) (v5 : Int32) (u : St) (H : Heap) (locs : List Loc) (ls : Array Slot), lp_Md_inState_11 F v1 v2 v3 k11 n v4 v5 u = some res → lv_has ls 6 [(0, .ref (ad 0)), (1, .int v1), (2, .int v2), (3, .int v3), (4, .int v4), (5, .int v5)] → ly_G D clA layM ad cA A s.heap u H locs → W p l e { frames := 0, cells := 0, slots := 0, locals := 0 } s m args below meth c H locs 0 0 (MQ below (va_Qi (fun r1 u1 => (r1, u1) = res) (ly_B D clA layM ad cA A) A) args s 0 0 A) (F0 m 11 ls []) := by
  have hx := fx.1
  have hb := fx.2.1
  intro n
  induction n with
  | zero => intro v4 v5 u H locs ls h; exact nomatch h
  | succ n ih =>
    intro v4 v5 u H locs ls h hl hw
    rw [lp_Md_inState_11] at h
    refine lv_iload hx hb d_Md_inState_11 (lv_at hl 5 rfl) ?_
    refine lv_aload_n hx hb d_Md_inState_13 rfl (lv_at hl 0 rfl) ?_
    refine ly_get fx hk hw (0) rfl rfl i_Model 19 (by decide) rfl rfl (List.mem_cons_of_mem _ a_486) d_Md_inState_14 ?_
    refine lv_icmp_gt (tgt := 69) hx hb d_Md_inState_17 (by decide) (fun hc => ?_) (fun hc => ?_)
    · have h := it_t hc h
      exact hX11 v4 v5 u _ _ _ h (lv_sub hl [0, 1, 2, 3, 4, 5] rfl) hw
    · have h := it_f hc h
      refine lv_iload hx hb d_Md_inState_20 (lv_at hl 4 rfl) ?_
      refine lv_aload_n hx hb d_Md_inState_22 rfl (lv_at hl 0 rfl) ?_
      refine ly_getr fx hk hw (0) rfl rfl i_Model 20 (by decide) rfl rfl (List.mem_cons_of_mem _ a_487) d_Md_inState_23 ?_
      refine lv_iload hx hb d_Md_inState_26 (lv_at hl 5 rfl) ?_
      obtain ⟨hi3, h⟩ := it_in h
      refine ly_iald fx hk hw (17) rfl hi3 d_Md_inState_28 ?_
      refine lv_iload_n hx hb d_Md_inState_29 rfl (lv_at hl 1 rfl) ?_
      refine lv_icmp_ne (tgt := 59) hx hb d_Md_inState_30 (by decide) (fun hc => ?_) (fun hc => ?_)
      · have h := it_f hc h
        refine lv_iconst (v := 0) hx hb d_Md_inState_59 (by decide) ?_
        refine lv_iadd hx hb d_Md_inState_60 ?_
        refine lv_topi (fun v4_4 ev => ?_)
        have h := nk_r ev h
        refine lv_istore (lv' := [(4, .int v4_4), (0, .ref (ad 0)), (1, .int v1), (2, .int v2), (3, .int v3), (5, .int v5)]) hx hb d_Md_inState_61 hl (by decide) rfl (fun ls hl => ?_)
        refine lv_iinc (lv' := [(5, .int (v5 + (1 : Int32))), (4, .int v4_4), (0, .ref (ad 0)), (1, .int v1), (2, .int v2), (3, .int v3)]) (k := 5) hx hb d_Md_inState_63 hl rfl (oi_p1 _) (by decide) rfl (fun ls hl => ?_)
        refine lv_goto (tgt := 11) hx hb d_Md_inState_66 (by decide) ?_
        exact ih v4_4 (v5 + (1 : Int32)) u _ _ _ h (lv_sub hl [2, 3, 4, 5, 1, 0] rfl) hw
      · have h := it_t hc h
        refine lv_aload_n hx hb d_Md_inState_33 rfl (lv_at hl 0 rfl) ?_
        refine ly_getr fx hk hw (0) rfl rfl i_Model 21 (by decide) rfl rfl (List.mem_cons_of_mem _ a_488) d_Md_inState_34 ?_
        refine lv_iload hx hb d_Md_inState_37 (lv_at hl 5 rfl) ?_
        obtain ⟨hi5, h⟩ := it_in h
        refine ly_iald fx hk hw (18) rfl hi5 d_Md_inState_39 ?_
        refine lv_iload_n hx hb d_Md_inState_40 rfl (lv_at hl 2 rfl) ?_
        refine lv_icmp_lt (tgt := 59) hx hb d_Md_inState_41 (by decide) (fun hc => ?_) (fun hc => ?_)
        · have h := it_t hc h
          refine lv_iconst (v := 0) hx hb d_Md_inState_59 (by decide) ?_
          refine lv_iadd hx hb d_Md_inState_60 ?_
          refine lv_topi (fun v4_6 ev => ?_)
          have h := nk_r ev h
          refine lv_istore (lv' := [(4, .int v4_6), (0, .ref (ad 0)), (1, .int v1), (2, .int v2), (3, .int v3), (5, .int v5)]) hx hb d_Md_inState_61 hl (by decide) rfl (fun ls hl => ?_)
          refine lv_iinc (lv' := [(5, .int (v5 + (1 : Int32))), (4, .int v4_6), (0, .ref (ad 0)), (1, .int v1), (2, .int v2), (3, .int v3)]) (k := 5) hx hb d_Md_inState_63 hl rfl (oi_p1 _) (by decide) rfl (fun ls hl => ?_)
          refine lv_goto (tgt := 11) hx hb d_Md_inState_66 (by decide) ?_
          exact ih v4_6 (v5 + (1 : Int32)) u _ _ _ h (lv_sub hl [2, 3, 4, 5, 1, 0] rfl) hw
        · have h := it_f hc h
          refine lv_aload_n hx hb d_Md_inState_44 rfl (lv_at hl 0 rfl) ?_
          refine ly_getr fx hk hw (0) rfl rfl i_Model 21 (by decide) rfl rfl (List.mem_cons_of_mem _ a_488) d_Md_inState_45 ?_
          refine lv_iload hx hb d_Md_inState_48 (lv_at hl 5 rfl) ?_
          obtain ⟨hi7, h⟩ := it_in h
          refine ly_iald fx hk hw (18) rfl hi7 d_Md_inState_50 ?_
          refine lv_iload_n hx hb d_Md_inState_51 rfl (lv_at hl 3 rfl) ?_
          refine lv_icmp_gt (tgt := 59) hx hb d_Md_inState_52 (by decide) (fun hc => ?_) (fun hc => ?_)
          · have h := it_t hc h
            refine lv_iconst (v := 0) hx hb d_Md_inState_59 (by decide) ?_
            refine lv_iadd hx hb d_Md_inState_60 ?_
            refine lv_topi (fun v4_8 ev => ?_)
            have h := nk_r ev h
            refine lv_istore (lv' := [(4, .int v4_8), (0, .ref (ad 0)), (1, .int v1), (2, .int v2), (3, .int v3), (5, .int v5)]) hx hb d_Md_inState_61 hl (by decide) rfl (fun ls hl => ?_)
            refine lv_iinc (lv' := [(5, .int (v5 + (1 : Int32))), (4, .int v4_8), (0, .ref (ad 0)), (1, .int v1), (2, .int v2), (3, .int v3)]) (k := 5) hx hb d_Md_inState_63 hl rfl (oi_p1 _) (by decide) rfl (fun ls hl => ?_)
            refine lv_goto (tgt := 11) hx hb d_Md_inState_66 (by decide) ?_
            exact ih v4_8 (v5 + (1 : Int32)) u _ _ _ h (lv_sub hl [2, 3, 4, 5, 1, 0] rfl) hw
          · have h := it_f hc h
            refine lv_iconst (v := 1) hx hb d_Md_inState_55 (by decide) ?_
            refine lv_goto (tgt := 60) hx hb d_Md_inState_56 (by decide) ?_
            refine lv_iadd hx hb d_Md_inState_60 ?_
            refine lv_topi (fun v4_9 ev => ?_)
            have h := nk_r ev h
            refine lv_istore (lv' := [(4, .int v4_9), (0, .ref (ad 0)), (1, .int v1), (2, .int v2), (3, .int v3), (5, .int v5)]) hx hb d_Md_inState_61 hl (by decide) rfl (fun ls hl => ?_)
            refine lv_iinc (lv' := [(5, .int (v5 + (1 : Int32))), (4, .int v4_9), (0, .ref (ad 0)), (1, .int v1), (2, .int v2), (3, .int v3)]) (k := 5) hx hb d_Md_inState_63 hl rfl (oi_p1 _) (by decide) rfl (fun ls hl => ?_)
            refine lv_goto (tgt := 11) hx hb d_Md_inState_66 (by decide) ?_
            exact ih v4_9 (v5 + (1 : Int32)) u _ _ _ h (lv_sub hl [2, 3, 4, 5, 1, 0] rfl) hw
set_option maxRecDepth 100000 in
set_option maxHeartbeats 4000000 in
theorem c_Md_inState (l : Launch) (F : Nat) (a1 : Int32) (a2 : Int32) (a3 : Int32) (u : St) (res : Int32 × St) (h : sp_Md_inState F a1 a2 a3 u = some res) : ly_Mi ZsM clA layM l y_Md_inState w_Md_inState { frames := 0, cells := 0, slots := 0, locals := 0 } (fun ad => [.ref (ad 0), .int a1, .int a2, .int a3]) u (fun r1 u1 => (r1, u1) = res) := by
  refine ly_enti (cc := b_Md_inState) (maxL := 6) (ret := (some .int)) (by decide) rfl (fun ad => Nat.le_of_ble_eq_true rfl) ?_
  intro p e s m below meth c D ad cA A ls fx hr hlocks hk hA hz hw hl
  have hl : lv_has ls 6 [(0, .ref (ad 0)), (1, .int a1), (2, .int a2), (3, .int a3)] := hl
  have hx := fx.1
  have hb := fx.2.1
  unfold sp_Md_inState at h
  refine lv_iconst (v := 0) hx hb d_Md_inState_0 (by decide) ?_
  refine lv_istore (lv' := [(4, .int (0 : Int32)), (0, .ref (ad 0)), (1, .int a1), (2, .int a2), (3, .int a3)]) hx hb d_Md_inState_1 hl (by decide) rfl (fun ls hl => ?_)
  refine lv_aload_n hx hb d_Md_inState_3 rfl (lv_at hl 1 rfl) ?_
  refine ly_getr fx hk hw (0) rfl rfl i_Model 23 (by decide) rfl rfl (List.mem_cons_of_mem _ a_490) d_Md_inState_4 ?_
  refine lv_iload_n hx hb d_Md_inState_7 rfl (lv_at hl 2 rfl) ?_
  obtain ⟨hi1, h⟩ := it_in h
  refine ly_iald fx hk hw (20) rfl hi1 d_Md_inState_8 ?_
  refine lv_topi (fun v5_2 ev => ?_)
  have h := nk_r ev h
  refine lv_istore (lv' := [(5, .int v5_2), (4, .int (0 : Int32)), (0, .ref (ad 0)), (1, .int a1), (2, .int a2), (3, .int a3)]) hx hb d_Md_inState_9 hl (by decide) rfl (fun ls hl => ?_)
  refine wl_Md_inState_11 fx hr hlocks hk hA hz F a1 a2 a3 (fun v4_10 v5_11 u12 H locs ls h hl hw => ?_) _ (0 : Int32) v5_2 u _ _ _ h (lv_sub hl [2, 3, 4, 5, 1, 0] rfl) hw
  refine lv_iload hx hb d_Md_inState_69 (lv_at hl 4 rfl) ?_
  exact ly_reti fx hr hlocks hk hw (Option.some.inj h) d_Md_inState_71
set_option maxRecDepth 100000 in
set_option maxHeartbeats 4000000 in
theorem wl_Md_end_7 {p : Program} {l : Launch} {e : Env} {s : State} {m : MethodId} {args : Array Value} {below : List Frame} {meth : Method} {c : Code} {D : va_G} {ad : Nat → Nat} {cA : Nat → ClassId} {A : Nat → Prop} (fx : CallFix p m c b_Md_end 6 s args w_Md_end y_Md_end.cls) (hr : meth.sig.returnType = none) (hlocks : meth.locks = false) (hk : ly_K D clA layM cA s) (hA : ∀ q, s.heap.size ≤ q → A q) (hz : ZsM A s s.heap) (F : Nat) (v1 : Int32) {k7 : Int32 → St → Option (Int32 × St)} {res : Int32 × St}
    (hX7 : ∀ (v2 : Int32) (u : St) (H : Heap) (locs : List Loc) (ls : Array Slot), k7 v2 u = some res → lv_has ls 6 [(0, .ref (ad 0)), (1, .int v1), (2, .int v2)] → ly_G D clA layM ad cA A s.heap u H locs → W p l e { frames := 1, cells := 0, slots := 0, locals := 22 } s m args below meth c H locs 0 0 (MQ below (va_Qv (fun u1 => ((0 : Int32), u1) = res) (ly_B D clA layM ad cA A) A) args s 0 0 A) (F0 m 49 ls [])) :
    ∀ (n : Nat) (v2 : Int32) (u : St) (H : Heap) (locs : List Loc) (ls : Array Slot), lp_Md_end_7 F v1 k7 n v2 u = some res → lv_has ls 6 [(0, .ref (ad 0)), (1, .int v1), (2, .int v2)] → ly_G D clA layM ad cA A s.heap u H locs → W p l e { frames := 1, cells := 0, slots := 0, locals := 22 } s m args below meth c H locs 0 0 (MQ below (va_Qv (fun u1 => ((0 : Int32), u1) = res) (ly_B D clA layM ad cA A) A) args s 0 0 A) (F0 m 7 ls []) := by
  have hx := fx.1
  have hb := fx.2.1
  intro n
  induction n with
  | zero => intro v2 u H locs ls h; exact nomatch h
  | succ n ih =>
    intro v2 u H locs ls h hl hw
    rw [lp_Md_end_7] at h
    refine lv_iload_n hx hb d_Md_end_7 rfl (lv_at hl 2 rfl) ?_
    refine lv_bipush (v := 6) hx hb d_Md_end_8 (by decide) ?_
    refine lv_icmp_ge (tgt := 49) hx hb d_Md_end_10 (by decide) (fun hc => ?_) (fun hc => ?_)
    · have h := it_t hc h
      exact hX7 v2 u _ _ _ h (lv_sub hl [0, 1, 2] rfl) hw
    · have h := it_f hc h
      refine lv_aload_n hx hb d_Md_end_13 rfl (lv_at hl 0 rfl) ?_
      refine ly_getr fx hk hw (0) rfl rfl i_Model 7 (by decide) rfl rfl (List.mem_cons_of_mem _ a_474) d_Md_end_14 ?_
      refine lv_iload_n hx hb d_Md_end_17 rfl (lv_at hl 1 rfl) ?_
      obtain ⟨hi4, h⟩ := it_in h
      refine ly_iald fx hk hw (8) rfl hi4 d_Md_end_18 ?_
      refine lv_bipush (v := 8) hx hb d_Md_end_19 (by decide) ?_
      refine lv_iload_n hx hb d_Md_end_21 rfl (lv_at hl 2 rfl) ?_
      refine lv_iadd hx hb d_Md_end_22 ?_
      refine lv_ishr hx hb d_Md_end_23 ?_
      refine lv_iconst (v := 1) hx hb d_Md_end_24 (by decide) ?_
      refine lv_iand hx hb d_Md_end_25 ?_
      refine lv_iconst (v := 1) hx hb d_Md_end_26 (by decide) ?_
      refine lv_icmp_ne (tgt := 43) hx hb d_Md_end_27 (by decide) (fun hc => ?_) (fun hc => ?_)
      · have h := it_f hc h
        refine lv_iinc (lv' := [(2, .int (v2 + (1 : Int32))), (0, .ref (ad 0)), (1, .int v1)]) (k := 2) hx hb d_Md_end_43 hl rfl (oi_p1 _) (by decide) rfl (fun ls hl => ?_)
        refine lv_goto (tgt := 7) hx hb d_Md_end_46 (by decide) ?_
        exact ih (v2 + (1 : Int32)) u _ _ _ h (lv_sub hl [1, 2, 0] rfl) hw
      · have h := it_t hc h
        refine lv_aload_n hx hb d_Md_end_30 rfl (lv_at hl 0 rfl) ?_
        refine lv_iload_n hx hb d_Md_end_31 rfl (lv_at hl 2 rfl) ?_
        obtain ⟨r5, u6, hq7, h⟩ := ck_r h
        refine ly_callVi (As := [.int v2]) (rest := []) ZsM_ok fx hk hz hA hw (c_Md_runs l v2 u _ hq7) (cw_V fx.2.2.2.2 a_616 a_618 as_25 a_6 ac_Md_runs rfl rfl rfl hd_Md_runs ⟨Nat.le_of_ble_eq_true rfl, Nat.le_of_ble_eq_true rfl⟩) (0) rfl rfl rfl rfl hl.1 rfl (Nat.le_of_ble_eq_true rfl) d_Md_end_32 (Nat.zero_le _) (Nat.zero_le _) (fun r' u' H locs hp hw => ?_)
        cases hp
        refine lv_if_eq (tgt := 43) hx hb d_Md_end_35 (by decide) (fun hc => ?_) (fun hc => ?_)
        · have h := it_t hc h
          refine lv_iinc (lv' := [(2, .int (v2 + (1 : Int32))), (0, .ref (ad 0)), (1, .int v1)]) (k := 2) hx hb d_Md_end_43 hl rfl (oi_p1 _) (by decide) rfl (fun ls hl => ?_)
          refine lv_goto (tgt := 7) hx hb d_Md_end_46 (by decide) ?_
          exact ih (v2 + (1 : Int32)) u6 _ _ _ h (lv_sub hl [1, 2, 0] rfl) hw
        · have h := it_f hc h
          refine lv_aload_n hx hb d_Md_end_38 rfl (lv_at hl 0 rfl) ?_
          refine lv_iload_n hx hb d_Md_end_39 rfl (lv_at hl 2 rfl) ?_
          obtain ⟨r8, u9, hq10, h⟩ := ck_r h
          refine ly_callVv (As := [.int v2]) (rest := []) ZsM_ok fx hk hz hA hw (c_Md_stop l F v2 u6 _ hq10) (cw_V fx.2.2.2.2 a_620 a_622 as_26 a_6 ac_Md_stop rfl rfl rfl hd_Md_stop ⟨Nat.le_of_ble_eq_true rfl, Nat.le_of_ble_eq_true rfl⟩) (0) rfl rfl rfl rfl hl.1 rfl (Nat.le_of_ble_eq_true rfl) d_Md_end_40 (Nat.zero_le _) (Nat.zero_le _) (fun u' H locs hp hw => ?_)
          cases hp
          refine lv_iinc (lv' := [(2, .int (v2 + (1 : Int32))), (0, .ref (ad 0)), (1, .int v1)]) (k := 2) hx hb d_Md_end_43 hl rfl (oi_p1 _) (by decide) rfl (fun ls hl => ?_)
          refine lv_goto (tgt := 7) hx hb d_Md_end_46 (by decide) ?_
          exact ih (v2 + (1 : Int32)) u9 _ _ _ h (lv_sub hl [1, 2, 0] rfl) hw
set_option maxRecDepth 100000 in
set_option maxHeartbeats 4000000 in
theorem wl_Md_end_74 {p : Program} {l : Launch} {e : Env} {s : State} {m : MethodId} {args : Array Value} {below : List Frame} {meth : Method} {c : Code} {D : va_G} {ad : Nat → Nat} {cA : Nat → ClassId} {A : Nat → Prop} (fx : CallFix p m c b_Md_end 6 s args w_Md_end y_Md_end.cls) (hr : meth.sig.returnType = none) (hlocks : meth.locks = false) (hk : ly_K D clA layM cA s) (hA : ∀ q, s.heap.size ≤ q → A q) (hz : ZsM A s s.heap) (F : Nat) (v1 : Int32) {k74 : Int32 → Int32 → St → Option (Int32 × St)} {res : Int32 × St}
    (hX74 : ∀ (v2 : Int32) (v3 : Int32) (u : St) (H : Heap) (locs : List Loc) (ls : Array Slot), k74 v2 v3 u = some res → lv_has ls 6 [(0, .ref (ad 0)), (1, .int v1), (2, .int v2), (3, .int v3)] → ly_G D clA layM ad cA A s.heap u H locs → W p l e { frames := 1, cells := 0, slots := 0, locals := 22 } s m args below meth c H locs 0 0 (MQ below (va_Qv (fun u1 => ((0 : Int32), u1) = res) (ly_B D clA layM ad cA A) A) args s 0 0 A) (F0 m 172 ls [])) :
    ∀ (n : Nat) (v2 : Int32) (v3 : Int32) (u : St) (H : Heap) (locs : List Loc) (ls : Array Slot), lp_Md_end_74 F v1 k74 n v2 v3 u = some res → lv_has ls 6 [(0, .ref (ad 0)), (1, .int v1), (2, .int v2), (3, .int v3)] → ly_G D clA layM ad cA A s.heap u H locs → W p l e { frames := 1, cells := 0, slots := 0, locals := 22 } s m args below meth c H locs 0 0 (MQ below (va_Qv (fun u1 => ((0 : Int32), u1) = res) (ly_B D clA layM ad cA A) A) args s 0 0 A) (F0 m 74 ls []) := by
  have hx := fx.1
  have hb := fx.2.1
  intro n
  induction n with
  | zero => intro v2 v3 u H locs ls h; exact nomatch h
  | succ n ih =>
    intro v2 v3 u H locs ls h hl hw
    rw [lp_Md_end_74] at h
    refine lv_iload_n hx hb d_Md_end_74 rfl (lv_at hl 3 rfl) ?_
    refine lv_bipush (v := 8) hx hb d_Md_end_75 (by decide) ?_
    refine lv_icmp_ge (tgt := 172) hx hb d_Md_end_77 (by decide) (fun hc => ?_) (fun hc => ?_)
    · have h := it_t hc h
      exact hX74 v2 v3 u _ _ _ h (lv_sub hl [0, 1, 2, 3] rfl) hw
    · have h := it_f hc h
      refine lv_aload_n hx hb d_Md_end_80 rfl (lv_at hl 0 rfl) ?_
      refine ly_getr fx hk hw (0) rfl rfl i_Model 18 (by decide) rfl rfl (List.mem_cons_of_mem _ a_485) d_Md_end_81 ?_
      refine lv_aload_n hx hb d_Md_end_84 rfl (lv_at hl 0 rfl) ?_
      refine ly_getr fx hk hw (0) rfl rfl i_Model 8 (by decide) rfl rfl (List.mem_cons_of_mem _ a_475) d_Md_end_85 ?_
      refine lv_bipush (v := 8) hx hb d_Md_end_88 (by decide) ?_
      refine lv_iload_n hx hb d_Md_end_90 rfl (lv_at hl 1 rfl) ?_
      refine lv_imul hx hb d_Md_end_91 ?_
      refine lv_iload_n hx hb d_Md_end_92 rfl (lv_at hl 3 rfl) ?_
      refine lv_iadd hx hb d_Md_end_93 ?_
      obtain ⟨hi15, h⟩ := it_in h
      refine ly_iald fx hk hw (9) rfl hi15 d_Md_end_94 ?_
      obtain ⟨hi16, h⟩ := it_in h
      refine ly_iald fx hk hw (16) rfl hi16 d_Md_end_95 ?_
      refine lv_topi (fun v4_17 ev => ?_)
      have h := nk_r ev h
      refine lv_istore (lv' := [(4, .int v4_17), (0, .ref (ad 0)), (1, .int v1), (2, .int v2), (3, .int v3)]) hx hb d_Md_end_96 hl (by decide) rfl (fun ls hl => ?_)
      refine lv_aload_n hx hb d_Md_end_98 rfl (lv_at hl 1 rfl) ?_
      refine ly_getr fx hk hw (0) rfl rfl i_Model 4 (by decide) rfl rfl (List.mem_cons_of_mem _ a_471) d_Md_end_99 ?_
      refine lv_iload_n hx hb d_Md_end_102 rfl (lv_at hl 2 rfl) ?_
      obtain ⟨hi18, h⟩ := it_in h
      refine ly_iald fx hk hw (5) rfl hi18 d_Md_end_103 ?_
      refine lv_iload_n hx hb d_Md_end_104 rfl (lv_at hl 4 rfl) ?_
      refine lv_ishr hx hb d_Md_end_105 ?_
      refine lv_iconst (v := 1) hx hb d_Md_end_106 (by decide) ?_
      refine lv_iand hx hb d_Md_end_107 ?_
      refine lv_iconst (v := 1) hx hb d_Md_end_108 (by decide) ?_
      refine lv_icmp_ne (tgt := 148) hx hb d_Md_end_109 (by decide) (fun hc => ?_) (fun hc => ?_)
      · have h := it_f hc h
        refine lv_iconst (v := 0) hx hb d_Md_end_148 (by decide) ?_
        refine lv_istore (lv' := [(5, .int (0 : Int32)), (4, .int v4_17), (0, .ref (ad 0)), (1, .int v1), (2, .int v2), (3, .int v3)]) hx hb d_Md_end_149 hl (by decide) rfl (fun ls hl => ?_)
        refine lv_iload_n hx hb d_Md_end_151 rfl (lv_at hl 4 rfl) ?_
        refine lv_iload hx hb d_Md_end_152 (lv_at hl 0 rfl) ?_
        refine lv_if_eq (tgt := 163) hx hb d_Md_end_154 (by decide) (fun _ => ?_) (fun hc => absurd hc (by decide))
        refine lv_iconst (v := 0) hx hb d_Md_end_163 (by decide) ?_
        refine lv_ior hx hb d_Md_end_164 ?_
        refine lv_topi (fun v2_19 ev => ?_)
        have h := nk_r ev h
        refine lv_istore_n (lv' := [(2, .int v2_19), (5, .int (0 : Int32)), (4, .int v4_17), (0, .ref (ad 0)), (1, .int v1), (3, .int v3)]) hx hb d_Md_end_165 rfl hl (by decide) rfl (fun ls hl => ?_)
        refine lv_iinc (lv' := [(3, .int (v3 + (1 : Int32))), (2, .int v2_19), (5, .int (0 : Int32)), (4, .int v4_17), (0, .ref (ad 0)), (1, .int v1)]) (k := 5) hx hb d_Md_end_166 hl rfl (oi_p1 _) (by decide) rfl (fun ls hl => ?_)
        refine lv_goto (tgt := 74) hx hb d_Md_end_169 (by decide) ?_
        exact ih v2_19 (v3 + (1 : Int32)) u _ _ _ h (lv_sub hl [4, 5, 1, 0] rfl) hw
      · have h := it_t hc h
        refine lv_iload hx hb d_Md_end_112 (lv_at hl 0 rfl) ?_
        refine lv_aload_n hx hb d_Md_end_114 rfl (lv_at hl 1 rfl) ?_
        refine ly_getr fx hk hw (0) rfl rfl i_Model 9 (by decide) rfl rfl (List.mem_cons_of_mem _ a_476) d_Md_end_115 ?_
        refine lv_bipush (v := 8) hx hb d_Md_end_118 (by decide) ?_
        refine lv_iload_n hx hb d_Md_end_120 rfl (lv_at hl 2 rfl) ?_
        refine lv_imul hx hb d_Md_end_121 ?_
        refine lv_iload_n hx hb d_Md_end_122 rfl (lv_at hl 4 rfl) ?_
        refine lv_iadd hx hb d_Md_end_123 ?_
        obtain ⟨hi20, h⟩ := it_in h
        refine ly_iald fx hk hw (10) rfl hi20 d_Md_end_124 ?_
        refine lv_icmp_lt (tgt := 148) hx hb d_Md_end_125 (by decide) (fun hc => ?_) (fun hc => ?_)
        · have h := it_t hc h
          refine lv_iconst (v := 0) hx hb d_Md_end_148 (by decide) ?_
          refine lv_istore (lv' := [(5, .int (0 : Int32)), (4, .int v4_17), (0, .ref (ad 0)), (1, .int v1), (2, .int v2), (3, .int v3)]) hx hb d_Md_end_149 hl (by decide) rfl (fun ls hl => ?_)
          refine lv_iload_n hx hb d_Md_end_151 rfl (lv_at hl 4 rfl) ?_
          refine lv_iload hx hb d_Md_end_152 (lv_at hl 0 rfl) ?_
          refine lv_if_eq (tgt := 163) hx hb d_Md_end_154 (by decide) (fun _ => ?_) (fun hc => absurd hc (by decide))
          refine lv_iconst (v := 0) hx hb d_Md_end_163 (by decide) ?_
          refine lv_ior hx hb d_Md_end_164 ?_
          refine lv_topi (fun v2_21 ev => ?_)
          have h := nk_r ev h
          refine lv_istore_n (lv' := [(2, .int v2_21), (5, .int (0 : Int32)), (4, .int v4_17), (0, .ref (ad 0)), (1, .int v1), (3, .int v3)]) hx hb d_Md_end_165 rfl hl (by decide) rfl (fun ls hl => ?_)
          refine lv_iinc (lv' := [(3, .int (v3 + (1 : Int32))), (2, .int v2_21), (5, .int (0 : Int32)), (4, .int v4_17), (0, .ref (ad 0)), (1, .int v1)]) (k := 5) hx hb d_Md_end_166 hl rfl (oi_p1 _) (by decide) rfl (fun ls hl => ?_)
          refine lv_goto (tgt := 74) hx hb d_Md_end_169 (by decide) ?_
          exact ih v2_21 (v3 + (1 : Int32)) u _ _ _ h (lv_sub hl [4, 5, 1, 0] rfl) hw
        · have h := it_f hc h
          refine lv_iload hx hb d_Md_end_128 (lv_at hl 0 rfl) ?_
          refine lv_aload_n hx hb d_Md_end_130 rfl (lv_at hl 1 rfl) ?_
          refine ly_getr fx hk hw (0) rfl rfl i_Model 10 (by decide) rfl rfl (List.mem_cons_of_mem _ a_477) d_Md_end_131 ?_
          refine lv_bipush (v := 8) hx hb d_Md_end_134 (by decide) ?_
          refine lv_iload_n hx hb d_Md_end_136 rfl (lv_at hl 2 rfl) ?_
          refine lv_imul hx hb d_Md_end_137 ?_
          refine lv_iload_n hx hb d_Md_end_138 rfl (lv_at hl 4 rfl) ?_
          refine lv_iadd hx hb d_Md_end_139 ?_
          obtain ⟨hi22, h⟩ := it_in h
          refine ly_iald fx hk hw (11) rfl hi22 d_Md_end_140 ?_
          refine lv_icmp_gt (tgt := 148) hx hb d_Md_end_141 (by decide) (fun hc => ?_) (fun hc => ?_)
          · have h := it_t hc h
            refine lv_iconst (v := 0) hx hb d_Md_end_148 (by decide) ?_
            refine lv_istore (lv' := [(5, .int (0 : Int32)), (4, .int v4_17), (0, .ref (ad 0)), (1, .int v1), (2, .int v2), (3, .int v3)]) hx hb d_Md_end_149 hl (by decide) rfl (fun ls hl => ?_)
            refine lv_iload_n hx hb d_Md_end_151 rfl (lv_at hl 4 rfl) ?_
            refine lv_iload hx hb d_Md_end_152 (lv_at hl 0 rfl) ?_
            refine lv_if_eq (tgt := 163) hx hb d_Md_end_154 (by decide) (fun _ => ?_) (fun hc => absurd hc (by decide))
            refine lv_iconst (v := 0) hx hb d_Md_end_163 (by decide) ?_
            refine lv_ior hx hb d_Md_end_164 ?_
            refine lv_topi (fun v2_23 ev => ?_)
            have h := nk_r ev h
            refine lv_istore_n (lv' := [(2, .int v2_23), (5, .int (0 : Int32)), (4, .int v4_17), (0, .ref (ad 0)), (1, .int v1), (3, .int v3)]) hx hb d_Md_end_165 rfl hl (by decide) rfl (fun ls hl => ?_)
            refine lv_iinc (lv' := [(3, .int (v3 + (1 : Int32))), (2, .int v2_23), (5, .int (0 : Int32)), (4, .int v4_17), (0, .ref (ad 0)), (1, .int v1)]) (k := 5) hx hb d_Md_end_166 hl rfl (oi_p1 _) (by decide) rfl (fun ls hl => ?_)
            refine lv_goto (tgt := 74) hx hb d_Md_end_169 (by decide) ?_
            exact ih v2_23 (v3 + (1 : Int32)) u _ _ _ h (lv_sub hl [4, 5, 1, 0] rfl) hw
          · have h := it_f hc h
            refine lv_iconst (v := 1) hx hb d_Md_end_144 (by decide) ?_
            refine lv_goto (tgt := 149) hx hb d_Md_end_145 (by decide) ?_
            refine lv_istore (lv' := [(5, .int (1 : Int32)), (4, .int v4_17), (0, .ref (ad 0)), (1, .int v1), (2, .int v2), (3, .int v3)]) hx hb d_Md_end_149 hl (by decide) rfl (fun ls hl => ?_)
            refine lv_iload_n hx hb d_Md_end_151 rfl (lv_at hl 4 rfl) ?_
            refine lv_iload hx hb d_Md_end_152 (lv_at hl 0 rfl) ?_
            refine lv_if_eq (tgt := 163) hx hb d_Md_end_154 (by decide) (fun hc => absurd hc (by decide)) (fun _ => ?_)
            refine lv_iconst (v := 1) hx hb d_Md_end_157 (by decide) ?_
            refine lv_iload_n hx hb d_Md_end_158 rfl (lv_at hl 5 rfl) ?_
            refine lv_ishl hx hb d_Md_end_159 ?_
            refine lv_goto (tgt := 164) hx hb d_Md_end_160 (by decide) ?_
            refine lv_ior hx hb d_Md_end_164 ?_
            refine lv_topi (fun v2_24 ev => ?_)
            have h := nk_r ev h
            refine lv_istore_n (lv' := [(2, .int v2_24), (5, .int (1 : Int32)), (4, .int v4_17), (0, .ref (ad 0)), (1, .int v1), (3, .int v3)]) hx hb d_Md_end_165 rfl hl (by decide) rfl (fun ls hl => ?_)
            refine lv_iinc (lv' := [(3, .int (v3 + (1 : Int32))), (2, .int v2_24), (5, .int (1 : Int32)), (4, .int v4_17), (0, .ref (ad 0)), (1, .int v1)]) (k := 5) hx hb d_Md_end_166 hl rfl (oi_p1 _) (by decide) rfl (fun ls hl => ?_)
            refine lv_goto (tgt := 74) hx hb d_Md_end_169 (by decide) ?_
            exact ih v2_24 (v3 + (1 : Int32)) u _ _ _ h (lv_sub hl [4, 5, 1, 0] rfl) hw
set_option maxRecDepth 100000 in
set_option maxHeartbeats 4000000 in
theorem wl_Md_end_177 {p : Program} {l : Launch} {e : Env} {s : State} {m : MethodId} {args : Array Value} {below : List Frame} {meth : Method} {c : Code} {D : va_G} {ad : Nat → Nat} {cA : Nat → ClassId} {A : Nat → Prop} (fx : CallFix p m c b_Md_end 6 s args w_Md_end y_Md_end.cls) (hr : meth.sig.returnType = none) (hlocks : meth.locks = false) (hk : ly_K D clA layM cA s) (hA : ∀ q, s.heap.size ≤ q → A q) (hz : ZsM A s s.heap) (F : Nat) (v1 : Int32) (v2 : Int32) {k177 : Int32 → Int32 → St → Option (Int32 × St)} {res : Int32 × St}
    (hX177 : ∀ (v3 : Int32) (v4 : Int32) (u : St) (H : Heap) (locs : List Loc) (ls : Array Slot), k177 v3 v4 u = some res → lv_has ls 6 [(0, .ref (ad 0)), (1, .int v1), (2, .int v2), (3, .int v3), (4, .int v4)] → ly_G D clA layM ad cA A s.heap u H locs → W p l e { frames := 1, cells := 0, slots := 0, locals := 22 } s m args below meth c H locs 0 0 (MQ below (va_Qv (fun u1 => ((0 : Int32), u1) = res) (ly_B D clA layM ad cA A) A) args s 0 0 A) (F0 m 219 ls [])) :
    ∀ (n : Nat) (v3 : Int32) (v4 : Int32) (u : St) (H : Heap) (locs : List Loc) (ls : Array Slot), lp_Md_end_177 F v1 v2 k177 n v3 v4 u = some res → lv_has ls 6 [(0, .ref (ad 0)), (1, .int v1), (2, .int v2), (3, .int v3), (4, .int v4)] → ly_G D clA layM ad cA A s.heap u H locs → W p l e { frames := 1, cells := 0, slots := 0, locals := 22 } s m args below meth c H locs 0 0 (MQ below (va_Qv (fun u1 => ((0 : Int32), u1) = res) (ly_B D clA layM ad cA A) A) args s 0 0 A) (F0 m 177 ls []) := by
  have hx := fx.1
  have hb := fx.2.1
  intro n
  induction n with
  | zero => intro v3 v4 u H locs ls h; exact nomatch h
  | succ n ih =>
    intro v3 v4 u H locs ls h hl hw
    rw [lp_Md_end_177] at h
    refine lv_iload hx hb d_Md_end_177 (lv_at hl 4 rfl) ?_
    refine lv_iconst (v := 3) hx hb d_Md_end_179 (by decide) ?_
    refine lv_icmp_ge (tgt := 219) hx hb d_Md_end_180 (by decide) (fun hc => ?_) (fun hc => ?_)
    · have h := it_t hc h
      exact hX177 v3 v4 u _ _ _ h (lv_sub hl [0, 1, 2, 3, 4] rfl) hw
    · have h := it_f hc h
      refine lv_aload_n hx hb d_Md_end_183 rfl (lv_at hl 0 rfl) ?_
      refine ly_getr fx hk hw (0) rfl rfl i_Model 6 (by decide) rfl rfl (List.mem_cons_of_mem _ a_473) d_Md_end_184 ?_
      refine lv_iconst (v := 3) hx hb d_Md_end_187 (by decide) ?_
      refine lv_iload_n hx hb d_Md_end_188 rfl (lv_at hl 1 rfl) ?_
      refine lv_imul hx hb d_Md_end_189 ?_
      refine lv_iload hx hb d_Md_end_190 (lv_at hl 4 rfl) ?_
      refine lv_iadd hx hb d_Md_end_192 ?_
      obtain ⟨hi28, h⟩ := it_in h
      refine ly_iald fx hk hw (7) rfl hi28 d_Md_end_193 ?_
      refine lv_if_eq (tgt := 211) hx hb d_Md_end_194 (by decide) (fun hc => ?_) (fun hc => ?_)
      · have h := it_t hc h
        refine lv_iload_n hx hb d_Md_end_211 rfl (lv_at hl 3 rfl) ?_
        refine lv_istore_n (lv' := [(3, .int v3), (0, .ref (ad 0)), (1, .int v1), (2, .int v2), (4, .int v4)]) hx hb d_Md_end_212 rfl hl (by decide) rfl (fun ls hl => ?_)
        refine lv_iinc (lv' := [(4, .int (v4 + (1 : Int32))), (3, .int v3), (0, .ref (ad 0)), (1, .int v1), (2, .int v2)]) (k := 4) hx hb d_Md_end_213 hl rfl (oi_p1 _) (by decide) rfl (fun ls hl => ?_)
        refine lv_goto (tgt := 177) hx hb d_Md_end_216 (by decide) ?_
        exact ih v3 (v4 + (1 : Int32)) u _ _ _ h (lv_sub hl [2, 3, 4, 1, 0] rfl) hw
      · have h := it_f hc h
        refine lv_aload_n hx hb d_Md_end_197 rfl (lv_at hl 0 rfl) ?_
        refine ly_getr fx hk hw (0) rfl rfl i_Model 6 (by decide) rfl rfl (List.mem_cons_of_mem _ a_473) d_Md_end_198 ?_
        refine lv_iconst (v := 3) hx hb d_Md_end_201 (by decide) ?_
        refine lv_iload_n hx hb d_Md_end_202 rfl (lv_at hl 1 rfl) ?_
        refine lv_imul hx hb d_Md_end_203 ?_
        refine lv_iload hx hb d_Md_end_204 (lv_at hl 4 rfl) ?_
        refine lv_iadd hx hb d_Md_end_206 ?_
        obtain ⟨hi29, h⟩ := it_in h
        refine ly_iald fx hk hw (7) rfl hi29 d_Md_end_207 ?_
        refine lv_goto (tgt := 212) hx hb d_Md_end_208 (by decide) ?_
        refine lv_topi (fun v3_30 ev => ?_)
        have h := nk_r ev h
        refine lv_istore_n (lv' := [(3, .int v3_30), (0, .ref (ad 0)), (1, .int v1), (2, .int v2), (4, .int v4)]) hx hb d_Md_end_212 rfl hl (by decide) rfl (fun ls hl => ?_)
        refine lv_iinc (lv' := [(4, .int (v4 + (1 : Int32))), (3, .int v3_30), (0, .ref (ad 0)), (1, .int v1), (2, .int v2)]) (k := 4) hx hb d_Md_end_213 hl rfl (oi_p1 _) (by decide) rfl (fun ls hl => ?_)
        refine lv_goto (tgt := 177) hx hb d_Md_end_216 (by decide) ?_
        exact ih v3_30 (v4 + (1 : Int32)) u _ _ _ h (lv_sub hl [2, 3, 4, 1, 0] rfl) hw
set_option maxRecDepth 100000 in
set_option maxHeartbeats 4000000 in
theorem c_Md_end (l : Launch) (F : Nat) (a1 : Int32) (u : St) (res : Int32 × St) (h : sp_Md_end F a1 u = some res) : ly_Mv ZsM clA layM l y_Md_end w_Md_end { frames := 1, cells := 0, slots := 0, locals := 22 } (fun ad => [.ref (ad 0), .int a1]) u (fun u1 => ((0 : Int32), u1) = res) := by
  refine ly_entv (cc := b_Md_end) (maxL := 6) (ret := none) (by decide) rfl (fun ad => Nat.le_of_ble_eq_true rfl) ?_
  intro p e s m below meth c D ad cA A ls fx hr hlocks hk hA hz hw hl
  have hl : lv_has ls 6 [(0, .ref (ad 0)), (1, .int a1)] := hl
  have hx := fx.1
  have hb := fx.2.1
  unfold sp_Md_end at h
  refine lv_aload_n hx hb d_Md_end_0 rfl (lv_at hl 0 rfl) ?_
  refine lv_iload_n hx hb d_Md_end_1 rfl (lv_at hl 1 rfl) ?_
  obtain ⟨r1, u2, hq3, h⟩ := ck_r h
  refine ly_callVv (As := [.int a1]) (rest := []) ZsM_ok fx hk hz hA hw (c_Md_stop l F a1 u _ hq3) (cw_V fx.2.2.2.2 a_620 a_622 as_26 a_6 ac_Md_stop rfl rfl rfl hd_Md_stop ⟨Nat.le_of_ble_eq_true rfl, Nat.le_of_ble_eq_true rfl⟩) (0) rfl rfl rfl rfl hl.1 rfl (Nat.le_of_ble_eq_true rfl) d_Md_end_2 (Nat.zero_le _) (Nat.zero_le _) (fun u' H locs hp hw => ?_)
  cases hp
  refine lv_iconst (v := 0) hx hb d_Md_end_5 (by decide) ?_
  refine lv_istore_n (lv' := [(2, .int (0 : Int32)), (0, .ref (ad 0)), (1, .int a1)]) hx hb d_Md_end_6 rfl hl (by decide) rfl (fun ls hl => ?_)
  refine wl_Md_end_7 fx hr hlocks hk hA hz F a1 (fun v2_11 u12 H locs ls h hl hw => ?_) _ (0 : Int32) u2 _ _ _ h (lv_sub hl [1, 2, 0] rfl) hw
  refine lv_aload_n hx hb d_Md_end_49 rfl (lv_at hl 0 rfl) ?_
  refine lv_dup hx hb d_Md_end_50 rfl ?_
  refine ly_get fx hk hw (0) rfl rfl i_Model 16 (by decide) rfl rfl (List.mem_cons_of_mem _ a_483) d_Md_end_51 ?_
  refine lv_aload_n hx hb d_Md_end_54 rfl (lv_at hl 0 rfl) ?_
  refine ly_getr fx hk hw (0) rfl rfl i_Model 7 (by decide) rfl rfl (List.mem_cons_of_mem _ a_474) d_Md_end_55 ?_
  refine lv_iload_n hx hb d_Md_end_58 rfl (lv_at hl 1 rfl) ?_
  obtain ⟨hi13, h⟩ := it_in h
  refine ly_iald fx hk hw (8) rfl hi13 d_Md_end_59 ?_
  refine lv_sipush (v := 255) hx hb d_Md_end_60 (by decide) ?_
  refine lv_iand hx hb d_Md_end_63 ?_
  refine lv_iconst (v := -1) hx hb d_Md_end_64 (by decide) ?_
  refine lv_ixor hx hb d_Md_end_65 ?_
  refine lv_iand hx hb d_Md_end_66 ?_
  refine ly_put (v := ((u12.1 (0) 16) &&& (((u12.1 (8) a1.toNatClampNeg) &&& (255 : Int32)) ^^^ (-1 : Int32)))) fx hk hw (0) rfl rfl i_Model t_Model t_Model_ok n_Model 16 (by decide) rfl rfl rfl (List.mem_cons_of_mem _ a_483) rfl rfl d_Md_end_67 (fun H locs hw => ?_)
  obtain ⟨u14, ev⟩ : ∃ z, z = ly_pi u12 (0) 16 ((u12.1 (0) 16) &&& (((u12.1 (8) a1.toNatClampNeg) &&& (255 : Int32)) ^^^ (-1 : Int32))) := ⟨_, rfl⟩
  rw [← ev] at hw
  have h := nk_r ev h
  refine lv_iconst (v := 0) hx hb d_Md_end_70 (by decide) ?_
  refine lv_istore_n (lv' := [(2, .int (0 : Int32)), (0, .ref (ad 0)), (1, .int a1)]) hx hb d_Md_end_71 rfl hl (by decide) rfl (fun ls hl => ?_)
  refine lv_iconst (v := 0) hx hb d_Md_end_72 (by decide) ?_
  refine lv_istore_n (lv' := [(3, .int (0 : Int32)), (2, .int (0 : Int32)), (0, .ref (ad 0)), (1, .int a1)]) hx hb d_Md_end_73 rfl hl (by decide) rfl (fun ls hl => ?_)
  refine wl_Md_end_74 fx hr hlocks hk hA hz F a1 (fun v2_25 v3_26 u27 H locs ls h hl hw => ?_) _ (0 : Int32) (0 : Int32) u14 _ _ _ h (lv_sub hl [2, 3, 1, 0] rfl) hw
  refine lv_iconst (v := 0) hx hb d_Md_end_172 (by decide) ?_
  refine lv_istore_n (lv' := [(3, .int (0 : Int32)), (0, .ref (ad 0)), (1, .int a1), (2, .int v2_25)]) hx hb d_Md_end_173 rfl hl (by decide) rfl (fun ls hl => ?_)
  refine lv_iconst (v := 0) hx hb d_Md_end_174 (by decide) ?_
  refine lv_istore (lv' := [(4, .int (0 : Int32)), (3, .int (0 : Int32)), (0, .ref (ad 0)), (1, .int a1), (2, .int v2_25)]) hx hb d_Md_end_175 hl (by decide) rfl (fun ls hl => ?_)
  refine wl_Md_end_177 fx hr hlocks hk hA hz F a1 v2_25 (fun v3_31 v4_32 u33 H locs ls h hl hw => ?_) _ (0 : Int32) (0 : Int32) u27 _ _ _ h (lv_sub hl [2, 3, 4, 1, 0] rfl) hw
  refine lv_aload_n hx hb d_Md_end_219 rfl (lv_at hl 0 rfl) ?_
  refine ly_getr fx hk hw (0) rfl rfl i_Model 2 (by decide) rfl rfl (List.mem_cons_of_mem _ a_469) d_Md_end_220 ?_
  refine lv_iload_n hx hb d_Md_end_223 rfl (lv_at hl 1 rfl) ?_
  obtain ⟨hi34, h⟩ := it_in h
  refine ly_iald fx hk hw (3) rfl hi34 d_Md_end_224 ?_
  refine lv_if_ne (tgt := 237) hx hb d_Md_end_225 (by decide) (fun hc => ?_) (fun hc => ?_)
  · have h := it_f hc h
    refine lv_iload_n hx hb d_Md_end_237 rfl (lv_at hl 2 rfl) ?_
    refine lv_if_ne (tgt := 245) hx hb d_Md_end_238 (by decide) (fun hc => ?_) (fun hc => ?_)
    · have h := it_f hc h
      refine lv_aload_n hx hb d_Md_end_245 rfl (lv_at hl 0 rfl) ?_
      refine ly_getr fx hk hw (0) rfl rfl i_Model 2 (by decide) rfl rfl (List.mem_cons_of_mem _ a_469) d_Md_end_246 ?_
      refine lv_iload_n hx hb d_Md_end_249 rfl (lv_at hl 1 rfl) ?_
      obtain ⟨hi35, h⟩ := it_in h
      refine ly_iald fx hk hw (3) rfl hi35 d_Md_end_250 ?_
      refine lv_iconst (v := 1) hx hb d_Md_end_251 (by decide) ?_
      refine lv_icmp_ne (tgt := 262) hx hb d_Md_end_252 (by decide) (fun hc => ?_) (fun hc => ?_)
      · have h := it_f hc h
        refine lv_iload_n hx hb d_Md_end_262 rfl (lv_at hl 2 rfl) ?_
        refine lv_istore (lv' := [(4, .int v2_25), (0, .ref (ad 0)), (1, .int a1), (2, .int v2_25), (3, .int v3_31)]) hx hb d_Md_end_263 hl (by decide) rfl (fun ls hl => ?_)
        refine lv_aload_n hx hb d_Md_end_265 rfl (lv_at hl 1 rfl) ?_
        refine lv_dup hx hb d_Md_end_266 rfl ?_
        refine ly_get fx hk hw (0) rfl rfl i_Model 16 (by decide) rfl rfl (List.mem_cons_of_mem _ a_483) d_Md_end_267 ?_
        refine lv_iload hx hb d_Md_end_270 (lv_at hl 0 rfl) ?_
        refine lv_ior hx hb d_Md_end_272 ?_
        refine ly_put (v := ((u33.1 (0) 16) ||| v2_25)) fx hk hw (0) rfl rfl i_Model t_Model t_Model_ok n_Model 16 (by decide) rfl rfl rfl (List.mem_cons_of_mem _ a_483) rfl rfl d_Md_end_273 (fun H locs hw => ?_)
        obtain ⟨u36, ev⟩ : ∃ z, z = ly_pi u33 (0) 16 ((u33.1 (0) 16) ||| v2_25) := ⟨_, rfl⟩
        rw [← ev] at hw
        have h := nk_r ev h
        exact ly_retv fx hr hlocks hk hw (Option.some.inj h) d_Md_end_276
      · have h := it_t hc h
        refine lv_iload_n hx hb d_Md_end_255 rfl (lv_at hl 2 rfl) ?_
        refine lv_iload_n hx hb d_Md_end_256 rfl (lv_at hl 2 rfl) ?_
        refine lv_ineg hx hb d_Md_end_257 ?_
        refine lv_iand hx hb d_Md_end_258 ?_
        refine lv_goto (tgt := 263) hx hb d_Md_end_259 (by decide) ?_
        refine lv_topi (fun v4_37 ev => ?_)
        have h := nk_r ev h
        refine lv_istore (lv' := [(4, .int v4_37), (0, .ref (ad 0)), (1, .int a1), (2, .int v2_25), (3, .int v3_31)]) hx hb d_Md_end_263 hl (by decide) rfl (fun ls hl => ?_)
        refine lv_aload_n hx hb d_Md_end_265 rfl (lv_at hl 1 rfl) ?_
        refine lv_dup hx hb d_Md_end_266 rfl ?_
        refine ly_get fx hk hw (0) rfl rfl i_Model 16 (by decide) rfl rfl (List.mem_cons_of_mem _ a_483) d_Md_end_267 ?_
        refine lv_iload hx hb d_Md_end_270 (lv_at hl 0 rfl) ?_
        refine lv_ior hx hb d_Md_end_272 ?_
        refine ly_put (v := ((u33.1 (0) 16) ||| v4_37)) fx hk hw (0) rfl rfl i_Model t_Model t_Model_ok n_Model 16 (by decide) rfl rfl rfl (List.mem_cons_of_mem _ a_483) rfl rfl d_Md_end_273 (fun H locs hw => ?_)
        obtain ⟨u38, ev⟩ : ∃ z, z = ly_pi u33 (0) 16 ((u33.1 (0) 16) ||| v4_37) := ⟨_, rfl⟩
        rw [← ev] at hw
        have h := nk_r ev h
        exact ly_retv fx hr hlocks hk hw (Option.some.inj h) d_Md_end_276
    · have h := it_t hc h
      refine lv_iload_n hx hb d_Md_end_241 rfl (lv_at hl 3 rfl) ?_
      refine lv_goto (tgt := 263) hx hb d_Md_end_242 (by decide) ?_
      refine lv_istore (lv' := [(4, .int v3_31), (0, .ref (ad 0)), (1, .int a1), (2, .int v2_25), (3, .int v3_31)]) hx hb d_Md_end_263 hl (by decide) rfl (fun ls hl => ?_)
      refine lv_aload_n hx hb d_Md_end_265 rfl (lv_at hl 1 rfl) ?_
      refine lv_dup hx hb d_Md_end_266 rfl ?_
      refine ly_get fx hk hw (0) rfl rfl i_Model 16 (by decide) rfl rfl (List.mem_cons_of_mem _ a_483) d_Md_end_267 ?_
      refine lv_iload hx hb d_Md_end_270 (lv_at hl 0 rfl) ?_
      refine lv_ior hx hb d_Md_end_272 ?_
      refine ly_put (v := ((u33.1 (0) 16) ||| v3_31)) fx hk hw (0) rfl rfl i_Model t_Model t_Model_ok n_Model 16 (by decide) rfl rfl rfl (List.mem_cons_of_mem _ a_483) rfl rfl d_Md_end_273 (fun H locs hw => ?_)
      obtain ⟨u39, ev⟩ : ∃ z, z = ly_pi u33 (0) 16 ((u33.1 (0) 16) ||| v3_31) := ⟨_, rfl⟩
      rw [← ev] at hw
      have h := nk_r ev h
      exact ly_retv fx hr hlocks hk hw (Option.some.inj h) d_Md_end_276
  · have h := it_t hc h
    refine lv_aload_n hx hb d_Md_end_228 rfl (lv_at hl 0 rfl) ?_
    refine ly_getr fx hk hw (0) rfl rfl i_Model 4 (by decide) rfl rfl (List.mem_cons_of_mem _ a_471) d_Md_end_229 ?_
    refine lv_iload_n hx hb d_Md_end_232 rfl (lv_at hl 1 rfl) ?_
    obtain ⟨hi40, h⟩ := it_in h
    refine ly_iald fx hk hw (5) rfl hi40 d_Md_end_233 ?_
    refine lv_goto (tgt := 263) hx hb d_Md_end_234 (by decide) ?_
    refine lv_topi (fun v4_41 ev => ?_)
    have h := nk_r ev h
    refine lv_istore (lv' := [(4, .int v4_41), (0, .ref (ad 0)), (1, .int a1), (2, .int v2_25), (3, .int v3_31)]) hx hb d_Md_end_263 hl (by decide) rfl (fun ls hl => ?_)
    refine lv_aload_n hx hb d_Md_end_265 rfl (lv_at hl 1 rfl) ?_
    refine lv_dup hx hb d_Md_end_266 rfl ?_
    refine ly_get fx hk hw (0) rfl rfl i_Model 16 (by decide) rfl rfl (List.mem_cons_of_mem _ a_483) d_Md_end_267 ?_
    refine lv_iload hx hb d_Md_end_270 (lv_at hl 0 rfl) ?_
    refine lv_ior hx hb d_Md_end_272 ?_
    refine ly_put (v := ((u33.1 (0) 16) ||| v4_41)) fx hk hw (0) rfl rfl i_Model t_Model t_Model_ok n_Model 16 (by decide) rfl rfl rfl (List.mem_cons_of_mem _ a_483) rfl rfl d_Md_end_273 (fun H locs hw => ?_)
    obtain ⟨u42, ev⟩ : ∃ z, z = ly_pi u33 (0) 16 ((u33.1 (0) 16) ||| v4_41) := ⟨_, rfl⟩
    rw [← ev] at hw
    have h := nk_r ev h
    exact ly_retv fx hr hlocks hk hw (Option.some.inj h) d_Md_end_276
set_option maxRecDepth 100000 in
set_option maxHeartbeats 4000000 in
theorem c_Md_start (l : Launch) (a1 : Int32) (u : St) (res : Int32 × St) (h : sp_Md_start a1 u = some res) : ly_Mi ZsM clA layM l y_Md_start w_Md_start { frames := 1, cells := 0, slots := 0, locals := 21 } (fun ad => [.ref (ad 0), .int a1]) u (fun r1 u1 => (r1, u1) = res) := by
  refine ly_enti (cc := b_Md_start) (maxL := 2) (ret := (some .int)) (by decide) rfl (fun ad => Nat.le_of_ble_eq_true rfl) ?_
  intro p e s m below meth c D ad cA A ls fx hr hlocks hk hA hz hw hl
  have hl : lv_has ls 2 [(0, .ref (ad 0)), (1, .int a1)] := hl
  have hx := fx.1
  have hb := fx.2.1
  unfold sp_Md_start at h
  refine lv_aload_n hx hb d_Md_start_0 rfl (lv_at hl 0 rfl) ?_
  refine lv_iload_n hx hb d_Md_start_1 rfl (lv_at hl 1 rfl) ?_
  obtain ⟨r1, u2, hq3, h⟩ := ck_r h
  refine ly_callVi (As := [.int a1]) (rest := []) ZsM_ok fx hk hz hA hw (c_Md_isItem l a1 u _ hq3) (cw_V fx.2.2.2.2 a_644 a_646 as_29 a_6 ac_Md_isItem rfl rfl rfl hd_Md_isItem ⟨Nat.le_of_ble_eq_true rfl, Nat.le_of_ble_eq_true rfl⟩) (0) rfl rfl rfl rfl hl.1 rfl (Nat.le_of_ble_eq_true rfl) d_Md_start_2 (Nat.zero_le _) (Nat.zero_le _) (fun r' u' H locs hp hw => ?_)
  cases hp
  refine lv_if_ne (tgt := 10) hx hb d_Md_start_5 (by decide) (fun hc => ?_) (fun hc => ?_)
  · have h := it_f hc h
    refine lv_aload_n hx hb d_Md_start_10 rfl (lv_at hl 0 rfl) ?_
    refine ly_getr fx hk hw (0) rfl rfl i_Model 21 (by decide) rfl rfl (List.mem_cons_of_mem _ a_488) d_Md_start_11 ?_
    refine lv_iload_n hx hb d_Md_start_14 rfl (lv_at hl 1 rfl) ?_
    obtain ⟨hi4, h⟩ := it_in h
    refine ly_iald fx hk hw (18) rfl hi4 d_Md_start_15 ?_
    refine lv_iconst (v := 1) hx hb d_Md_start_16 (by decide) ?_
    refine lv_icmp_eq (tgt := 23) hx hb d_Md_start_17 (by decide) (fun hc => ?_) (fun hc => ?_)
    · have h := it_t hc h
      refine lv_aload_n hx hb d_Md_start_23 rfl (lv_at hl 0 rfl) ?_
      refine ly_getr fx hk hw (0) rfl rfl i_Model 21 (by decide) rfl rfl (List.mem_cons_of_mem _ a_488) d_Md_start_24 ?_
      refine lv_iload_n hx hb d_Md_start_27 rfl (lv_at hl 1 rfl) ?_
      refine lv_iconst (v := 2) hx hb d_Md_start_28 (by decide) ?_
      obtain ⟨hi5, h⟩ := it_in h
      refine ly_iast fx hk hw (18) rfl hi5 d_Md_start_29 (fun H locs hw => ?_)
      obtain ⟨u6, ev⟩ : ∃ z, z = ly_pi u2 (18) a1.toNatClampNeg (2 : Int32) := ⟨_, rfl⟩
      rw [← ev] at hw
      have h := nk_r ev h
      refine lv_iconst (v := 0) hx hb d_Md_start_30 (by decide) ?_
      exact ly_reti fx hr hlocks hk hw (Option.some.inj h) d_Md_start_31
    · have h := it_f hc h
      refine lv_bipush (v := -2) hx hb d_Md_start_20 (by decide) ?_
      exact ly_reti fx hr hlocks hk hw (Option.some.inj h) d_Md_start_22
  · have h := it_t hc h
    refine lv_iconst (v := -1) hx hb d_Md_start_8 (by decide) ?_
    exact ly_reti fx hr hlocks hk hw (Option.some.inj h) d_Md_start_9
set_option maxRecDepth 100000 in
set_option maxHeartbeats 4000000 in
theorem c_Md_finish (l : Launch) (F : Nat) (a1 : Int32) (a2 : Int32) (u : St) (res : Int32 × St) (h : sp_Md_finish F a1 a2 u = some res) : ly_Mi ZsM clA layM l y_Md_finish w_Md_finish { frames := 2, cells := 0, slots := 0, locals := 47 } (fun ad => [.ref (ad 0), .int a1, .int a2]) u (fun r1 u1 => (r1, u1) = res) := by
  refine ly_enti (cc := b_Md_finish) (maxL := 4) (ret := (some .int)) (by decide) rfl (fun ad => Nat.le_of_ble_eq_true rfl) ?_
  intro p e s m below meth c D ad cA A ls fx hr hlocks hk hA hz hw hl
  have hl : lv_has ls 4 [(0, .ref (ad 0)), (1, .int a1), (2, .int a2)] := hl
  have hx := fx.1
  have hb := fx.2.1
  unfold sp_Md_finish at h
  refine lv_aload_n hx hb d_Md_finish_0 rfl (lv_at hl 0 rfl) ?_
  refine lv_iload_n hx hb d_Md_finish_1 rfl (lv_at hl 1 rfl) ?_
  obtain ⟨r1, u2, hq3, h⟩ := ck_r h
  refine ly_callVi (As := [.int a1]) (rest := []) ZsM_ok fx hk hz hA hw (c_Md_isItem l a1 u _ hq3) (cw_V fx.2.2.2.2 a_644 a_646 as_29 a_6 ac_Md_isItem rfl rfl rfl hd_Md_isItem ⟨Nat.le_of_ble_eq_true rfl, Nat.le_of_ble_eq_true rfl⟩) (0) rfl rfl rfl rfl hl.1 rfl (Nat.le_of_ble_eq_true rfl) d_Md_finish_2 (Nat.zero_le _) (Nat.zero_le _) (fun r' u' H locs hp hw => ?_)
  cases hp
  refine lv_if_ne (tgt := 10) hx hb d_Md_finish_5 (by decide) (fun hc => ?_) (fun hc => ?_)
  · have h := it_f hc h
    refine lv_aload_n hx hb d_Md_finish_10 rfl (lv_at hl 0 rfl) ?_
    refine ly_getr fx hk hw (0) rfl rfl i_Model 21 (by decide) rfl rfl (List.mem_cons_of_mem _ a_488) d_Md_finish_11 ?_
    refine lv_iload_n hx hb d_Md_finish_14 rfl (lv_at hl 1 rfl) ?_
    obtain ⟨hi4, h⟩ := it_in h
    refine ly_iald fx hk hw (18) rfl hi4 d_Md_finish_15 ?_
    refine lv_iconst (v := 2) hx hb d_Md_finish_16 (by decide) ?_
    refine lv_icmp_eq (tgt := 23) hx hb d_Md_finish_17 (by decide) (fun hc => ?_) (fun hc => ?_)
    · have h := it_t hc h
      refine lv_aload_n hx hb d_Md_finish_23 rfl (lv_at hl 0 rfl) ?_
      refine ly_getr fx hk hw (0) rfl rfl i_Model 20 (by decide) rfl rfl (List.mem_cons_of_mem _ a_487) d_Md_finish_24 ?_
      refine lv_iload_n hx hb d_Md_finish_27 rfl (lv_at hl 1 rfl) ?_
      obtain ⟨hi5, h⟩ := it_in h
      refine ly_iald fx hk hw (17) rfl hi5 d_Md_finish_28 ?_
      refine lv_topi (fun v3_6 ev => ?_)
      have h := nk_r ev h
      refine lv_istore_n (lv' := [(3, .int v3_6), (0, .ref (ad 0)), (1, .int a1), (2, .int a2)]) hx hb d_Md_finish_29 rfl hl (by decide) rfl (fun ls hl => ?_)
      refine lv_aload_n hx hb d_Md_finish_30 rfl (lv_at hl 1 rfl) ?_
      refine ly_getr fx hk hw (0) rfl rfl i_Model 21 (by decide) rfl rfl (List.mem_cons_of_mem _ a_488) d_Md_finish_31 ?_
      refine lv_iload_n hx hb d_Md_finish_34 rfl (lv_at hl 2 rfl) ?_
      refine lv_iconst (v := 3) hx hb d_Md_finish_35 (by decide) ?_
      obtain ⟨hi7, h⟩ := it_in h
      refine ly_iast fx hk hw (18) rfl hi7 d_Md_finish_36 (fun H locs hw => ?_)
      obtain ⟨u8, ev⟩ : ∃ z, z = ly_pi u2 (18) a1.toNatClampNeg (3 : Int32) := ⟨_, rfl⟩
      rw [← ev] at hw
      have h := nk_r ev h
      refine lv_aload_n hx hb d_Md_finish_37 rfl (lv_at hl 1 rfl) ?_
      refine ly_getr fx hk hw (0) rfl rfl i_Model 18 (by decide) rfl rfl (List.mem_cons_of_mem _ a_485) d_Md_finish_38 ?_
      refine lv_aload_n hx hb d_Md_finish_41 rfl (lv_at hl 1 rfl) ?_
      refine ly_getr fx hk hw (0) rfl rfl i_Model 13 (by decide) rfl rfl (List.mem_cons_of_mem _ a_480) d_Md_finish_42 ?_
      refine lv_iload_n hx hb d_Md_finish_45 rfl (lv_at hl 0 rfl) ?_
      obtain ⟨hi9, h⟩ := it_in h
      refine ly_iald fx hk hw (14) rfl hi9 d_Md_finish_46 ?_
      refine lv_iload_n hx hb d_Md_finish_47 rfl (lv_at hl 3 rfl) ?_
      obtain ⟨hi10, h⟩ := it_in h
      refine ly_iast fx hk hw (16) rfl hi10 d_Md_finish_48 (fun H locs hw => ?_)
      obtain ⟨u11, ev⟩ : ∃ z, z = ly_pi u8 (16) (u8.1 (14) v3_6.toNatClampNeg).toNatClampNeg a2 := ⟨_, rfl⟩
      rw [← ev] at hw
      have h := nk_r ev h
      refine lv_aload_n hx hb d_Md_finish_49 rfl (lv_at hl 1 rfl) ?_
      refine lv_iload_n hx hb d_Md_finish_50 rfl (lv_at hl 0 rfl) ?_
      refine lv_iconst (v := 3) hx hb d_Md_finish_51 (by decide) ?_
      refine lv_iconst (v := 3) hx hb d_Md_finish_52 (by decide) ?_
      obtain ⟨r12, u13, hq14, h⟩ := ck_r h
      refine ly_callVi (As := [.int v3_6, .int (3 : Int32), .int (3 : Int32)]) (rest := []) ZsM_ok fx hk hz hA hw (c_Md_inState l F v3_6 (3 : Int32) (3 : Int32) u11 _ hq14) (cw_V fx.2.2.2.2 a_652 a_654 as_30 a_6 ac_Md_inState rfl rfl rfl hd_Md_inState ⟨Nat.le_of_ble_eq_true rfl, Nat.le_of_ble_eq_true rfl⟩) (0) rfl rfl rfl rfl hl.1 rfl (Nat.le_of_ble_eq_true rfl) d_Md_finish_53 (Nat.zero_le _) (Nat.zero_le _) (fun r' u' H locs hp hw => ?_)
      cases hp
      refine lv_aload_n hx hb d_Md_finish_56 rfl (lv_at hl 1 rfl) ?_
      refine ly_getr fx hk hw (0) rfl rfl i_Model 12 (by decide) rfl rfl (List.mem_cons_of_mem _ a_479) d_Md_finish_57 ?_
      refine lv_iload_n hx hb d_Md_finish_60 rfl (lv_at hl 0 rfl) ?_
      obtain ⟨hi15, h⟩ := it_in h
      refine ly_iald fx hk hw (13) rfl hi15 d_Md_finish_61 ?_
      refine lv_icmp_ne (tgt := 72) hx hb d_Md_finish_62 (by decide) (fun hc => ?_) (fun hc => ?_)
      · have h := it_f hc h
        refine lv_aload_n hx hb d_Md_finish_72 rfl (lv_at hl 1 rfl) ?_
        refine lv_iload_n hx hb d_Md_finish_73 rfl (lv_at hl 0 rfl) ?_
        refine lv_iconst (v := 1) hx hb d_Md_finish_74 (by decide) ?_
        refine lv_iconst (v := 2) hx hb d_Md_finish_75 (by decide) ?_
        obtain ⟨r16, u17, hq18, h⟩ := ck_r h
        refine ly_callVi (As := [.int v3_6, .int (1 : Int32), .int (2 : Int32)]) (rest := []) ZsM_ok fx hk hz hA hw (c_Md_inState l F v3_6 (1 : Int32) (2 : Int32) u13 _ hq18) (cw_V fx.2.2.2.2 a_652 a_654 as_30 a_6 ac_Md_inState rfl rfl rfl hd_Md_inState ⟨Nat.le_of_ble_eq_true rfl, Nat.le_of_ble_eq_true rfl⟩) (0) rfl rfl rfl rfl hl.1 rfl (Nat.le_of_ble_eq_true rfl) d_Md_finish_76 (Nat.zero_le _) (Nat.zero_le _) (fun r' u' H locs hp hw => ?_)
        cases hp
        refine lv_if_ne (tgt := 87) hx hb d_Md_finish_79 (by decide) (fun hc => ?_) (fun hc => ?_)
        · have h := it_f hc h
          refine lv_iconst (v := 0) hx hb d_Md_finish_87 (by decide) ?_
          exact ly_reti fx hr hlocks hk hw (Option.some.inj h) d_Md_finish_88
        · have h := it_t hc h
          refine lv_aload_n hx hb d_Md_finish_82 rfl (lv_at hl 1 rfl) ?_
          refine lv_iload_n hx hb d_Md_finish_83 rfl (lv_at hl 0 rfl) ?_
          obtain ⟨r19, u20, hq21, h⟩ := ck_r h
          refine ly_callVv (As := [.int v3_6]) (rest := []) ZsM_ok fx hk hz hA hw (c_Md_stop l F v3_6 u17 _ hq21) (cw_V fx.2.2.2.2 a_620 a_622 as_26 a_6 ac_Md_stop rfl rfl rfl hd_Md_stop ⟨Nat.le_of_ble_eq_true rfl, Nat.le_of_ble_eq_true rfl⟩) (0) rfl rfl rfl rfl hl.1 rfl (Nat.le_of_ble_eq_true rfl) d_Md_finish_84 (Nat.zero_le _) (Nat.zero_le _) (fun u' H locs hp hw => ?_)
          cases hp
          refine lv_iconst (v := 0) hx hb d_Md_finish_87 (by decide) ?_
          exact ly_reti fx hr hlocks hk hw (Option.some.inj h) d_Md_finish_88
      · have h := it_t hc h
        refine lv_aload_n hx hb d_Md_finish_65 rfl (lv_at hl 1 rfl) ?_
        refine lv_iload_n hx hb d_Md_finish_66 rfl (lv_at hl 0 rfl) ?_
        obtain ⟨r22, u23, hq24, h⟩ := ck_r h
        refine ly_callVv (As := [.int v3_6]) (rest := []) ZsM_ok fx hk hz hA hw (c_Md_end l F v3_6 u13 _ hq24) (cw_V fx.2.2.2.2 a_656 a_658 as_31 a_6 ac_Md_end rfl rfl rfl hd_Md_end ⟨Nat.le_of_ble_eq_true rfl, Nat.le_of_ble_eq_true rfl⟩) (0) rfl rfl rfl rfl hl.1 rfl (Nat.le_of_ble_eq_true rfl) d_Md_finish_67 (Nat.zero_le _) (Nat.zero_le _) (fun u' H locs hp hw => ?_)
        cases hp
        refine lv_iconst (v := 1) hx hb d_Md_finish_70 (by decide) ?_
        exact ly_reti fx hr hlocks hk hw (Option.some.inj h) d_Md_finish_71
    · have h := it_f hc h
      refine lv_bipush (v := -2) hx hb d_Md_finish_20 (by decide) ?_
      exact ly_reti fx hr hlocks hk hw (Option.some.inj h) d_Md_finish_22
  · have h := it_t hc h
    refine lv_iconst (v := -1) hx hb d_Md_finish_8 (by decide) ?_
    exact ly_reti fx hr hlocks hk hw (Option.some.inj h) d_Md_finish_9
set_option maxRecDepth 100000 in
set_option maxHeartbeats 4000000 in
theorem c_Md_failed (l : Launch) (F : Nat) (a1 : Int32) (u : St) (res : Int32 × St) (h : sp_Md_failed F a1 u = some res) : ly_Mi ZsM clA layM l y_Md_failed w_Md_failed { frames := 1, cells := 0, slots := 0, locals := 25 } (fun ad => [.ref (ad 0), .int a1]) u (fun r1 u1 => (r1, u1) = res) := by
  refine ly_enti (cc := b_Md_failed) (maxL := 3) (ret := (some .int)) (by decide) rfl (fun ad => Nat.le_of_ble_eq_true rfl) ?_
  intro p e s m below meth c D ad cA A ls fx hr hlocks hk hA hz hw hl
  have hl : lv_has ls 3 [(0, .ref (ad 0)), (1, .int a1)] := hl
  have hx := fx.1
  have hb := fx.2.1
  unfold sp_Md_failed at h
  refine lv_aload_n hx hb d_Md_failed_0 rfl (lv_at hl 0 rfl) ?_
  refine ly_getr fx hk hw (0) rfl rfl i_Model 20 (by decide) rfl rfl (List.mem_cons_of_mem _ a_487) d_Md_failed_1 ?_
  refine lv_iload_n hx hb d_Md_failed_4 rfl (lv_at hl 1 rfl) ?_
  obtain ⟨hi1, h⟩ := it_in h
  refine ly_iald fx hk hw (17) rfl hi1 d_Md_failed_5 ?_
  refine lv_topi (fun v2_2 ev => ?_)
  have h := nk_r ev h
  refine lv_istore_n (lv' := [(2, .int v2_2), (0, .ref (ad 0)), (1, .int a1)]) hx hb d_Md_failed_6 rfl hl (by decide) rfl (fun ls hl => ?_)
  refine lv_aload_n hx hb d_Md_failed_7 rfl (lv_at hl 1 rfl) ?_
  refine ly_getr fx hk hw (0) rfl rfl i_Model 21 (by decide) rfl rfl (List.mem_cons_of_mem _ a_488) d_Md_failed_8 ?_
  refine lv_iload_n hx hb d_Md_failed_11 rfl (lv_at hl 2 rfl) ?_
  refine lv_iconst (v := 4) hx hb d_Md_failed_12 (by decide) ?_
  obtain ⟨hi3, h⟩ := it_in h
  refine ly_iast fx hk hw (18) rfl hi3 d_Md_failed_13 (fun H locs hw => ?_)
  obtain ⟨u4, ev⟩ : ∃ z, z = ly_pi u (18) a1.toNatClampNeg (4 : Int32) := ⟨_, rfl⟩
  rw [← ev] at hw
  have h := nk_r ev h
  refine lv_aload_n hx hb d_Md_failed_14 rfl (lv_at hl 1 rfl) ?_
  refine lv_iload_n hx hb d_Md_failed_15 rfl (lv_at hl 0 rfl) ?_
  refine lv_iconst (v := 1) hx hb d_Md_failed_16 (by decide) ?_
  refine lv_iconst (v := 2) hx hb d_Md_failed_17 (by decide) ?_
  obtain ⟨r5, u6, hq7, h⟩ := ck_r h
  refine ly_callVi (As := [.int v2_2, .int (1 : Int32), .int (2 : Int32)]) (rest := []) ZsM_ok fx hk hz hA hw (c_Md_inState l F v2_2 (1 : Int32) (2 : Int32) u4 _ hq7) (cw_V fx.2.2.2.2 a_652 a_654 as_30 a_6 ac_Md_inState rfl rfl rfl hd_Md_inState ⟨Nat.le_of_ble_eq_true rfl, Nat.le_of_ble_eq_true rfl⟩) (0) rfl rfl rfl rfl hl.1 rfl (Nat.le_of_ble_eq_true rfl) d_Md_failed_18 (Nat.zero_le _) (Nat.zero_le _) (fun r' u' H locs hp hw => ?_)
  cases hp
  refine lv_if_le (tgt := 26) hx hb d_Md_failed_21 (by decide) (fun hc => ?_) (fun hc => ?_)
  · have h := it_t hc h
    refine lv_aload_n hx hb d_Md_failed_26 rfl (lv_at hl 1 rfl) ?_
    refine lv_iload_n hx hb d_Md_failed_27 rfl (lv_at hl 0 rfl) ?_
    obtain ⟨r8, u9, hq10, h⟩ := ck_r h
    refine ly_callVv (As := [.int v2_2]) (rest := []) ZsM_ok fx hk hz hA hw (c_Md_stop l F v2_2 u6 _ hq10) (cw_V fx.2.2.2.2 a_620 a_622 as_26 a_6 ac_Md_stop rfl rfl rfl hd_Md_stop ⟨Nat.le_of_ble_eq_true rfl, Nat.le_of_ble_eq_true rfl⟩) (0) rfl rfl rfl rfl hl.1 rfl (Nat.le_of_ble_eq_true rfl) d_Md_failed_28 (Nat.zero_le _) (Nat.zero_le _) (fun u' H locs hp hw => ?_)
    cases hp
    refine lv_iconst (v := 1) hx hb d_Md_failed_31 (by decide) ?_
    exact ly_reti fx hr hlocks hk hw (Option.some.inj h) d_Md_failed_32
  · have h := it_f hc h
    refine lv_iconst (v := 0) hx hb d_Md_failed_24 (by decide) ?_
    exact ly_reti fx hr hlocks hk hw (Option.some.inj h) d_Md_failed_25
set_option maxRecDepth 100000 in
set_option maxHeartbeats 4000000 in
theorem c_Md_fail (l : Launch) (F : Nat) (a1 : Int32) (u : St) (res : Int32 × St) (h : sp_Md_fail F a1 u = some res) : ly_Mi ZsM clA layM l y_Md_fail w_Md_fail { frames := 2, cells := 0, slots := 0, locals := 47 } (fun ad => [.ref (ad 0), .int a1]) u (fun r1 u1 => (r1, u1) = res) := by
  refine ly_enti (cc := b_Md_fail) (maxL := 2) (ret := (some .int)) (by decide) rfl (fun ad => Nat.le_of_ble_eq_true rfl) ?_
  intro p e s m below meth c D ad cA A ls fx hr hlocks hk hA hz hw hl
  have hl : lv_has ls 2 [(0, .ref (ad 0)), (1, .int a1)] := hl
  have hx := fx.1
  have hb := fx.2.1
  unfold sp_Md_fail at h
  refine lv_aload_n hx hb d_Md_fail_0 rfl (lv_at hl 0 rfl) ?_
  refine lv_iload_n hx hb d_Md_fail_1 rfl (lv_at hl 1 rfl) ?_
  obtain ⟨r1, u2, hq3, h⟩ := ck_r h
  refine ly_callVi (As := [.int a1]) (rest := []) ZsM_ok fx hk hz hA hw (c_Md_isItem l a1 u _ hq3) (cw_V fx.2.2.2.2 a_644 a_646 as_29 a_6 ac_Md_isItem rfl rfl rfl hd_Md_isItem ⟨Nat.le_of_ble_eq_true rfl, Nat.le_of_ble_eq_true rfl⟩) (0) rfl rfl rfl rfl hl.1 rfl (Nat.le_of_ble_eq_true rfl) d_Md_fail_2 (Nat.zero_le _) (Nat.zero_le _) (fun r' u' H locs hp hw => ?_)
  cases hp
  refine lv_if_ne (tgt := 10) hx hb d_Md_fail_5 (by decide) (fun hc => ?_) (fun hc => ?_)
  · have h := it_f hc h
    refine lv_aload_n hx hb d_Md_fail_10 rfl (lv_at hl 0 rfl) ?_
    refine ly_getr fx hk hw (0) rfl rfl i_Model 21 (by decide) rfl rfl (List.mem_cons_of_mem _ a_488) d_Md_fail_11 ?_
    refine lv_iload_n hx hb d_Md_fail_14 rfl (lv_at hl 1 rfl) ?_
    obtain ⟨hi4, h⟩ := it_in h
    refine ly_iald fx hk hw (18) rfl hi4 d_Md_fail_15 ?_
    refine lv_iconst (v := 2) hx hb d_Md_fail_16 (by decide) ?_
    refine lv_icmp_le (tgt := 25) hx hb d_Md_fail_17 (by decide) (fun hc => ?_) (fun hc => ?_)
    · have h := it_t hc h
      refine lv_aload_n hx hb d_Md_fail_25 rfl (lv_at hl 0 rfl) ?_
      refine lv_iload_n hx hb d_Md_fail_26 rfl (lv_at hl 1 rfl) ?_
      obtain ⟨r5, u6, hq7, h⟩ := ck_r h
      refine ly_callVi (As := [.int a1]) (rest := []) ZsM_ok fx hk hz hA hw (c_Md_failed l F a1 u2 _ hq7) (cw_V fx.2.2.2.2 a_664 a_666 as_32 a_6 ac_Md_failed rfl rfl rfl hd_Md_failed ⟨Nat.le_of_ble_eq_true rfl, Nat.le_of_ble_eq_true rfl⟩) (0) rfl rfl rfl rfl hl.1 rfl (Nat.le_of_ble_eq_true rfl) d_Md_fail_27 (Nat.zero_le _) (Nat.zero_le _) (fun r' u' H locs hp hw => ?_)
      cases hp
      exact ly_reti fx hr hlocks hk hw (Option.some.inj h) d_Md_fail_30
    · have h := it_f hc h
      refine lv_bipush (v := -2) hx hb d_Md_fail_20 (by decide) ?_
      refine lv_goto (tgt := 30) hx hb d_Md_fail_22 (by decide) ?_
      exact ly_reti fx hr hlocks hk hw (Option.some.inj h) d_Md_fail_30
  · have h := it_t hc h
    refine lv_iconst (v := -1) hx hb d_Md_fail_8 (by decide) ?_
    exact ly_reti fx hr hlocks hk hw (Option.some.inj h) d_Md_fail_9
set_option maxRecDepth 100000 in
set_option maxHeartbeats 4000000 in
theorem wl_Md_tick_26 {p : Program} {l : Launch} {e : Env} {s : State} {m : MethodId} {args : Array Value} {below : List Frame} {meth : Method} {c : Code} {D : va_G} {ad : Nat → Nat} {cA : Nat → ClassId} {A : Nat → Prop} (fx : CallFix p m c b_Md_tick 4 s args w_Md_tick y_Md_tick.cls) (hr : meth.sig.returnType = (some .int)) (hlocks : meth.locks = false) (hk : ly_K D clA layM cA s) (hA : ∀ q, s.heap.size ≤ q → A q) (hz : ZsM A s s.heap) (F : Nat) (v1 : Int32) {k26 : Int32 → St → Option (Int32 × St)} {res : Int32 × St}
    (hX26 : ∀ (v2 : Int32) (u : St) (H : Heap) (locs : List Loc) (ls : Array Slot), k26 v2 u = some res → lv_has ls 4 [(0, .ref (ad 0)), (1, .int v1), (2, .int v2)] → ly_G D clA layM ad cA A s.heap u H locs → W p l e { frames := 2, cells := 0, slots := 0, locals := 47 } s m args below meth c H locs 0 0 (MQ below (va_Qi (fun r1 u1 => (r1, u1) = res) (ly_B D clA layM ad cA A) A) args s 0 0 A) (F0 m 87 ls [])) :
    ∀ (n : Nat) (v2 : Int32) (u : St) (H : Heap) (locs : List Loc) (ls : Array Slot), lp_Md_tick_26 F v1 k26 n v2 u = some res → lv_has ls 4 [(0, .ref (ad 0)), (1, .int v1), (2, .int v2)] → ly_G D clA layM ad cA A s.heap u H locs → W p l e { frames := 2, cells := 0, slots := 0, locals := 47 } s m args below meth c H locs 0 0 (MQ below (va_Qi (fun r1 u1 => (r1, u1) = res) (ly_B D clA layM ad cA A) A) args s 0 0 A) (F0 m 26 ls []) := by
  have hx := fx.1
  have hb := fx.2.1
  intro n
  induction n with
  | zero => intro v2 u H locs ls h; exact nomatch h
  | succ n ih =>
    intro v2 u H locs ls h hl hw
    rw [lp_Md_tick_26] at h
    refine lv_iload_n hx hb d_Md_tick_26 rfl (lv_at hl 2 rfl) ?_
    refine lv_aload_n hx hb d_Md_tick_27 rfl (lv_at hl 0 rfl) ?_
    refine ly_get fx hk hw (0) rfl rfl i_Model 19 (by decide) rfl rfl (List.mem_cons_of_mem _ a_486) d_Md_tick_28 ?_
    refine lv_icmp_gt (tgt := 87) hx hb d_Md_tick_31 (by decide) (fun hc => ?_) (fun hc => ?_)
    · have h := it_t hc h
      exact hX26 v2 u _ _ _ h (lv_sub hl [0, 1, 2] rfl) hw
    · have h := it_f hc h
      refine lv_aload_n hx hb d_Md_tick_34 rfl (lv_at hl 0 rfl) ?_
      refine ly_getr fx hk hw (0) rfl rfl i_Model 14 (by decide) rfl rfl (List.mem_cons_of_mem _ a_481) d_Md_tick_35 ?_
      refine lv_aload_n hx hb d_Md_tick_38 rfl (lv_at hl 0 rfl) ?_
      refine ly_getr fx hk hw (0) rfl rfl i_Model 20 (by decide) rfl rfl (List.mem_cons_of_mem _ a_487) d_Md_tick_39 ?_
      refine lv_iload_n hx hb d_Md_tick_42 rfl (lv_at hl 2 rfl) ?_
      obtain ⟨hi2, h⟩ := it_in h
      refine ly_iald fx hk hw (17) rfl hi2 d_Md_tick_43 ?_
      obtain ⟨hi3, h⟩ := it_in h
      refine ly_iald fx hk hw (15) rfl hi3 d_Md_tick_44 ?_
      refine lv_topi (fun v3_4 ev => ?_)
      have h := nk_r ev h
      refine lv_istore_n (lv' := [(3, .int v3_4), (0, .ref (ad 0)), (1, .int v1), (2, .int v2)]) hx hb d_Md_tick_45 rfl hl (by decide) rfl (fun ls hl => ?_)
      refine lv_aload_n hx hb d_Md_tick_46 rfl (lv_at hl 1 rfl) ?_
      refine ly_getr fx hk hw (0) rfl rfl i_Model 21 (by decide) rfl rfl (List.mem_cons_of_mem _ a_488) d_Md_tick_47 ?_
      refine lv_iload_n hx hb d_Md_tick_50 rfl (lv_at hl 3 rfl) ?_
      obtain ⟨hi5, h⟩ := it_in h
      refine ly_iald fx hk hw (18) rfl hi5 d_Md_tick_51 ?_
      refine lv_iconst (v := 2) hx hb d_Md_tick_52 (by decide) ?_
      refine lv_icmp_gt (tgt := 81) hx hb d_Md_tick_53 (by decide) (fun hc => ?_) (fun hc => ?_)
      · have h := it_t hc h
        refine lv_iinc (lv' := [(2, .int (v2 + (1 : Int32))), (3, .int v3_4), (0, .ref (ad 0)), (1, .int v1)]) (k := 3) hx hb d_Md_tick_81 hl rfl (oi_p1 _) (by decide) rfl (fun ls hl => ?_)
        refine lv_goto (tgt := 26) hx hb d_Md_tick_84 (by decide) ?_
        exact ih (v2 + (1 : Int32)) u _ _ _ h (lv_sub hl [2, 3, 0] rfl) hw
      · have h := it_f hc h
        refine lv_iload_n hx hb d_Md_tick_56 rfl (lv_at hl 0 rfl) ?_
        refine lv_if_le (tgt := 81) hx hb d_Md_tick_57 (by decide) (fun hc => ?_) (fun hc => ?_)
        · have h := it_t hc h
          refine lv_iinc (lv' := [(2, .int (v2 + (1 : Int32))), (3, .int v3_4), (0, .ref (ad 0)), (1, .int v1)]) (k := 3) hx hb d_Md_tick_81 hl rfl (oi_p1 _) (by decide) rfl (fun ls hl => ?_)
          refine lv_goto (tgt := 26) hx hb d_Md_tick_84 (by decide) ?_
          exact ih (v2 + (1 : Int32)) u _ _ _ h (lv_sub hl [2, 3, 0] rfl) hw
        · have h := it_f hc h
          refine lv_aload_n hx hb d_Md_tick_60 rfl (lv_at hl 1 rfl) ?_
          refine ly_get fx hk hw (0) rfl rfl i_Model 17 (by decide) rfl rfl (List.mem_cons_of_mem _ a_484) d_Md_tick_61 ?_
          refine lv_aload_n hx hb d_Md_tick_64 rfl (lv_at hl 1 rfl) ?_
          refine ly_getr fx hk hw (0) rfl rfl i_Model 22 (by decide) rfl rfl (List.mem_cons_of_mem _ a_489) d_Md_tick_65 ?_
          refine lv_iload_n hx hb d_Md_tick_68 rfl (lv_at hl 3 rfl) ?_
          obtain ⟨hi6, h⟩ := it_in h
          refine ly_iald fx hk hw (19) rfl hi6 d_Md_tick_69 ?_
          refine lv_isub hx hb d_Md_tick_70 ?_
          refine lv_iload_n hx hb d_Md_tick_71 rfl (lv_at hl 0 rfl) ?_
          refine lv_icmp_lt (tgt := 81) hx hb d_Md_tick_72 (by decide) (fun hc => ?_) (fun hc => ?_)
          · have h := it_t hc h
            refine lv_iinc (lv' := [(2, .int (v2 + (1 : Int32))), (3, .int v3_4), (0, .ref (ad 0)), (1, .int v1)]) (k := 3) hx hb d_Md_tick_81 hl rfl (oi_p1 _) (by decide) rfl (fun ls hl => ?_)
            refine lv_goto (tgt := 26) hx hb d_Md_tick_84 (by decide) ?_
            exact ih (v2 + (1 : Int32)) u _ _ _ h (lv_sub hl [2, 3, 0] rfl) hw
          · have h := it_f hc h
            refine lv_aload_n hx hb d_Md_tick_75 rfl (lv_at hl 1 rfl) ?_
            refine lv_iload_n hx hb d_Md_tick_76 rfl (lv_at hl 3 rfl) ?_
            obtain ⟨r7, u8, hq9, h⟩ := ck_r h
            refine ly_callVi (As := [.int v2]) (rest := []) ZsM_ok fx hk hz hA hw (c_Md_failed l F v2 u _ hq9) (cw_V fx.2.2.2.2 a_664 a_666 as_32 a_6 ac_Md_failed rfl rfl rfl hd_Md_failed ⟨Nat.le_of_ble_eq_true rfl, Nat.le_of_ble_eq_true rfl⟩) (0) rfl rfl rfl rfl hl.1 rfl (Nat.le_of_ble_eq_true rfl) d_Md_tick_77 (Nat.zero_le _) (Nat.zero_le _) (fun r' u' H locs hp hw => ?_)
            cases hp
            refine lv_pop hx hb d_Md_tick_80 rfl ?_
            refine lv_iinc (lv' := [(2, .int (v2 + (1 : Int32))), (3, .int v3_4), (0, .ref (ad 0)), (1, .int v1)]) (k := 3) hx hb d_Md_tick_81 hl rfl (oi_p1 _) (by decide) rfl (fun ls hl => ?_)
            refine lv_goto (tgt := 26) hx hb d_Md_tick_84 (by decide) ?_
            exact ih (v2 + (1 : Int32)) u8 _ _ _ h (lv_sub hl [2, 3, 0] rfl) hw
set_option maxRecDepth 100000 in
set_option maxHeartbeats 4000000 in
theorem c_Md_tick (l : Launch) (F : Nat) (a1 : Int32) (u : St) (res : Int32 × St) (h : sp_Md_tick F a1 u = some res) : ly_Mi ZsM clA layM l y_Md_tick w_Md_tick { frames := 2, cells := 0, slots := 0, locals := 47 } (fun ad => [.ref (ad 0), .int a1]) u (fun r1 u1 => (r1, u1) = res) := by
  refine ly_enti (cc := b_Md_tick) (maxL := 4) (ret := (some .int)) (by decide) rfl (fun ad => Nat.le_of_ble_eq_true rfl) ?_
  intro p e s m below meth c D ad cA A ls fx hr hlocks hk hA hz hw hl
  have hl : lv_has ls 4 [(0, .ref (ad 0)), (1, .int a1)] := hl
  have hx := fx.1
  have hb := fx.2.1
  unfold sp_Md_tick at h
  refine lv_aload_n hx hb d_Md_tick_0 rfl (lv_at hl 0 rfl) ?_
  refine lv_dup hx hb d_Md_tick_1 rfl ?_
  refine ly_get fx hk hw (0) rfl rfl i_Model 17 (by decide) rfl rfl (List.mem_cons_of_mem _ a_484) d_Md_tick_2 ?_
  refine lv_iload_n hx hb d_Md_tick_5 rfl (lv_at hl 1 rfl) ?_
  refine lv_if_lt (tgt := 19) hx hb d_Md_tick_6 (by decide) (fun hc => ?_) (fun hc => ?_)
  · have h := it_t hc h
    refine lv_iconst (v := 0) hx hb d_Md_tick_19 (by decide) ?_
    refine lv_iadd hx hb d_Md_tick_20 ?_
    refine ly_put (v := ((u.1 (0) 17) + (0 : Int32))) fx hk hw (0) rfl rfl i_Model t_Model t_Model_ok n_Model 17 (by decide) rfl rfl rfl (List.mem_cons_of_mem _ a_484) rfl rfl d_Md_tick_21 (fun H locs hw => ?_)
    obtain ⟨u1, ev⟩ : ∃ z, z = ly_pi u (0) 17 ((u.1 (0) 17) + (0 : Int32)) := ⟨_, rfl⟩
    rw [← ev] at hw
    have h := nk_r ev h
    refine lv_iconst (v := 1) hx hb d_Md_tick_24 (by decide) ?_
    refine lv_istore_n (lv' := [(2, .int (1 : Int32)), (0, .ref (ad 0)), (1, .int a1)]) hx hb d_Md_tick_25 rfl hl (by decide) rfl (fun ls hl => ?_)
    refine wl_Md_tick_26 fx hr hlocks hk hA hz F a1 (fun v2_10 u11 H locs ls h hl hw => ?_) _ (1 : Int32) u1 _ _ _ h (lv_sub hl [1, 2, 0] rfl) hw
    refine lv_aload_n hx hb d_Md_tick_87 rfl (lv_at hl 0 rfl) ?_
    refine ly_get fx hk hw (0) rfl rfl i_Model 17 (by decide) rfl rfl (List.mem_cons_of_mem _ a_484) d_Md_tick_88 ?_
    exact ly_reti fx hr hlocks hk hw (Option.some.inj h) d_Md_tick_91
  · have h := it_f hc h
    refine lv_iload_n hx hb d_Md_tick_9 rfl (lv_at hl 1 rfl) ?_
    refine lv_bipush (v := 100) hx hb d_Md_tick_10 (by decide) ?_
    refine lv_icmp_gt (tgt := 19) hx hb d_Md_tick_12 (by decide) (fun hc => ?_) (fun hc => ?_)
    · have h := it_t hc h
      refine lv_iconst (v := 0) hx hb d_Md_tick_19 (by decide) ?_
      refine lv_iadd hx hb d_Md_tick_20 ?_
      refine ly_put (v := ((u.1 (0) 17) + (0 : Int32))) fx hk hw (0) rfl rfl i_Model t_Model t_Model_ok n_Model 17 (by decide) rfl rfl rfl (List.mem_cons_of_mem _ a_484) rfl rfl d_Md_tick_21 (fun H locs hw => ?_)
      obtain ⟨u12, ev⟩ : ∃ z, z = ly_pi u (0) 17 ((u.1 (0) 17) + (0 : Int32)) := ⟨_, rfl⟩
      rw [← ev] at hw
      have h := nk_r ev h
      refine lv_iconst (v := 1) hx hb d_Md_tick_24 (by decide) ?_
      refine lv_istore_n (lv' := [(2, .int (1 : Int32)), (0, .ref (ad 0)), (1, .int a1)]) hx hb d_Md_tick_25 rfl hl (by decide) rfl (fun ls hl => ?_)
      refine wl_Md_tick_26 fx hr hlocks hk hA hz F a1 (fun v2_13 u14 H locs ls h hl hw => ?_) _ (1 : Int32) u12 _ _ _ h (lv_sub hl [1, 2, 0] rfl) hw
      refine lv_aload_n hx hb d_Md_tick_87 rfl (lv_at hl 0 rfl) ?_
      refine ly_get fx hk hw (0) rfl rfl i_Model 17 (by decide) rfl rfl (List.mem_cons_of_mem _ a_484) d_Md_tick_88 ?_
      exact ly_reti fx hr hlocks hk hw (Option.some.inj h) d_Md_tick_91
    · have h := it_f hc h
      refine lv_iload_n hx hb d_Md_tick_15 rfl (lv_at hl 1 rfl) ?_
      refine lv_goto (tgt := 20) hx hb d_Md_tick_16 (by decide) ?_
      refine lv_iadd hx hb d_Md_tick_20 ?_
      refine ly_put (v := ((u.1 (0) 17) + a1)) fx hk hw (0) rfl rfl i_Model t_Model t_Model_ok n_Model 17 (by decide) rfl rfl rfl (List.mem_cons_of_mem _ a_484) rfl rfl d_Md_tick_21 (fun H locs hw => ?_)
      obtain ⟨u15, ev⟩ : ∃ z, z = ly_pi u (0) 17 ((u.1 (0) 17) + a1) := ⟨_, rfl⟩
      rw [← ev] at hw
      have h := nk_r ev h
      refine lv_iconst (v := 1) hx hb d_Md_tick_24 (by decide) ?_
      refine lv_istore_n (lv' := [(2, .int (1 : Int32)), (0, .ref (ad 0)), (1, .int a1)]) hx hb d_Md_tick_25 rfl hl (by decide) rfl (fun ls hl => ?_)
      refine wl_Md_tick_26 fx hr hlocks hk hA hz F a1 (fun v2_16 u17 H locs ls h hl hw => ?_) _ (1 : Int32) u15 _ _ _ h (lv_sub hl [1, 2, 0] rfl) hw
      refine lv_aload_n hx hb d_Md_tick_87 rfl (lv_at hl 0 rfl) ?_
      refine ly_get fx hk hw (0) rfl rfl i_Model 17 (by decide) rfl rfl (List.mem_cons_of_mem _ a_484) d_Md_tick_88 ?_
      exact ly_reti fx hr hlocks hk hw (Option.some.inj h) d_Md_tick_91
set_option maxRecDepth 100000 in
set_option maxHeartbeats 4000000 in
theorem c_Md_set (l : Launch) (a1 : Int32) (a2 : Int32) (u : St) (res : Int32 × St) (h : sp_Md_set a1 a2 u = some res) : ly_Mi ZsM clA layM l y_Md_set w_Md_set { frames := 0, cells := 0, slots := 0, locals := 0 } (fun ad => [.ref (ad 0), .int a1, .int a2]) u (fun r1 u1 => (r1, u1) = res) := by
  refine ly_enti (cc := b_Md_set) (maxL := 3) (ret := (some .boolean)) (by decide) rfl (fun ad => Nat.le_of_ble_eq_true rfl) ?_
  intro p e s m below meth c D ad cA A ls fx hr hlocks hk hA hz hw hl
  have hl : lv_has ls 3 [(0, .ref (ad 0)), (1, .int a1), (2, .int a2)] := hl
  have hx := fx.1
  have hb := fx.2.1
  unfold sp_Md_set at h
  refine lv_iload_n hx hb d_Md_set_0 rfl (lv_at hl 1 rfl) ?_
  refine lv_if_lt (tgt := 9) hx hb d_Md_set_1 (by decide) (fun hc => ?_) (fun hc => ?_)
  · have h := it_t hc h
    refine lv_iconst (v := 0) hx hb d_Md_set_9 (by decide) ?_
    exact ly_retz fx hr hlocks hk hw (Or.inl rfl) (Option.some.inj h) d_Md_set_10
  · have h := it_f hc h
    refine lv_iload_n hx hb d_Md_set_4 rfl (lv_at hl 1 rfl) ?_
    refine lv_iconst (v := 3) hx hb d_Md_set_5 (by decide) ?_
    refine lv_icmp_le (tgt := 11) hx hb d_Md_set_6 (by decide) (fun hc => ?_) (fun hc => ?_)
    · have h := it_t hc h
      refine lv_aload_n hx hb d_Md_set_11 rfl (lv_at hl 0 rfl) ?_
      refine ly_getr fx hk hw (0) rfl rfl i_Model 18 (by decide) rfl rfl (List.mem_cons_of_mem _ a_485) d_Md_set_12 ?_
      refine lv_iload_n hx hb d_Md_set_15 rfl (lv_at hl 1 rfl) ?_
      refine lv_iload_n hx hb d_Md_set_16 rfl (lv_at hl 2 rfl) ?_
      obtain ⟨hi1, h⟩ := it_in h
      refine ly_iast fx hk hw (16) rfl hi1 d_Md_set_17 (fun H locs hw => ?_)
      obtain ⟨u2, ev⟩ : ∃ z, z = ly_pi u (16) a1.toNatClampNeg a2 := ⟨_, rfl⟩
      rw [← ev] at hw
      have h := nk_r ev h
      refine lv_iconst (v := 1) hx hb d_Md_set_18 (by decide) ?_
      exact ly_retz fx hr hlocks hk hw (Or.inr rfl) (Option.some.inj h) d_Md_set_19
    · have h := it_f hc h
      refine lv_iconst (v := 0) hx hb d_Md_set_9 (by decide) ?_
      exact ly_retz fx hr hlocks hk hw (Or.inl rfl) (Option.some.inj h) d_Md_set_10
set_option maxRecDepth 100000 in
set_option maxHeartbeats 4000000 in
theorem c_Md_variable (l : Launch) (a1 : Int32) (u : St) (res : Int32 × St) (h : sp_Md_variable a1 u = some res) : ly_Mi ZsM clA layM l y_Md_variable w_Md_variable { frames := 0, cells := 0, slots := 0, locals := 0 } (fun ad => [.ref (ad 0), .int a1]) u (fun r1 u1 => (r1, u1) = res) := by
  refine ly_enti (cc := b_Md_variable) (maxL := 2) (ret := (some .int)) (by decide) rfl (fun ad => Nat.le_of_ble_eq_true rfl) ?_
  intro p e s m below meth c D ad cA A ls fx hr hlocks hk hA hz hw hl
  have hl : lv_has ls 2 [(0, .ref (ad 0)), (1, .int a1)] := hl
  have hx := fx.1
  have hb := fx.2.1
  unfold sp_Md_variable at h
  refine lv_iload_n hx hb d_Md_variable_0 rfl (lv_at hl 1 rfl) ?_
  refine lv_if_lt (tgt := 18) hx hb d_Md_variable_1 (by decide) (fun hc => ?_) (fun hc => ?_)
  · have h := it_t hc h
    refine lv_iconst (v := 0) hx hb d_Md_variable_18 (by decide) ?_
    exact ly_reti fx hr hlocks hk hw (Option.some.inj h) d_Md_variable_19
  · have h := it_f hc h
    refine lv_iload_n hx hb d_Md_variable_4 rfl (lv_at hl 1 rfl) ?_
    refine lv_iconst (v := 3) hx hb d_Md_variable_5 (by decide) ?_
    refine lv_icmp_gt (tgt := 18) hx hb d_Md_variable_6 (by decide) (fun hc => ?_) (fun hc => ?_)
    · have h := it_t hc h
      refine lv_iconst (v := 0) hx hb d_Md_variable_18 (by decide) ?_
      exact ly_reti fx hr hlocks hk hw (Option.some.inj h) d_Md_variable_19
    · have h := it_f hc h
      refine lv_aload_n hx hb d_Md_variable_9 rfl (lv_at hl 0 rfl) ?_
      refine ly_getr fx hk hw (0) rfl rfl i_Model 18 (by decide) rfl rfl (List.mem_cons_of_mem _ a_485) d_Md_variable_10 ?_
      refine lv_iload_n hx hb d_Md_variable_13 rfl (lv_at hl 1 rfl) ?_
      obtain ⟨hi1, h⟩ := it_in h
      refine ly_iald fx hk hw (16) rfl hi1 d_Md_variable_14 ?_
      refine lv_goto (tgt := 19) hx hb d_Md_variable_15 (by decide) ?_
      exact ly_reti fx hr hlocks hk hw (Option.some.inj h) d_Md_variable_19
set_option maxRecDepth 100000 in
set_option maxHeartbeats 4000000 in
theorem c_Md_marking (l : Launch) (u : St) (res : Int32 × St) (h : sp_Md_marking u = some res) : ly_Mi ZsM clA layM l y_Md_marking w_Md_marking { frames := 0, cells := 0, slots := 0, locals := 0 } (fun ad => [.ref (ad 0)]) u (fun r1 u1 => (r1, u1) = res) := by
  refine ly_enti (cc := b_Md_marking) (maxL := 1) (ret := (some .int)) (by decide) rfl (fun ad => Nat.le_of_ble_eq_true rfl) ?_
  intro p e s m below meth c D ad cA A ls fx hr hlocks hk hA hz hw hl
  have hl : lv_has ls 1 [(0, .ref (ad 0))] := hl
  have hx := fx.1
  have hb := fx.2.1
  unfold sp_Md_marking at h
  refine lv_aload_n hx hb d_Md_marking_0 rfl (lv_at hl 0 rfl) ?_
  refine ly_get fx hk hw (0) rfl rfl i_Model 16 (by decide) rfl rfl (List.mem_cons_of_mem _ a_483) d_Md_marking_1 ?_
  exact ly_reti fx hr hlocks hk hw (Option.some.inj h) d_Md_marking_4
set_option maxRecDepth 100000 in
set_option maxHeartbeats 4000000 in
theorem c_Md_item (l : Launch) (a1 : Int32) (a2 : Int32) (u : St) (res : Int32 × St) (h : sp_Md_item a1 a2 u = some res) : ly_Mi ZsM clA layM l y_Md_item w_Md_item { frames := 1, cells := 0, slots := 0, locals := 21 } (fun ad => [.ref (ad 0), .int a1, .int a2]) u (fun r1 u1 => (r1, u1) = res) := by
  refine ly_enti (cc := b_Md_item) (maxL := 3) (ret := (some .int)) (by decide) rfl (fun ad => Nat.le_of_ble_eq_true rfl) ?_
  intro p e s m below meth c D ad cA A ls fx hr hlocks hk hA hz hw hl
  have hl : lv_has ls 3 [(0, .ref (ad 0)), (1, .int a1), (2, .int a2)] := hl
  have hx := fx.1
  have hb := fx.2.1
  unfold sp_Md_item at h
  refine lv_aload_n hx hb d_Md_item_0 rfl (lv_at hl 0 rfl) ?_
  refine lv_iload_n hx hb d_Md_item_1 rfl (lv_at hl 1 rfl) ?_
  obtain ⟨r1, u2, hq3, h⟩ := ck_r h
  refine ly_callVi (As := [.int a1]) (rest := []) ZsM_ok fx hk hz hA hw (c_Md_isItem l a1 u _ hq3) (cw_V fx.2.2.2.2 a_644 a_646 as_29 a_6 ac_Md_isItem rfl rfl rfl hd_Md_isItem ⟨Nat.le_of_ble_eq_true rfl, Nat.le_of_ble_eq_true rfl⟩) (0) rfl rfl rfl rfl hl.1 rfl (Nat.le_of_ble_eq_true rfl) d_Md_item_2 (Nat.zero_le _) (Nat.zero_le _) (fun r' u' H locs hp hw => ?_)
  cases hp
  refine lv_if_eq (tgt := 17) hx hb d_Md_item_5 (by decide) (fun hc => ?_) (fun hc => ?_)
  · have h := it_t hc h
    refine lv_iconst (v := -1) hx hb d_Md_item_17 (by decide) ?_
    exact ly_reti fx hr hlocks hk hw (Option.some.inj h) d_Md_item_18
  · have h := it_f hc h
    refine lv_iload_n hx hb d_Md_item_8 rfl (lv_at hl 2 rfl) ?_
    refine lv_if_lt (tgt := 17) hx hb d_Md_item_9 (by decide) (fun hc => ?_) (fun hc => ?_)
    · have h := it_t hc h
      refine lv_iconst (v := -1) hx hb d_Md_item_17 (by decide) ?_
      exact ly_reti fx hr hlocks hk hw (Option.some.inj h) d_Md_item_18
    · have h := it_f hc h
      refine lv_iload_n hx hb d_Md_item_12 rfl (lv_at hl 2 rfl) ?_
      refine lv_iconst (v := 2) hx hb d_Md_item_13 (by decide) ?_
      refine lv_icmp_le (tgt := 19) hx hb d_Md_item_14 (by decide) (fun hc => ?_) (fun hc => ?_)
      · have h := it_t hc h
        refine lv_iload_n hx hb d_Md_item_19 rfl (lv_at hl 2 rfl) ?_
        refine lv_if_ne (tgt := 32) hx hb d_Md_item_20 (by decide) (fun hc => ?_) (fun hc => ?_)
        · have h := it_f hc h
          refine lv_iload_n hx hb d_Md_item_32 rfl (lv_at hl 2 rfl) ?_
          refine lv_iconst (v := 1) hx hb d_Md_item_33 (by decide) ?_
          refine lv_icmp_ne (tgt := 46) hx hb d_Md_item_34 (by decide) (fun hc => ?_) (fun hc => ?_)
          · have h := it_f hc h
            refine lv_aload_n hx hb d_Md_item_46 rfl (lv_at hl 0 rfl) ?_
            refine ly_getr fx hk hw (0) rfl rfl i_Model 22 (by decide) rfl rfl (List.mem_cons_of_mem _ a_489) d_Md_item_47 ?_
            refine lv_iload_n hx hb d_Md_item_50 rfl (lv_at hl 1 rfl) ?_
            obtain ⟨hi4, h⟩ := it_in h
            refine ly_iald fx hk hw (19) rfl hi4 d_Md_item_51 ?_
            exact ly_reti fx hr hlocks hk hw (Option.some.inj h) d_Md_item_52
          · have h := it_t hc h
            refine lv_aload_n hx hb d_Md_item_37 rfl (lv_at hl 0 rfl) ?_
            refine ly_getr fx hk hw (0) rfl rfl i_Model 21 (by decide) rfl rfl (List.mem_cons_of_mem _ a_488) d_Md_item_38 ?_
            refine lv_iload_n hx hb d_Md_item_41 rfl (lv_at hl 1 rfl) ?_
            obtain ⟨hi5, h⟩ := it_in h
            refine ly_iald fx hk hw (18) rfl hi5 d_Md_item_42 ?_
            refine lv_goto (tgt := 52) hx hb d_Md_item_43 (by decide) ?_
            exact ly_reti fx hr hlocks hk hw (Option.some.inj h) d_Md_item_52
        · have h := it_t hc h
          refine lv_aload_n hx hb d_Md_item_23 rfl (lv_at hl 0 rfl) ?_
          refine ly_getr fx hk hw (0) rfl rfl i_Model 20 (by decide) rfl rfl (List.mem_cons_of_mem _ a_487) d_Md_item_24 ?_
          refine lv_iload_n hx hb d_Md_item_27 rfl (lv_at hl 1 rfl) ?_
          obtain ⟨hi6, h⟩ := it_in h
          refine ly_iald fx hk hw (17) rfl hi6 d_Md_item_28 ?_
          refine lv_goto (tgt := 52) hx hb d_Md_item_29 (by decide) ?_
          exact ly_reti fx hr hlocks hk hw (Option.some.inj h) d_Md_item_52
      · have h := it_f hc h
        refine lv_iconst (v := -1) hx hb d_Md_item_17 (by decide) ?_
        exact ly_reti fx hr hlocks hk hw (Option.some.inj h) d_Md_item_18
set_option maxRecDepth 100000 in
set_option maxHeartbeats 4000000 in
theorem c_Md_isGood (l : Launch) (a1 : Int32) (u : St) (res : Int32 × St) (h : sp_Md_isGood a1 u = some res) : ly_Mi ZsM clA layM l y_Md_isGood w_Md_isGood { frames := 0, cells := 0, slots := 0, locals := 0 } (fun ad => [.ref (ad 0), .int a1]) u (fun r1 u1 => (r1, u1) = res) := by
  refine ly_enti (cc := b_Md_isGood) (maxL := 2) (ret := (some .boolean)) (by decide) rfl (fun ad => Nat.le_of_ble_eq_true rfl) ?_
  intro p e s m below meth c D ad cA A ls fx hr hlocks hk hA hz hw hl
  have hl : lv_has ls 2 [(0, .ref (ad 0)), (1, .int a1)] := hl
  have hx := fx.1
  have hb := fx.2.1
  unfold sp_Md_isGood at h
  refine lv_aload_n hx hb d_Md_isGood_0 rfl (lv_at hl 0 rfl) ?_
  refine ly_getr fx hk hw (0) rfl rfl i_Model 27 (by decide) rfl rfl (List.mem_cons_of_mem _ a_494) d_Md_isGood_1 ?_
  refine lv_iload_n hx hb d_Md_isGood_4 rfl (lv_at hl 1 rfl) ?_
  refine lv_bipush (v := 6) hx hb d_Md_isGood_5 (by decide) ?_
  refine lv_ishr hx hb d_Md_isGood_7 ?_
  obtain ⟨hi1, h⟩ := it_in h
  refine ly_lald fx hk hw (23) rfl hi1 d_Md_isGood_8 ?_
  refine lv_iload_n hx hb d_Md_isGood_9 rfl (lv_at hl 1 rfl) ?_
  refine lv_bipush (v := 63) hx hb d_Md_isGood_10 (by decide) ?_
  refine lv_iand hx hb d_Md_isGood_12 ?_
  refine lv_lshr hx hb d_Md_isGood_13 rfl ?_
  refine lv_lconst (v := 1) hx hb d_Md_isGood_14 (by decide) ?_
  refine lv_land hx hb d_Md_isGood_15 ?_
  refine lv_lconst (v := 0) hx hb d_Md_isGood_16 (by decide) ?_
  refine W.lcmp hx hb d_Md_isGood_17 ?_
  refine lv_if_eq (tgt := 25) hx hb d_Md_isGood_18 (by decide) (fun hc => ?_) (fun hc => ?_)
  · have h := it_t hc h
    refine lv_iconst (v := 0) hx hb d_Md_isGood_25 (by decide) ?_
    exact ly_retz fx hr hlocks hk hw (Or.inl rfl) (Option.some.inj h) d_Md_isGood_26
  · have h := it_f hc h
    refine lv_iconst (v := 1) hx hb d_Md_isGood_21 (by decide) ?_
    refine lv_goto (tgt := 26) hx hb d_Md_isGood_22 (by decide) ?_
    exact ly_retz fx hr hlocks hk hw (Or.inr rfl) (Option.some.inj h) d_Md_isGood_26
set_option maxRecDepth 100000 in
set_option maxHeartbeats 4000000 in
theorem wl_Md_leads_10 {p : Program} {l : Launch} {e : Env} {s : State} {m : MethodId} {args : Array Value} {below : List Frame} {meth : Method} {c : Code} {D : va_G} {ad : Nat → Nat} {cA : Nat → ClassId} {A : Nat → Prop} (fx : CallFix p m c b_Md_leads 5 s args w_Md_leads y_Md_leads.cls) (hr : meth.sig.returnType = (some .boolean)) (hlocks : meth.locks = false) (hk : ly_K D clA layM cA s) (hA : ∀ q, s.heap.size ≤ q → A q) (hz : ZsM A s s.heap) (F : Nat) (v1 : Int32) (v2 : Int32) {k10 : Int32 → St → Option (Int32 × St)} {res : Int32 × St}
    (hX10 : ∀ (v3 : Int32) (u : St) (H : Heap) (locs : List Loc) (ls : Array Slot), k10 v3 u = some res → lv_has ls 5 [(0, .ref (ad 0)), (1, .int v1), (2, .int v2), (3, .int v3)] → ly_G D clA layM ad cA A s.heap u H locs → W p l e { frames := 2, cells := 0, slots := 0, locals := 51 } s m args below meth c H locs 0 0 (MQ below (va_Qi (fun r1 u1 => (r1, u1) = res) (ly_B D clA layM ad cA A) A) args s 0 0 A) (F0 m 56 ls [])) :
    ∀ (n : Nat) (v3 : Int32) (u : St) (H : Heap) (locs : List Loc) (ls : Array Slot), lp_Md_leads_10 F v1 v2 k10 n v3 u = some res → lv_has ls 5 [(0, .ref (ad 0)), (1, .int v1), (2, .int v2), (3, .int v3)] → ly_G D clA layM ad cA A s.heap u H locs → W p l e { frames := 2, cells := 0, slots := 0, locals := 51 } s m args below meth c H locs 0 0 (MQ below (va_Qi (fun r1 u1 => (r1, u1) = res) (ly_B D clA layM ad cA A) A) args s 0 0 A) (F0 m 10 ls []) := by
  have hx := fx.1
  have hb := fx.2.1
  intro n
  induction n with
  | zero => intro v3 u H locs ls h; exact nomatch h
  | succ n ih =>
    intro v3 u H locs ls h hl hw
    rw [lp_Md_leads_10] at h
    refine lv_iload_n hx hb d_Md_leads_10 rfl (lv_at hl 3 rfl) ?_
    refine lv_bipush (v := 10) hx hb d_Md_leads_11 (by decide) ?_
    refine lv_icmp_ge (tgt := 56) hx hb d_Md_leads_13 (by decide) (fun hc => ?_) (fun hc => ?_)
    · have h := it_t hc h
      exact hX10 v3 u _ _ _ h (lv_sub hl [0, 1, 2, 3] rfl) hw
    · have h := it_f hc h
      refine lv_aload_n hx hb d_Md_leads_16 rfl (lv_at hl 0 rfl) ?_
      refine ly_getr fx hk hw (0) rfl rfl i_Model 0 (by decide) rfl rfl (List.mem_cons_of_mem _ a_467) d_Md_leads_17 ?_
      refine lv_iload_n hx hb d_Md_leads_20 rfl (lv_at hl 2 rfl) ?_
      obtain ⟨hi1, h⟩ := it_in h
      refine ly_zald fx hk hw (1) rfl hi1 d_Md_leads_21 ?_
      refine lv_if_eq (tgt := 56) hx hb d_Md_leads_22 (by decide) (fun hc => ?_) (fun hc => ?_)
      · have h := it_t hc h
        exact hX10 v3 u _ _ _ h (lv_sub hl [0, 1, 2, 3] rfl) hw
      · have h := it_f hc h
        refine lv_aload_n hx hb d_Md_leads_25 rfl (lv_at hl 0 rfl) ?_
        refine lv_iload_n hx hb d_Md_leads_26 rfl (lv_at hl 1 rfl) ?_
        refine lv_iload_n hx hb d_Md_leads_27 rfl (lv_at hl 2 rfl) ?_
        refine lv_iload_n hx hb d_Md_leads_28 rfl (lv_at hl 3 rfl) ?_
        obtain ⟨r2, u3, hq4, h⟩ := ck_r h
        refine ly_callVi (As := [.int v1, .int v2, .int v3]) (rest := []) ZsM_ok fx hk hz hA hw (c_Md_after l F v1 v2 v3 u _ hq4) (cw_V fx.2.2.2.2 a_596 a_598 as_22 a_6 ac_Md_after rfl rfl rfl hd_Md_after ⟨Nat.le_of_ble_eq_true rfl, Nat.le_of_ble_eq_true rfl⟩) (0) rfl rfl rfl rfl hl.1 rfl (Nat.le_of_ble_eq_true rfl) d_Md_leads_29 (Nat.zero_le _) (Nat.zero_le _) (fun r' u' H locs hp hw => ?_)
        cases hp
        refine lv_istore (lv' := [(4, .int r2), (0, .ref (ad 0)), (1, .int v1), (2, .int v2), (3, .int v3)]) hx hb d_Md_leads_32 hl (by decide) rfl (fun ls hl => ?_)
        refine lv_iload hx hb d_Md_leads_34 (lv_at hl 0 rfl) ?_
        refine lv_if_lt (tgt := 50) hx hb d_Md_leads_36 (by decide) (fun hc => ?_) (fun hc => ?_)
        · have h := it_t hc h
          refine lv_iinc (lv' := [(3, .int (v3 + (1 : Int32))), (4, .int r2), (0, .ref (ad 0)), (1, .int v1), (2, .int v2)]) (k := 4) hx hb d_Md_leads_50 hl rfl (oi_p1 _) (by decide) rfl (fun ls hl => ?_)
          refine lv_goto (tgt := 10) hx hb d_Md_leads_53 (by decide) ?_
          exact ih (v3 + (1 : Int32)) u3 _ _ _ h (lv_sub hl [2, 3, 4, 0] rfl) hw
        · have h := it_f hc h
          refine lv_aload_n hx hb d_Md_leads_39 rfl (lv_at hl 1 rfl) ?_
          refine lv_iload hx hb d_Md_leads_40 (lv_at hl 0 rfl) ?_
          obtain ⟨r5, u6, hq7, h⟩ := ck_r h
          refine ly_callVi (As := [.int r2]) (rest := []) ZsM_ok fx hk hz hA hw (c_Md_isGood l r2 u3 _ hq7) (cw_V fx.2.2.2.2 a_700 a_702 as_35 a_6 ac_Md_isGood rfl rfl rfl hd_Md_isGood ⟨Nat.le_of_ble_eq_true rfl, Nat.le_of_ble_eq_true rfl⟩) (0) rfl rfl rfl rfl hl.1 rfl (Nat.le_of_ble_eq_true rfl) d_Md_leads_42 (Nat.zero_le _) (Nat.zero_le _) (fun r' u' H locs hp hw => ?_)
          cases hp
          refine lv_if_eq (tgt := 50) hx hb d_Md_leads_45 (by decide) (fun hc => ?_) (fun hc => ?_)
          · have h := it_t hc h
            refine lv_iinc (lv' := [(3, .int (v3 + (1 : Int32))), (4, .int r2), (0, .ref (ad 0)), (1, .int v1), (2, .int v2)]) (k := 4) hx hb d_Md_leads_50 hl rfl (oi_p1 _) (by decide) rfl (fun ls hl => ?_)
            refine lv_goto (tgt := 10) hx hb d_Md_leads_53 (by decide) ?_
            exact ih (v3 + (1 : Int32)) u6 _ _ _ h (lv_sub hl [2, 3, 4, 0] rfl) hw
          · have h := it_f hc h
            refine lv_iconst (v := 1) hx hb d_Md_leads_48 (by decide) ?_
            exact ly_retz fx hr hlocks hk hw (Or.inr rfl) (Option.some.inj h) d_Md_leads_49
set_option maxRecDepth 100000 in
set_option maxHeartbeats 4000000 in
theorem wl_Md_leads_2 {p : Program} {l : Launch} {e : Env} {s : State} {m : MethodId} {args : Array Value} {below : List Frame} {meth : Method} {c : Code} {D : va_G} {ad : Nat → Nat} {cA : Nat → ClassId} {A : Nat → Prop} (fx : CallFix p m c b_Md_leads 5 s args w_Md_leads y_Md_leads.cls) (hr : meth.sig.returnType = (some .boolean)) (hlocks : meth.locks = false) (hk : ly_K D clA layM cA s) (hA : ∀ q, s.heap.size ≤ q → A q) (hz : ZsM A s s.heap) (F : Nat) (v1 : Int32) {k2 : Int32 → St → Option (Int32 × St)} {res : Int32 × St}
    (hX2 : ∀ (v2 : Int32) (u : St) (H : Heap) (locs : List Loc) (ls : Array Slot), k2 v2 u = some res → lv_has ls 5 [(0, .ref (ad 0)), (1, .int v1), (2, .int v2)] → ly_G D clA layM ad cA A s.heap u H locs → W p l e { frames := 2, cells := 0, slots := 0, locals := 51 } s m args below meth c H locs 0 0 (MQ below (va_Qi (fun r1 u1 => (r1, u1) = res) (ly_B D clA layM ad cA A) A) args s 0 0 A) (F0 m 62 ls [])) :
    ∀ (n : Nat) (v2 : Int32) (u : St) (H : Heap) (locs : List Loc) (ls : Array Slot), lp_Md_leads_2 F v1 k2 n v2 u = some res → lv_has ls 5 [(0, .ref (ad 0)), (1, .int v1), (2, .int v2)] → ly_G D clA layM ad cA A s.heap u H locs → W p l e { frames := 2, cells := 0, slots := 0, locals := 51 } s m args below meth c H locs 0 0 (MQ below (va_Qi (fun r1 u1 => (r1, u1) = res) (ly_B D clA layM ad cA A) A) args s 0 0 A) (F0 m 2 ls []) := by
  have hx := fx.1
  have hb := fx.2.1
  intro n
  induction n with
  | zero => intro v2 u H locs ls h; exact nomatch h
  | succ n ih =>
    intro v2 u H locs ls h hl hw
    rw [lp_Md_leads_2] at h
    refine lv_iload_n hx hb d_Md_leads_2 rfl (lv_at hl 2 rfl) ?_
    refine lv_bipush (v := 6) hx hb d_Md_leads_3 (by decide) ?_
    refine lv_icmp_ge (tgt := 62) hx hb d_Md_leads_5 (by decide) (fun hc => ?_) (fun hc => ?_)
    · have h := it_t hc h
      exact hX2 v2 u _ _ _ h (lv_sub hl [0, 1, 2] rfl) hw
    · have h := it_f hc h
      refine lv_iconst (v := 0) hx hb d_Md_leads_8 (by decide) ?_
      refine lv_istore_n (lv' := [(3, .int (0 : Int32)), (0, .ref (ad 0)), (1, .int v1), (2, .int v2)]) hx hb d_Md_leads_9 rfl hl (by decide) rfl (fun ls hl => ?_)
      refine wl_Md_leads_10 fx hr hlocks hk hA hz F v1 v2 (fun v3_8 u9 H locs ls h hl hw => ?_) _ (0 : Int32) u _ _ _ h (lv_sub hl [1, 2, 3, 0] rfl) hw
      refine lv_iinc (lv' := [(2, .int (v2 + (1 : Int32))), (0, .ref (ad 0)), (1, .int v1), (3, .int v3_8)]) (k := 2) hx hb d_Md_leads_56 hl rfl (oi_p1 _) (by decide) rfl (fun ls hl => ?_)
      refine lv_goto (tgt := 2) hx hb d_Md_leads_59 (by decide) ?_
      exact ih (v2 + (1 : Int32)) u9 _ _ _ h (lv_sub hl [1, 2, 0] rfl) hw
set_option maxRecDepth 100000 in
set_option maxHeartbeats 4000000 in
theorem c_Md_leads (l : Launch) (F : Nat) (a1 : Int32) (u : St) (res : Int32 × St) (h : sp_Md_leads F a1 u = some res) : ly_Mi ZsM clA layM l y_Md_leads w_Md_leads { frames := 2, cells := 0, slots := 0, locals := 51 } (fun ad => [.ref (ad 0), .int a1]) u (fun r1 u1 => (r1, u1) = res) := by
  refine ly_enti (cc := b_Md_leads) (maxL := 5) (ret := (some .boolean)) (by decide) rfl (fun ad => Nat.le_of_ble_eq_true rfl) ?_
  intro p e s m below meth c D ad cA A ls fx hr hlocks hk hA hz hw hl
  have hl : lv_has ls 5 [(0, .ref (ad 0)), (1, .int a1)] := hl
  have hx := fx.1
  have hb := fx.2.1
  unfold sp_Md_leads at h
  refine lv_iconst (v := 0) hx hb d_Md_leads_0 (by decide) ?_
  refine lv_istore_n (lv' := [(2, .int (0 : Int32)), (0, .ref (ad 0)), (1, .int a1)]) hx hb d_Md_leads_1 rfl hl (by decide) rfl (fun ls hl => ?_)
  refine wl_Md_leads_2 fx hr hlocks hk hA hz F a1 (fun v2_10 u11 H locs ls h hl hw => ?_) _ (0 : Int32) u _ _ _ h (lv_sub hl [1, 2, 0] rfl) hw
  refine lv_iconst (v := 0) hx hb d_Md_leads_62 (by decide) ?_
  exact ly_retz fx hr hlocks hk hw (Or.inl rfl) (Option.some.inj h) d_Md_leads_63
set_option maxRecDepth 100000 in
set_option maxHeartbeats 4000000 in
theorem wl_Md_allEnd_2 {p : Program} {l : Launch} {e : Env} {s : State} {m : MethodId} {args : Array Value} {below : List Frame} {meth : Method} {c : Code} {D : va_G} {ad : Nat → Nat} {cA : Nat → ClassId} {A : Nat → Prop} (fx : CallFix p m c b_Md_allEnd 5 s args w_Md_allEnd y_Md_allEnd.cls) (hr : meth.sig.returnType = (some .boolean)) (hlocks : meth.locks = false) (hk : ly_K D clA layM cA s) (hA : ∀ q, s.heap.size ≤ q → A q) (hz : ZsM A s s.heap) (F : Nat) {k2 : Int32 → St → Option (Int32 × St)} {res : Int32 × St}
    (hX2 : ∀ (v1 : Int32) (u : St) (H : Heap) (locs : List Loc) (ls : Array Slot), k2 v1 u = some res → lv_has ls 5 [(0, .ref (ad 0)), (1, .int v1)] → ly_G D clA layM ad cA A s.heap u H locs → W p l e { frames := 3, cells := 0, slots := 0, locals := 75 } s m args below meth c H locs 0 0 (MQ below (va_Qi (fun r1 u1 => (r1, u1) = res) (ly_B D clA layM ad cA A) A) args s 0 0 A) (F0 m 22 ls [])) :
    ∀ (n : Nat) (v1 : Int32) (u : St) (H : Heap) (locs : List Loc) (ls : Array Slot), lp_Md_allEnd_2 F k2 n v1 u = some res → lv_has ls 5 [(0, .ref (ad 0)), (1, .int v1)] → ly_G D clA layM ad cA A s.heap u H locs → W p l e { frames := 3, cells := 0, slots := 0, locals := 75 } s m args below meth c H locs 0 0 (MQ below (va_Qi (fun r1 u1 => (r1, u1) = res) (ly_B D clA layM ad cA A) A) args s 0 0 A) (F0 m 2 ls []) := by
  have hx := fx.1
  have hb := fx.2.1
  intro n
  induction n with
  | zero => intro v1 u H locs ls h; exact nomatch h
  | succ n ih =>
    intro v1 u H locs ls h hl hw
    rw [lp_Md_allEnd_2] at h
    refine lv_iload_n hx hb d_Md_allEnd_2 rfl (lv_at hl 1 rfl) ?_
    refine lv_sipush (v := 256) hx hb d_Md_allEnd_3 (by decide) ?_
    refine lv_icmp_ge (tgt := 22) hx hb d_Md_allEnd_6 (by decide) (fun hc => ?_) (fun hc => ?_)
    · have h := it_t hc h
      exact hX2 v1 u _ _ _ h (lv_sub hl [0, 1] rfl) hw
    · have h := it_f hc h
      refine lv_aload_n hx hb d_Md_allEnd_9 rfl (lv_at hl 0 rfl) ?_
      refine ly_getr fx hk hw (0) rfl rfl i_Model 27 (by decide) rfl rfl (List.mem_cons_of_mem _ a_494) d_Md_allEnd_10 ?_
      refine lv_iload_n hx hb d_Md_allEnd_13 rfl (lv_at hl 1 rfl) ?_
      refine lv_lconst (v := 0) hx hb d_Md_allEnd_14 (by decide) ?_
      obtain ⟨hi1, h⟩ := it_in h
      refine ly_last fx hk hw (23) rfl hi1 d_Md_allEnd_15 (fun H locs hw => ?_)
      obtain ⟨u2, ev⟩ : ∃ z, z = ly_pl u (23) v1.toNatClampNeg (0 : Int64) := ⟨_, rfl⟩
      rw [← ev] at hw
      have h := nk_r ev h
      refine lv_iinc (lv' := [(1, .int (v1 + (1 : Int32))), (0, .ref (ad 0))]) (k := 1) hx hb d_Md_allEnd_16 hl rfl (oi_p1 _) (by decide) rfl (fun ls hl => ?_)
      refine lv_goto (tgt := 2) hx hb d_Md_allEnd_19 (by decide) ?_
      exact ih (v1 + (1 : Int32)) u2 _ _ _ h (lv_sub hl [1, 0] rfl) hw
set_option maxRecDepth 100000 in
set_option maxHeartbeats 4000000 in
theorem wl_Md_allEnd_42 {p : Program} {l : Launch} {e : Env} {s : State} {m : MethodId} {args : Array Value} {below : List Frame} {meth : Method} {c : Code} {D : va_G} {ad : Nat → Nat} {cA : Nat → ClassId} {A : Nat → Prop} (fx : CallFix p m c b_Md_allEnd 5 s args w_Md_allEnd y_Md_allEnd.cls) (hr : meth.sig.returnType = (some .boolean)) (hlocks : meth.locks = false) (hk : ly_K D clA layM cA s) (hA : ∀ q, s.heap.size ≤ q → A q) (hz : ZsM A s s.heap) (F : Nat) {k42 : Int32 → Int32 → Int32 → St → Option (Int32 × St)} {res : Int32 × St}
    (hX42 : ∀ (v1 : Int32) (v2 : Int32) (v3 : Int32) (u : St) (H : Heap) (locs : List Loc) (ls : Array Slot), k42 v1 v2 v3 u = some res → lv_has ls 5 [(0, .ref (ad 0)), (1, .int v1), (2, .int v2), (3, .int v3)] → ly_G D clA layM ad cA A s.heap u H locs → W p l e { frames := 3, cells := 0, slots := 0, locals := 75 } s m args below meth c H locs 0 0 (MQ below (va_Qi (fun r1 u1 => (r1, u1) = res) (ly_B D clA layM ad cA A) A) args s 0 0 A) (F0 m 110 ls [])) :
    ∀ (n : Nat) (v1 : Int32) (v2 : Int32) (v3 : Int32) (u : St) (H : Heap) (locs : List Loc) (ls : Array Slot), lp_Md_allEnd_42 F k42 n v1 v2 v3 u = some res → lv_has ls 5 [(0, .ref (ad 0)), (1, .int v1), (2, .int v2), (3, .int v3)] → ly_G D clA layM ad cA A s.heap u H locs → W p l e { frames := 3, cells := 0, slots := 0, locals := 75 } s m args below meth c H locs 0 0 (MQ below (va_Qi (fun r1 u1 => (r1, u1) = res) (ly_B D clA layM ad cA A) A) args s 0 0 A) (F0 m 42 ls []) := by
  have hx := fx.1
  have hb := fx.2.1
  intro n
  induction n with
  | zero => intro v1 v2 v3 u H locs ls h; exact nomatch h
  | succ n ih =>
    intro v1 v2 v3 u H locs ls h hl hw
    rw [lp_Md_allEnd_42] at h
    refine lv_iload_n hx hb d_Md_allEnd_42 rfl (lv_at hl 3 rfl) ?_
    refine lv_if_lt (tgt := 110) hx hb d_Md_allEnd_43 (by decide) (fun hc => ?_) (fun hc => ?_)
    · have h := it_t hc h
      exact hX42 v1 v2 v3 u _ _ _ h (lv_sub hl [0, 1, 2, 3] rfl) hw
    · have h := it_f hc h
      refine lv_aload_n hx hb d_Md_allEnd_46 rfl (lv_at hl 0 rfl) ?_
      refine ly_getr fx hk hw (0) rfl rfl i_Model 25 (by decide) rfl rfl (List.mem_cons_of_mem _ a_492) d_Md_allEnd_47 ?_
      refine lv_iload_n hx hb d_Md_allEnd_50 rfl (lv_at hl 3 rfl) ?_
      obtain ⟨hi7, h⟩ := it_in h
      refine ly_iald fx hk hw (22) rfl hi7 d_Md_allEnd_51 ?_
      refine lv_topi (fun v4_8 ev => ?_)
      have h := nk_r ev h
      refine lv_istore (lv' := [(4, .int v4_8), (0, .ref (ad 0)), (1, .int v1), (2, .int v2), (3, .int v3)]) hx hb d_Md_allEnd_52 hl (by decide) rfl (fun ls hl => ?_)
      refine lv_aload_n hx hb d_Md_allEnd_54 rfl (lv_at hl 1 rfl) ?_
      refine lv_iload hx hb d_Md_allEnd_55 (lv_at hl 0 rfl) ?_
      obtain ⟨r9, u10, hq11, h⟩ := ck_r h
      refine ly_callVi (As := [.int v4_8]) (rest := []) ZsM_ok fx hk hz hA hw (c_Md_isGood l v4_8 u _ hq11) (cw_V fx.2.2.2.2 a_700 a_702 as_35 a_6 ac_Md_isGood rfl rfl rfl hd_Md_isGood ⟨Nat.le_of_ble_eq_true rfl, Nat.le_of_ble_eq_true rfl⟩) (0) rfl rfl rfl rfl hl.1 rfl (Nat.le_of_ble_eq_true rfl) d_Md_allEnd_57 (Nat.zero_le _) (Nat.zero_le _) (fun r' u' H locs hp hw => ?_)
      cases hp
      refine lv_if_ne (tgt := 104) hx hb d_Md_allEnd_60 (by decide) (fun hc => ?_) (fun hc => ?_)
      · have h := it_f hc h
        refine lv_iinc (lv' := [(3, .int (v3 + (-1 : Int32))), (4, .int v4_8), (0, .ref (ad 0)), (1, .int v1), (2, .int v2)]) (k := 4) hx hb d_Md_allEnd_104 hl rfl (oi_m1 _) (by decide) rfl (fun ls hl => ?_)
        refine lv_goto (tgt := 42) hx hb d_Md_allEnd_107 (by decide) ?_
        exact ih v1 v2 (v3 + (-1 : Int32)) u10 _ _ _ h (lv_sub hl [2, 3, 4, 0] rfl) hw
      · have h := it_t hc h
        refine lv_iload hx hb d_Md_allEnd_63 (lv_at hl 0 rfl) ?_
        refine lv_iconst (v := 2) hx hb d_Md_allEnd_65 (by decide) ?_
        refine lv_iand hx hb d_Md_allEnd_66 ?_
        refine lv_if_ne (tgt := 79) hx hb d_Md_allEnd_67 (by decide) (fun hc => ?_) (fun hc => ?_)
        · have h := it_f hc h
          refine lv_aload_n hx hb d_Md_allEnd_79 rfl (lv_at hl 1 rfl) ?_
          refine ly_getr fx hk hw (0) rfl rfl i_Model 27 (by decide) rfl rfl (List.mem_cons_of_mem _ a_494) d_Md_allEnd_80 ?_
          refine lv_iload hx hb d_Md_allEnd_83 (lv_at hl 0 rfl) ?_
          refine lv_bipush (v := 6) hx hb d_Md_allEnd_85 (by decide) ?_
          refine lv_ishr hx hb d_Md_allEnd_87 ?_
          refine lv_dup2_11 hx hb d_Md_allEnd_88 rfl rfl ?_
          obtain ⟨hi12, h⟩ := it_in h
          refine ly_lald fx hk hw (23) rfl hi12 d_Md_allEnd_89 ?_
          refine lv_lconst (v := 1) hx hb d_Md_allEnd_90 (by decide) ?_
          refine lv_iload hx hb d_Md_allEnd_91 (lv_at hl 0 rfl) ?_
          refine lv_bipush (v := 63) hx hb d_Md_allEnd_93 (by decide) ?_
          refine lv_iand hx hb d_Md_allEnd_95 ?_
          refine lv_lshl hx hb d_Md_allEnd_96 rfl ?_
          refine lv_lor hx hb d_Md_allEnd_97 ?_
          obtain ⟨hi13, h⟩ := it_in h
          refine ly_last fx hk hw (23) rfl hi13 d_Md_allEnd_98 (fun H locs hw => ?_)
          obtain ⟨u14, ev⟩ : ∃ z, z = ly_pl u10 (23) (v4_8 >>> ((6 : Int32) &&& 31)).toNatClampNeg ((u10.2 (23) (v4_8 >>> ((6 : Int32) &&& 31)).toNatClampNeg) ||| (((1 : Int64) <<< ((v4_8 &&& (63 : Int32)).toInt64 &&& 63)))) := ⟨_, rfl⟩
          rw [← ev] at hw
          have h := nk_r ev h
          refine lv_iinc (lv' := [(1, .int (v1 + (-1 : Int32))), (4, .int v4_8), (0, .ref (ad 0)), (2, .int v2), (3, .int v3)]) (k := 2) hx hb d_Md_allEnd_99 hl rfl (oi_m1 _) (by decide) rfl (fun ls hl => ?_)
          refine lv_iconst (v := 1) hx hb d_Md_allEnd_102 (by decide) ?_
          refine lv_istore_n (lv' := [(2, .int (1 : Int32)), (1, .int (v1 + (-1 : Int32))), (4, .int v4_8), (0, .ref (ad 0)), (3, .int v3)]) hx hb d_Md_allEnd_103 rfl hl (by decide) rfl (fun ls hl => ?_)
          refine lv_iinc (lv' := [(3, .int (v3 + (-1 : Int32))), (2, .int (1 : Int32)), (1, .int (v1 + (-1 : Int32))), (4, .int v4_8), (0, .ref (ad 0))]) (k := 4) hx hb d_Md_allEnd_104 hl rfl (oi_m1 _) (by decide) rfl (fun ls hl => ?_)
          refine lv_goto (tgt := 42) hx hb d_Md_allEnd_107 (by decide) ?_
          exact ih (v1 + (-1 : Int32)) (1 : Int32) (v3 + (-1 : Int32)) u14 _ _ _ h (lv_sub hl [4, 2, 1, 0] rfl) hw
        · have h := it_t hc h
          refine lv_aload_n hx hb d_Md_allEnd_70 rfl (lv_at hl 1 rfl) ?_
          refine lv_iload hx hb d_Md_allEnd_71 (lv_at hl 0 rfl) ?_
          obtain ⟨r15, u16, hq17, h⟩ := ck_r h
          refine ly_callVi (As := [.int v4_8]) (rest := []) ZsM_ok fx hk hz hA hw (c_Md_leads l F v4_8 u10 _ hq17) (cw_V fx.2.2.2.2 a_704 a_706 as_36 a_6 ac_Md_leads rfl rfl rfl hd_Md_leads ⟨Nat.le_of_ble_eq_true rfl, Nat.le_of_ble_eq_true rfl⟩) (0) rfl rfl rfl rfl hl.1 rfl (Nat.le_of_ble_eq_true rfl) d_Md_allEnd_73 (Nat.zero_le _) (Nat.zero_le _) (fun r' u' H locs hp hw => ?_)
          cases hp
          refine lv_if_eq (tgt := 104) hx hb d_Md_allEnd_76 (by decide) (fun hc => ?_) (fun hc => ?_)
          · have h := it_t hc h
            refine lv_iinc (lv' := [(3, .int (v3 + (-1 : Int32))), (4, .int v4_8), (0, .ref (ad 0)), (1, .int v1), (2, .int v2)]) (k := 4) hx hb d_Md_allEnd_104 hl rfl (oi_m1 _) (by decide) rfl (fun ls hl => ?_)
            refine lv_goto (tgt := 42) hx hb d_Md_allEnd_107 (by decide) ?_
            exact ih v1 v2 (v3 + (-1 : Int32)) u16 _ _ _ h (lv_sub hl [2, 3, 4, 0] rfl) hw
          · have h := it_f hc h
            refine lv_aload_n hx hb d_Md_allEnd_79 rfl (lv_at hl 1 rfl) ?_
            refine ly_getr fx hk hw (0) rfl rfl i_Model 27 (by decide) rfl rfl (List.mem_cons_of_mem _ a_494) d_Md_allEnd_80 ?_
            refine lv_iload hx hb d_Md_allEnd_83 (lv_at hl 0 rfl) ?_
            refine lv_bipush (v := 6) hx hb d_Md_allEnd_85 (by decide) ?_
            refine lv_ishr hx hb d_Md_allEnd_87 ?_
            refine lv_dup2_11 hx hb d_Md_allEnd_88 rfl rfl ?_
            obtain ⟨hi18, h⟩ := it_in h
            refine ly_lald fx hk hw (23) rfl hi18 d_Md_allEnd_89 ?_
            refine lv_lconst (v := 1) hx hb d_Md_allEnd_90 (by decide) ?_
            refine lv_iload hx hb d_Md_allEnd_91 (lv_at hl 0 rfl) ?_
            refine lv_bipush (v := 63) hx hb d_Md_allEnd_93 (by decide) ?_
            refine lv_iand hx hb d_Md_allEnd_95 ?_
            refine lv_lshl hx hb d_Md_allEnd_96 rfl ?_
            refine lv_lor hx hb d_Md_allEnd_97 ?_
            obtain ⟨hi19, h⟩ := it_in h
            refine ly_last fx hk hw (23) rfl hi19 d_Md_allEnd_98 (fun H locs hw => ?_)
            obtain ⟨u20, ev⟩ : ∃ z, z = ly_pl u16 (23) (v4_8 >>> ((6 : Int32) &&& 31)).toNatClampNeg ((u16.2 (23) (v4_8 >>> ((6 : Int32) &&& 31)).toNatClampNeg) ||| (((1 : Int64) <<< ((v4_8 &&& (63 : Int32)).toInt64 &&& 63)))) := ⟨_, rfl⟩
            rw [← ev] at hw
            have h := nk_r ev h
            refine lv_iinc (lv' := [(1, .int (v1 + (-1 : Int32))), (4, .int v4_8), (0, .ref (ad 0)), (2, .int v2), (3, .int v3)]) (k := 2) hx hb d_Md_allEnd_99 hl rfl (oi_m1 _) (by decide) rfl (fun ls hl => ?_)
            refine lv_iconst (v := 1) hx hb d_Md_allEnd_102 (by decide) ?_
            refine lv_istore_n (lv' := [(2, .int (1 : Int32)), (1, .int (v1 + (-1 : Int32))), (4, .int v4_8), (0, .ref (ad 0)), (3, .int v3)]) hx hb d_Md_allEnd_103 rfl hl (by decide) rfl (fun ls hl => ?_)
            refine lv_iinc (lv' := [(3, .int (v3 + (-1 : Int32))), (2, .int (1 : Int32)), (1, .int (v1 + (-1 : Int32))), (4, .int v4_8), (0, .ref (ad 0))]) (k := 4) hx hb d_Md_allEnd_104 hl rfl (oi_m1 _) (by decide) rfl (fun ls hl => ?_)
            refine lv_goto (tgt := 42) hx hb d_Md_allEnd_107 (by decide) ?_
            exact ih (v1 + (-1 : Int32)) (1 : Int32) (v3 + (-1 : Int32)) u20 _ _ _ h (lv_sub hl [4, 2, 1, 0] rfl) hw
set_option maxRecDepth 100000 in
set_option maxHeartbeats 4000000 in
theorem wl_Md_allEnd_29 {p : Program} {l : Launch} {e : Env} {s : State} {m : MethodId} {args : Array Value} {below : List Frame} {meth : Method} {c : Code} {D : va_G} {ad : Nat → Nat} {cA : Nat → ClassId} {A : Nat → Prop} (fx : CallFix p m c b_Md_allEnd 5 s args w_Md_allEnd y_Md_allEnd.cls) (hr : meth.sig.returnType = (some .boolean)) (hlocks : meth.locks = false) (hk : ly_K D clA layM cA s) (hA : ∀ q, s.heap.size ≤ q → A q) (hz : ZsM A s s.heap) (F : Nat) {k29 : Int32 → Int32 → St → Option (Int32 × St)} {res : Int32 × St}
    (hX29 : ∀ (v1 : Int32) (v2 : Int32) (u : St) (H : Heap) (locs : List Loc) (ls : Array Slot), k29 v1 v2 u = some res → lv_has ls 5 [(0, .ref (ad 0)), (1, .int v1), (2, .int v2)] → ly_G D clA layM ad cA A s.heap u H locs → W p l e { frames := 3, cells := 0, slots := 0, locals := 75 } s m args below meth c H locs 0 0 (MQ below (va_Qi (fun r1 u1 => (r1, u1) = res) (ly_B D clA layM ad cA A) A) args s 0 0 A) (F0 m 113 ls [])) :
    ∀ (n : Nat) (v1 : Int32) (v2 : Int32) (u : St) (H : Heap) (locs : List Loc) (ls : Array Slot), lp_Md_allEnd_29 F k29 n v1 v2 u = some res → lv_has ls 5 [(0, .ref (ad 0)), (1, .int v1), (2, .int v2)] → ly_G D clA layM ad cA A s.heap u H locs → W p l e { frames := 3, cells := 0, slots := 0, locals := 75 } s m args below meth c H locs 0 0 (MQ below (va_Qi (fun r1 u1 => (r1, u1) = res) (ly_B D clA layM ad cA A) A) args s 0 0 A) (F0 m 29 ls []) := by
  have hx := fx.1
  have hb := fx.2.1
  intro n
  induction n with
  | zero => intro v1 v2 u H locs ls h; exact nomatch h
  | succ n ih =>
    intro v1 v2 u H locs ls h hl hw
    rw [lp_Md_allEnd_29] at h
    refine lv_iload_n hx hb d_Md_allEnd_29 rfl (lv_at hl 2 rfl) ?_
    refine lv_if_eq (tgt := 113) hx hb d_Md_allEnd_30 (by decide) (fun hc => ?_) (fun hc => ?_)
    · have h := it_t hc h
      exact hX29 v1 v2 u _ _ _ h (lv_sub hl [0, 1, 2] rfl) hw
    · have h := it_f hc h
      refine lv_iconst (v := 0) hx hb d_Md_allEnd_33 (by decide) ?_
      refine lv_istore_n (lv' := [(2, .int (0 : Int32)), (0, .ref (ad 0)), (1, .int v1)]) hx hb d_Md_allEnd_34 rfl hl (by decide) rfl (fun ls hl => ?_)
      refine lv_aload_n hx hb d_Md_allEnd_35 rfl (lv_at hl 1 rfl) ?_
      refine ly_get fx hk hw (0) rfl rfl i_Model 26 (by decide) rfl rfl (List.mem_cons_of_mem _ a_493) d_Md_allEnd_36 ?_
      refine lv_iconst (v := 1) hx hb d_Md_allEnd_39 (by decide) ?_
      refine lv_isub hx hb d_Md_allEnd_40 ?_
      refine lv_topi (fun v3_6 ev => ?_)
      have h := nk_r ev h
      refine lv_istore_n (lv' := [(3, .int v3_6), (2, .int (0 : Int32)), (0, .ref (ad 0)), (1, .int v1)]) hx hb d_Md_allEnd_41 rfl hl (by decide) rfl (fun ls hl => ?_)
      refine wl_Md_allEnd_42 fx hr hlocks hk hA hz F (fun v1_21 v2_22 v3_23 u24 H locs ls h hl hw => ?_) _ v1 (0 : Int32) v3_6 u _ _ _ h (lv_sub hl [2, 3, 1, 0] rfl) hw
      refine lv_goto (tgt := 29) hx hb d_Md_allEnd_110 (by decide) ?_
      exact ih v1_21 v2_22 u24 _ _ _ h (lv_sub hl [0, 1, 2] rfl) hw
set_option maxRecDepth 100000 in
set_option maxHeartbeats 4000000 in
theorem c_Md_allEnd (l : Launch) (F : Nat) (u : St) (res : Int32 × St) (h : sp_Md_allEnd F u = some res) : ly_Mi ZsM clA layM l y_Md_allEnd w_Md_allEnd { frames := 3, cells := 0, slots := 0, locals := 75 } (fun ad => [.ref (ad 0)]) u (fun r1 u1 => (r1, u1) = res) := by
  refine ly_enti (cc := b_Md_allEnd) (maxL := 5) (ret := (some .boolean)) (by decide) rfl (fun ad => Nat.le_of_ble_eq_true rfl) ?_
  intro p e s m below meth c D ad cA A ls fx hr hlocks hk hA hz hw hl
  have hl : lv_has ls 5 [(0, .ref (ad 0))] := hl
  have hx := fx.1
  have hb := fx.2.1
  unfold sp_Md_allEnd at h
  refine lv_iconst (v := 0) hx hb d_Md_allEnd_0 (by decide) ?_
  refine lv_istore_n (lv' := [(1, .int (0 : Int32)), (0, .ref (ad 0))]) hx hb d_Md_allEnd_1 rfl hl (by decide) rfl (fun ls hl => ?_)
  refine wl_Md_allEnd_2 fx hr hlocks hk hA hz F (fun v1_3 u4 H locs ls h hl hw => ?_) _ (0 : Int32) u _ _ _ h (lv_sub hl [1, 0] rfl) hw
  refine lv_aload_n hx hb d_Md_allEnd_22 rfl (lv_at hl 0 rfl) ?_
  refine ly_get fx hk hw (0) rfl rfl i_Model 26 (by decide) rfl rfl (List.mem_cons_of_mem _ a_493) d_Md_allEnd_23 ?_
  refine lv_topi (fun v1_5 ev => ?_)
  have h := nk_r ev h
  refine lv_istore_n (lv' := [(1, .int v1_5), (0, .ref (ad 0))]) hx hb d_Md_allEnd_26 rfl hl (by decide) rfl (fun ls hl => ?_)
  refine lv_iconst (v := 1) hx hb d_Md_allEnd_27 (by decide) ?_
  refine lv_istore_n (lv' := [(2, .int (1 : Int32)), (1, .int v1_5), (0, .ref (ad 0))]) hx hb d_Md_allEnd_28 rfl hl (by decide) rfl (fun ls hl => ?_)
  refine wl_Md_allEnd_29 fx hr hlocks hk hA hz F (fun v1_25 v2_26 u27 H locs ls h hl hw => ?_) _ v1_5 (1 : Int32) u4 _ _ _ h (lv_sub hl [2, 1, 0] rfl) hw
  refine lv_iload_n hx hb d_Md_allEnd_113 rfl (lv_at hl 1 rfl) ?_
  refine lv_if_ne (tgt := 121) hx hb d_Md_allEnd_114 (by decide) (fun hc => ?_) (fun hc => ?_)
  · have h := it_f hc h
    refine lv_iconst (v := 0) hx hb d_Md_allEnd_121 (by decide) ?_
    exact ly_retz fx hr hlocks hk hw (Or.inl rfl) (Option.some.inj h) d_Md_allEnd_122
  · have h := it_t hc h
    refine lv_iconst (v := 1) hx hb d_Md_allEnd_117 (by decide) ?_
    refine lv_goto (tgt := 122) hx hb d_Md_allEnd_118 (by decide) ?_
    exact ly_retz fx hr hlocks hk hw (Or.inr rfl) (Option.some.inj h) d_Md_allEnd_122
set_option maxRecDepth 100000 in
set_option maxHeartbeats 4000000 in
theorem wl_Md_canBegin_12 {p : Program} {l : Launch} {e : Env} {s : State} {m : MethodId} {args : Array Value} {below : List Frame} {meth : Method} {c : Code} {D : va_G} {ad : Nat → Nat} {cA : Nat → ClassId} {A : Nat → Prop} (fx : CallFix p m c b_Md_canBegin 5 s args w_Md_canBegin y_Md_canBegin.cls) (hr : meth.sig.returnType = (some .boolean)) (hlocks : meth.locks = false) (hk : ly_K D clA layM cA s) (hA : ∀ q, s.heap.size ≤ q → A q) (hz : ZsM A s s.heap) (F : Nat) (v1 : Int32) (v2 : Int32) {k12 : Int32 → St → Option (Int32 × St)} {res : Int32 × St}
    (hX12 : ∀ (v3 : Int32) (u : St) (H : Heap) (locs : List Loc) (ls : Array Slot), k12 v3 u = some res → lv_has ls 5 [(0, .ref (ad 0)), (1, .int v1), (2, .int v2), (3, .int v3)] → ly_G D clA layM ad cA A s.heap u H locs → W p l e { frames := 0, cells := 0, slots := 0, locals := 0 } s m args below meth c H locs 0 0 (MQ below (va_Qi (fun r1 u1 => (r1, u1) = res) (ly_B D clA layM ad cA A) A) args s 0 0 A) (F0 m 74 ls [])) :
    ∀ (n : Nat) (v3 : Int32) (u : St) (H : Heap) (locs : List Loc) (ls : Array Slot), lp_Md_canBegin_12 F v1 v2 k12 n v3 u = some res → lv_has ls 5 [(0, .ref (ad 0)), (1, .int v1), (2, .int v2), (3, .int v3)] → ly_G D clA layM ad cA A s.heap u H locs → W p l e { frames := 0, cells := 0, slots := 0, locals := 0 } s m args below meth c H locs 0 0 (MQ below (va_Qi (fun r1 u1 => (r1, u1) = res) (ly_B D clA layM ad cA A) A) args s 0 0 A) (F0 m 12 ls []) := by
  have hx := fx.1
  have hb := fx.2.1
  intro n
  induction n with
  | zero => intro v3 u H locs ls h; exact nomatch h
  | succ n ih =>
    intro v3 u H locs ls h hl hw
    rw [lp_Md_canBegin_12] at h
    refine lv_iload_n hx hb d_Md_canBegin_12 rfl (lv_at hl 3 rfl) ?_
    refine lv_iconst (v := 3) hx hb d_Md_canBegin_13 (by decide) ?_
    refine lv_icmp_ge (tgt := 74) hx hb d_Md_canBegin_14 (by decide) (fun hc => ?_) (fun hc => ?_)
    · have h := it_t hc h
      exact hX12 v3 u _ _ _ h (lv_sub hl [0, 1, 2, 3] rfl) hw
    · have h := it_f hc h
      refine lv_aload_n hx hb d_Md_canBegin_17 rfl (lv_at hl 0 rfl) ?_
      refine ly_getr fx hk hw (0) rfl rfl i_Model 1 (by decide) rfl rfl (List.mem_cons_of_mem _ a_468) d_Md_canBegin_18 ?_
      refine lv_iload_n hx hb d_Md_canBegin_21 rfl (lv_at hl 1 rfl) ?_
      obtain ⟨hi1, h⟩ := it_in h
      refine ly_iald fx hk hw (2) rfl hi1 d_Md_canBegin_22 ?_
      refine lv_if_ne (tgt := 35) hx hb d_Md_canBegin_23 (by decide) (fun hc => ?_) (fun hc => ?_)
      · have h := it_f hc h
        refine lv_aload_n hx hb d_Md_canBegin_35 rfl (lv_at hl 0 rfl) ?_
        refine ly_getr fx hk hw (0) rfl rfl i_Model 5 (by decide) rfl rfl (List.mem_cons_of_mem _ a_472) d_Md_canBegin_36 ?_
        refine lv_iconst (v := 3) hx hb d_Md_canBegin_39 (by decide) ?_
        refine lv_iload_n hx hb d_Md_canBegin_40 rfl (lv_at hl 1 rfl) ?_
        refine lv_imul hx hb d_Md_canBegin_41 ?_
        refine lv_iload_n hx hb d_Md_canBegin_42 rfl (lv_at hl 3 rfl) ?_
        refine lv_iadd hx hb d_Md_canBegin_43 ?_
        obtain ⟨hi2, h⟩ := it_in h
        refine ly_iald fx hk hw (6) rfl hi2 d_Md_canBegin_44 ?_
        refine lv_topi (fun v4_3 ev => ?_)
        have h := nk_r ev h
        refine lv_istore (lv' := [(4, .int v4_3), (0, .ref (ad 0)), (1, .int v1), (2, .int v2), (3, .int v3)]) hx hb d_Md_canBegin_45 hl (by decide) rfl (fun ls hl => ?_)
        refine lv_iload hx hb d_Md_canBegin_47 (lv_at hl 0 rfl) ?_
        refine lv_if_eq (tgt := 68) hx hb d_Md_canBegin_49 (by decide) (fun hc => ?_) (fun hc => ?_)
        · have h := it_t hc h
          refine lv_iinc (lv' := [(3, .int (v3 + (1 : Int32))), (4, .int v4_3), (0, .ref (ad 0)), (1, .int v1), (2, .int v2)]) (k := 4) hx hb d_Md_canBegin_68 hl rfl (oi_p1 _) (by decide) rfl (fun ls hl => ?_)
          refine lv_goto (tgt := 12) hx hb d_Md_canBegin_71 (by decide) ?_
          exact ih (v3 + (1 : Int32)) u _ _ _ h (lv_sub hl [2, 3, 4, 0] rfl) hw
        · have h := it_f hc h
          refine lv_aload_n hx hb d_Md_canBegin_52 rfl (lv_at hl 1 rfl) ?_
          refine ly_getr fx hk hw (0) rfl rfl i_Model 25 (by decide) rfl rfl (List.mem_cons_of_mem _ a_492) d_Md_canBegin_53 ?_
          refine lv_iload_n hx hb d_Md_canBegin_56 rfl (lv_at hl 3 rfl) ?_
          obtain ⟨hi4, h⟩ := it_in h
          refine ly_iald fx hk hw (22) rfl hi4 d_Md_canBegin_57 ?_
          refine lv_iload hx hb d_Md_canBegin_58 (lv_at hl 0 rfl) ?_
          refine lv_iand hx hb d_Md_canBegin_60 ?_
          refine lv_iload hx hb d_Md_canBegin_61 (lv_at hl 0 rfl) ?_
          refine lv_icmp_ne (tgt := 68) hx hb d_Md_canBegin_63 (by decide) (fun hc => ?_) (fun hc => ?_)
          · have h := it_f hc h
            refine lv_iinc (lv' := [(3, .int (v3 + (1 : Int32))), (4, .int v4_3), (0, .ref (ad 0)), (1, .int v1), (2, .int v2)]) (k := 4) hx hb d_Md_canBegin_68 hl rfl (oi_p1 _) (by decide) rfl (fun ls hl => ?_)
            refine lv_goto (tgt := 12) hx hb d_Md_canBegin_71 (by decide) ?_
            exact ih (v3 + (1 : Int32)) u _ _ _ h (lv_sub hl [2, 3, 4, 0] rfl) hw
          · have h := it_t hc h
            refine lv_iconst (v := 1) hx hb d_Md_canBegin_66 (by decide) ?_
            exact ly_retz fx hr hlocks hk hw (Or.inr rfl) (Option.some.inj h) d_Md_canBegin_67
      · have h := it_t hc h
        refine lv_aload_n hx hb d_Md_canBegin_26 rfl (lv_at hl 0 rfl) ?_
        refine ly_getr fx hk hw (0) rfl rfl i_Model 3 (by decide) rfl rfl (List.mem_cons_of_mem _ a_470) d_Md_canBegin_27 ?_
        refine lv_iload_n hx hb d_Md_canBegin_30 rfl (lv_at hl 1 rfl) ?_
        obtain ⟨hi5, h⟩ := it_in h
        refine ly_iald fx hk hw (4) rfl hi5 d_Md_canBegin_31 ?_
        refine lv_goto (tgt := 45) hx hb d_Md_canBegin_32 (by decide) ?_
        refine lv_topi (fun v4_6 ev => ?_)
        have h := nk_r ev h
        refine lv_istore (lv' := [(4, .int v4_6), (0, .ref (ad 0)), (1, .int v1), (2, .int v2), (3, .int v3)]) hx hb d_Md_canBegin_45 hl (by decide) rfl (fun ls hl => ?_)
        refine lv_iload hx hb d_Md_canBegin_47 (lv_at hl 0 rfl) ?_
        refine lv_if_eq (tgt := 68) hx hb d_Md_canBegin_49 (by decide) (fun hc => ?_) (fun hc => ?_)
        · have h := it_t hc h
          refine lv_iinc (lv' := [(3, .int (v3 + (1 : Int32))), (4, .int v4_6), (0, .ref (ad 0)), (1, .int v1), (2, .int v2)]) (k := 4) hx hb d_Md_canBegin_68 hl rfl (oi_p1 _) (by decide) rfl (fun ls hl => ?_)
          refine lv_goto (tgt := 12) hx hb d_Md_canBegin_71 (by decide) ?_
          exact ih (v3 + (1 : Int32)) u _ _ _ h (lv_sub hl [2, 3, 4, 0] rfl) hw
        · have h := it_f hc h
          refine lv_aload_n hx hb d_Md_canBegin_52 rfl (lv_at hl 1 rfl) ?_
          refine ly_getr fx hk hw (0) rfl rfl i_Model 25 (by decide) rfl rfl (List.mem_cons_of_mem _ a_492) d_Md_canBegin_53 ?_
          refine lv_iload_n hx hb d_Md_canBegin_56 rfl (lv_at hl 3 rfl) ?_
          obtain ⟨hi7, h⟩ := it_in h
          refine ly_iald fx hk hw (22) rfl hi7 d_Md_canBegin_57 ?_
          refine lv_iload hx hb d_Md_canBegin_58 (lv_at hl 0 rfl) ?_
          refine lv_iand hx hb d_Md_canBegin_60 ?_
          refine lv_iload hx hb d_Md_canBegin_61 (lv_at hl 0 rfl) ?_
          refine lv_icmp_ne (tgt := 68) hx hb d_Md_canBegin_63 (by decide) (fun hc => ?_) (fun hc => ?_)
          · have h := it_f hc h
            refine lv_iinc (lv' := [(3, .int (v3 + (1 : Int32))), (4, .int v4_6), (0, .ref (ad 0)), (1, .int v1), (2, .int v2)]) (k := 4) hx hb d_Md_canBegin_68 hl rfl (oi_p1 _) (by decide) rfl (fun ls hl => ?_)
            refine lv_goto (tgt := 12) hx hb d_Md_canBegin_71 (by decide) ?_
            exact ih (v3 + (1 : Int32)) u _ _ _ h (lv_sub hl [2, 3, 4, 0] rfl) hw
          · have h := it_t hc h
            refine lv_iconst (v := 1) hx hb d_Md_canBegin_66 (by decide) ?_
            exact ly_retz fx hr hlocks hk hw (Or.inr rfl) (Option.some.inj h) d_Md_canBegin_67
set_option maxRecDepth 100000 in
set_option maxHeartbeats 4000000 in
theorem wl_Md_canBegin_2 {p : Program} {l : Launch} {e : Env} {s : State} {m : MethodId} {args : Array Value} {below : List Frame} {meth : Method} {c : Code} {D : va_G} {ad : Nat → Nat} {cA : Nat → ClassId} {A : Nat → Prop} (fx : CallFix p m c b_Md_canBegin 5 s args w_Md_canBegin y_Md_canBegin.cls) (hr : meth.sig.returnType = (some .boolean)) (hlocks : meth.locks = false) (hk : ly_K D clA layM cA s) (hA : ∀ q, s.heap.size ≤ q → A q) (hz : ZsM A s s.heap) (F : Nat) (v1 : Int32) {k2 : Int32 → St → Option (Int32 × St)} {res : Int32 × St}
    (hX2 : ∀ (v2 : Int32) (u : St) (H : Heap) (locs : List Loc) (ls : Array Slot), k2 v2 u = some res → lv_has ls 5 [(0, .ref (ad 0)), (1, .int v1), (2, .int v2)] → ly_G D clA layM ad cA A s.heap u H locs → W p l e { frames := 0, cells := 0, slots := 0, locals := 0 } s m args below meth c H locs 0 0 (MQ below (va_Qi (fun r1 u1 => (r1, u1) = res) (ly_B D clA layM ad cA A) A) args s 0 0 A) (F0 m 80 ls [])) :
    ∀ (n : Nat) (v2 : Int32) (u : St) (H : Heap) (locs : List Loc) (ls : Array Slot), lp_Md_canBegin_2 F v1 k2 n v2 u = some res → lv_has ls 5 [(0, .ref (ad 0)), (1, .int v1), (2, .int v2)] → ly_G D clA layM ad cA A s.heap u H locs → W p l e { frames := 0, cells := 0, slots := 0, locals := 0 } s m args below meth c H locs 0 0 (MQ below (va_Qi (fun r1 u1 => (r1, u1) = res) (ly_B D clA layM ad cA A) A) args s 0 0 A) (F0 m 2 ls []) := by
  have hx := fx.1
  have hb := fx.2.1
  intro n
  induction n with
  | zero => intro v2 u H locs ls h; exact nomatch h
  | succ n ih =>
    intro v2 u H locs ls h hl hw
    rw [lp_Md_canBegin_2] at h
    refine lv_iload_n hx hb d_Md_canBegin_2 rfl (lv_at hl 2 rfl) ?_
    refine lv_aload_n hx hb d_Md_canBegin_3 rfl (lv_at hl 0 rfl) ?_
    refine ly_get fx hk hw (0) rfl rfl i_Model 26 (by decide) rfl rfl (List.mem_cons_of_mem _ a_493) d_Md_canBegin_4 ?_
    refine lv_icmp_ge (tgt := 80) hx hb d_Md_canBegin_7 (by decide) (fun hc => ?_) (fun hc => ?_)
    · have h := it_t hc h
      exact hX2 v2 u _ _ _ h (lv_sub hl [0, 1, 2] rfl) hw
    · have h := it_f hc h
      refine lv_iconst (v := 0) hx hb d_Md_canBegin_10 (by decide) ?_
      refine lv_istore_n (lv' := [(3, .int (0 : Int32)), (0, .ref (ad 0)), (1, .int v1), (2, .int v2)]) hx hb d_Md_canBegin_11 rfl hl (by decide) rfl (fun ls hl => ?_)
      refine wl_Md_canBegin_12 fx hr hlocks hk hA hz F v1 v2 (fun v3_8 u9 H locs ls h hl hw => ?_) _ (0 : Int32) u _ _ _ h (lv_sub hl [1, 2, 3, 0] rfl) hw
      refine lv_iinc (lv' := [(2, .int (v2 + (1 : Int32))), (0, .ref (ad 0)), (1, .int v1), (3, .int v3_8)]) (k := 2) hx hb d_Md_canBegin_74 hl rfl (oi_p1 _) (by decide) rfl (fun ls hl => ?_)
      refine lv_goto (tgt := 2) hx hb d_Md_canBegin_77 (by decide) ?_
      exact ih (v2 + (1 : Int32)) u9 _ _ _ h (lv_sub hl [1, 2, 0] rfl) hw
set_option maxRecDepth 100000 in
set_option maxHeartbeats 4000000 in
theorem c_Md_canBegin (l : Launch) (F : Nat) (a1 : Int32) (u : St) (res : Int32 × St) (h : sp_Md_canBegin F a1 u = some res) : ly_Mi ZsM clA layM l y_Md_canBegin w_Md_canBegin { frames := 0, cells := 0, slots := 0, locals := 0 } (fun ad => [.ref (ad 0), .int a1]) u (fun r1 u1 => (r1, u1) = res) := by
  refine ly_enti (cc := b_Md_canBegin) (maxL := 5) (ret := (some .boolean)) (by decide) rfl (fun ad => Nat.le_of_ble_eq_true rfl) ?_
  intro p e s m below meth c D ad cA A ls fx hr hlocks hk hA hz hw hl
  have hl : lv_has ls 5 [(0, .ref (ad 0)), (1, .int a1)] := hl
  have hx := fx.1
  have hb := fx.2.1
  unfold sp_Md_canBegin at h
  refine lv_iconst (v := 0) hx hb d_Md_canBegin_0 (by decide) ?_
  refine lv_istore_n (lv' := [(2, .int (0 : Int32)), (0, .ref (ad 0)), (1, .int a1)]) hx hb d_Md_canBegin_1 rfl hl (by decide) rfl (fun ls hl => ?_)
  refine wl_Md_canBegin_2 fx hr hlocks hk hA hz F a1 (fun v2_10 u11 H locs ls h hl hw => ?_) _ (0 : Int32) u _ _ _ h (lv_sub hl [1, 2, 0] rfl) hw
  refine lv_iconst (v := 0) hx hb d_Md_canBegin_80 (by decide) ?_
  exact ly_retz fx hr hlocks hk hw (Or.inl rfl) (Option.some.inj h) d_Md_canBegin_81
set_option maxRecDepth 100000 in
set_option maxHeartbeats 4000000 in
theorem wl_Md_verdict_2 {p : Program} {l : Launch} {e : Env} {s : State} {m : MethodId} {args : Array Value} {below : List Frame} {meth : Method} {c : Code} {D : va_G} {ad : Nat → Nat} {cA : Nat → ClassId} {A : Nat → Prop} (fx : CallFix p m c b_Md_verdict 5 s args w_Md_verdict y_Md_verdict.cls) (hr : meth.sig.returnType = (some .int)) (hlocks : meth.locks = false) (hk : ly_K D clA layM cA s) (hA : ∀ q, s.heap.size ≤ q → A q) (hz : ZsM A s s.heap) (F : Nat) {k2 : Int32 → St → Option (Int32 × St)} {res : Int32 × St}
    (hX2 : ∀ (v1 : Int32) (u : St) (H : Heap) (locs : List Loc) (ls : Array Slot), k2 v1 u = some res → lv_has ls 5 [(0, .ref (ad 0)), (1, .int v1)] → ly_G D clA layM ad cA A s.heap u H locs → W p l e { frames := 4, cells := 0, slots := 0, locals := 99 } s m args below meth c H locs 0 0 (MQ below (va_Qi (fun r1 u1 => (r1, u1) = res) (ly_B D clA layM ad cA A) A) args s 0 0 A) (F0 m 35 ls [])) :
    ∀ (n : Nat) (v1 : Int32) (u : St) (H : Heap) (locs : List Loc) (ls : Array Slot), lp_Md_verdict_2 F k2 n v1 u = some res → lv_has ls 5 [(0, .ref (ad 0)), (1, .int v1)] → ly_G D clA layM ad cA A s.heap u H locs → W p l e { frames := 4, cells := 0, slots := 0, locals := 99 } s m args below meth c H locs 0 0 (MQ below (va_Qi (fun r1 u1 => (r1, u1) = res) (ly_B D clA layM ad cA A) A) args s 0 0 A) (F0 m 2 ls []) := by
  have hx := fx.1
  have hb := fx.2.1
  intro n
  induction n with
  | zero => intro v1 u H locs ls h; exact nomatch h
  | succ n ih =>
    intro v1 u H locs ls h hl hw
    rw [lp_Md_verdict_2] at h
    refine lv_iload_n hx hb d_Md_verdict_2 rfl (lv_at hl 1 rfl) ?_
    refine lv_bipush (v := 6) hx hb d_Md_verdict_3 (by decide) ?_
    refine lv_icmp_ge (tgt := 35) hx hb d_Md_verdict_5 (by decide) (fun hc => ?_) (fun hc => ?_)
    · have h := it_t hc h
      exact hX2 v1 u _ _ _ h (lv_sub hl [0, 1] rfl) hw
    · have h := it_f hc h
      refine lv_aload_n hx hb d_Md_verdict_8 rfl (lv_at hl 0 rfl) ?_
      refine ly_getr fx hk hw (0) rfl rfl i_Model 0 (by decide) rfl rfl (List.mem_cons_of_mem _ a_467) d_Md_verdict_9 ?_
      refine lv_iload_n hx hb d_Md_verdict_12 rfl (lv_at hl 1 rfl) ?_
      obtain ⟨hi1, h⟩ := it_in h
      refine ly_zald fx hk hw (1) rfl hi1 d_Md_verdict_13 ?_
      refine lv_if_eq (tgt := 29) hx hb d_Md_verdict_14 (by decide) (fun hc => ?_) (fun hc => ?_)
      · have h := it_t hc h
        refine lv_iinc (lv' := [(1, .int (v1 + (1 : Int32))), (0, .ref (ad 0))]) (k := 1) hx hb d_Md_verdict_29 hl rfl (oi_p1 _) (by decide) rfl (fun ls hl => ?_)
        refine lv_goto (tgt := 2) hx hb d_Md_verdict_32 (by decide) ?_
        exact ih (v1 + (1 : Int32)) u _ _ _ h (lv_sub hl [1, 0] rfl) hw
      · have h := it_f hc h
        refine lv_aload_n hx hb d_Md_verdict_17 rfl (lv_at hl 0 rfl) ?_
        refine ly_getr fx hk hw (0) rfl rfl i_Model 1 (by decide) rfl rfl (List.mem_cons_of_mem _ a_468) d_Md_verdict_18 ?_
        refine lv_iload_n hx hb d_Md_verdict_21 rfl (lv_at hl 1 rfl) ?_
        obtain ⟨hi2, h⟩ := it_in h
        refine ly_iald fx hk hw (2) rfl hi2 d_Md_verdict_22 ?_
        refine lv_iconst (v := 2) hx hb d_Md_verdict_23 (by decide) ?_
        refine lv_icmp_ne (tgt := 29) hx hb d_Md_verdict_24 (by decide) (fun hc => ?_) (fun hc => ?_)
        · have h := it_f hc h
          refine lv_iinc (lv' := [(1, .int (v1 + (1 : Int32))), (0, .ref (ad 0))]) (k := 1) hx hb d_Md_verdict_29 hl rfl (oi_p1 _) (by decide) rfl (fun ls hl => ?_)
          refine lv_goto (tgt := 2) hx hb d_Md_verdict_32 (by decide) ?_
          exact ih (v1 + (1 : Int32)) u _ _ _ h (lv_sub hl [1, 0] rfl) hw
        · have h := it_t hc h
          refine lv_iconst (v := -1) hx hb d_Md_verdict_27 (by decide) ?_
          exact ly_reti fx hr hlocks hk hw (Option.some.inj h) d_Md_verdict_28
set_option maxRecDepth 100000 in
set_option maxHeartbeats 4000000 in
theorem wl_Md_verdict_69 {p : Program} {l : Launch} {e : Env} {s : State} {m : MethodId} {args : Array Value} {below : List Frame} {meth : Method} {c : Code} {D : va_G} {ad : Nat → Nat} {cA : Nat → ClassId} {A : Nat → Prop} (fx : CallFix p m c b_Md_verdict 5 s args w_Md_verdict y_Md_verdict.cls) (hr : meth.sig.returnType = (some .int)) (hlocks : meth.locks = false) (hk : ly_K D clA layM cA s) (hA : ∀ q, s.heap.size ≤ q → A q) (hz : ZsM A s s.heap) (F : Nat) (v1 : Int32) (v3 : Int32) {k69 : Int32 → Int32 → St → Option (Int32 × St)} {res : Int32 × St}
    (hX69 : ∀ (v2 : Int32) (v4 : Int32) (u : St) (H : Heap) (locs : List Loc) (ls : Array Slot), k69 v2 v4 u = some res → lv_has ls 5 [(0, .ref (ad 0)), (1, .int v1), (2, .int v2), (3, .int v3), (4, .int v4)] → ly_G D clA layM ad cA A s.heap u H locs → W p l e { frames := 4, cells := 0, slots := 0, locals := 99 } s m args below meth c H locs 0 0 (MQ below (va_Qi (fun r1 u1 => (r1, u1) = res) (ly_B D clA layM ad cA A) A) args s 0 0 A) (F0 m 117 ls [])) :
    ∀ (n : Nat) (v2 : Int32) (v4 : Int32) (u : St) (H : Heap) (locs : List Loc) (ls : Array Slot), lp_Md_verdict_69 F v1 v3 k69 n v2 v4 u = some res → lv_has ls 5 [(0, .ref (ad 0)), (1, .int v1), (2, .int v2), (3, .int v3), (4, .int v4)] → ly_G D clA layM ad cA A s.heap u H locs → W p l e { frames := 4, cells := 0, slots := 0, locals := 99 } s m args below meth c H locs 0 0 (MQ below (va_Qi (fun r1 u1 => (r1, u1) = res) (ly_B D clA layM ad cA A) A) args s 0 0 A) (F0 m 69 ls []) := by
  have hx := fx.1
  have hb := fx.2.1
  intro n
  induction n with
  | zero => intro v2 v4 u H locs ls h; exact nomatch h
  | succ n ih =>
    intro v2 v4 u H locs ls h hl hw
    rw [lp_Md_verdict_69] at h
    refine lv_iload hx hb d_Md_verdict_69 (lv_at hl 4 rfl) ?_
    refine lv_aload_n hx hb d_Md_verdict_71 rfl (lv_at hl 0 rfl) ?_
    refine ly_get fx hk hw (0) rfl rfl i_Model 26 (by decide) rfl rfl (List.mem_cons_of_mem _ a_493) d_Md_verdict_72 ?_
    refine lv_icmp_ge (tgt := 117) hx hb d_Md_verdict_75 (by decide) (fun hc => ?_) (fun hc => ?_)
    · have h := it_t hc h
      exact hX69 v2 v4 u _ _ _ h (lv_sub hl [0, 1, 2, 3, 4] rfl) hw
    · have h := it_f hc h
      refine lv_iload_n hx hb d_Md_verdict_78 rfl (lv_at hl 2 rfl) ?_
      refine lv_if_eq (tgt := 109) hx hb d_Md_verdict_79 (by decide) (fun hc => ?_) (fun hc => ?_)
      · have h := it_t hc h
        refine lv_iconst (v := 0) hx hb d_Md_verdict_109 (by decide) ?_
        refine lv_istore_n (lv' := [(2, .int (0 : Int32)), (0, .ref (ad 0)), (1, .int v1), (3, .int v3), (4, .int v4)]) hx hb d_Md_verdict_110 rfl hl (by decide) rfl (fun ls hl => ?_)
        refine lv_iinc (lv' := [(4, .int (v4 + (1 : Int32))), (2, .int (0 : Int32)), (0, .ref (ad 0)), (1, .int v1), (3, .int v3)]) (k := 4) hx hb d_Md_verdict_111 hl rfl (oi_p1 _) (by decide) rfl (fun ls hl => ?_)
        refine lv_goto (tgt := 69) hx hb d_Md_verdict_114 (by decide) ?_
        exact ih (0 : Int32) (v4 + (1 : Int32)) u _ _ _ h (lv_sub hl [2, 3, 1, 4, 0] rfl) hw
      · have h := it_f hc h
        refine lv_aload_n hx hb d_Md_verdict_82 rfl (lv_at hl 0 rfl) ?_
        refine ly_getr fx hk hw (0) rfl rfl i_Model 25 (by decide) rfl rfl (List.mem_cons_of_mem _ a_492) d_Md_verdict_83 ?_
        refine lv_iload hx hb d_Md_verdict_86 (lv_at hl 4 rfl) ?_
        obtain ⟨hi11, h⟩ := it_in h
        refine ly_iald fx hk hw (22) rfl hi11 d_Md_verdict_88 ?_
        refine lv_iconst (v := 2) hx hb d_Md_verdict_89 (by decide) ?_
        refine lv_iand hx hb d_Md_verdict_90 ?_
        refine lv_if_eq (tgt := 105) hx hb d_Md_verdict_91 (by decide) (fun hc => ?_) (fun hc => ?_)
        · have h := it_t hc h
          refine lv_iconst (v := 1) hx hb d_Md_verdict_105 (by decide) ?_
          refine lv_goto (tgt := 110) hx hb d_Md_verdict_106 (by decide) ?_
          refine lv_istore_n (lv' := [(2, .int (1 : Int32)), (0, .ref (ad 0)), (1, .int v1), (3, .int v3), (4, .int v4)]) hx hb d_Md_verdict_110 rfl hl (by decide) rfl (fun ls hl => ?_)
          refine lv_iinc (lv' := [(4, .int (v4 + (1 : Int32))), (2, .int (1 : Int32)), (0, .ref (ad 0)), (1, .int v1), (3, .int v3)]) (k := 4) hx hb d_Md_verdict_111 hl rfl (oi_p1 _) (by decide) rfl (fun ls hl => ?_)
          refine lv_goto (tgt := 69) hx hb d_Md_verdict_114 (by decide) ?_
          exact ih (1 : Int32) (v4 + (1 : Int32)) u _ _ _ h (lv_sub hl [2, 3, 1, 4, 0] rfl) hw
        · have h := it_f hc h
          refine lv_aload_n hx hb d_Md_verdict_94 rfl (lv_at hl 0 rfl) ?_
          refine ly_getr fx hk hw (0) rfl rfl i_Model 25 (by decide) rfl rfl (List.mem_cons_of_mem _ a_492) d_Md_verdict_95 ?_
          refine lv_iload hx hb d_Md_verdict_98 (lv_at hl 4 rfl) ?_
          obtain ⟨hi12, h⟩ := it_in h
          refine ly_iald fx hk hw (22) rfl hi12 d_Md_verdict_100 ?_
          refine lv_iconst (v := 2) hx hb d_Md_verdict_101 (by decide) ?_
          refine lv_icmp_ne (tgt := 109) hx hb d_Md_verdict_102 (by decide) (fun hc => ?_) (fun hc => ?_)
          · have h := it_f hc h
            refine lv_iconst (v := 0) hx hb d_Md_verdict_109 (by decide) ?_
            refine lv_istore_n (lv' := [(2, .int (0 : Int32)), (0, .ref (ad 0)), (1, .int v1), (3, .int v3), (4, .int v4)]) hx hb d_Md_verdict_110 rfl hl (by decide) rfl (fun ls hl => ?_)
            refine lv_iinc (lv' := [(4, .int (v4 + (1 : Int32))), (2, .int (0 : Int32)), (0, .ref (ad 0)), (1, .int v1), (3, .int v3)]) (k := 4) hx hb d_Md_verdict_111 hl rfl (oi_p1 _) (by decide) rfl (fun ls hl => ?_)
            refine lv_goto (tgt := 69) hx hb d_Md_verdict_114 (by decide) ?_
            exact ih (0 : Int32) (v4 + (1 : Int32)) u _ _ _ h (lv_sub hl [2, 3, 1, 4, 0] rfl) hw
          · have h := it_t hc h
            refine lv_iconst (v := 1) hx hb d_Md_verdict_105 (by decide) ?_
            refine lv_goto (tgt := 110) hx hb d_Md_verdict_106 (by decide) ?_
            refine lv_istore_n (lv' := [(2, .int (1 : Int32)), (0, .ref (ad 0)), (1, .int v1), (3, .int v3), (4, .int v4)]) hx hb d_Md_verdict_110 rfl hl (by decide) rfl (fun ls hl => ?_)
            refine lv_iinc (lv' := [(4, .int (v4 + (1 : Int32))), (2, .int (1 : Int32)), (0, .ref (ad 0)), (1, .int v1), (3, .int v3)]) (k := 4) hx hb d_Md_verdict_111 hl rfl (oi_p1 _) (by decide) rfl (fun ls hl => ?_)
            refine lv_goto (tgt := 69) hx hb d_Md_verdict_114 (by decide) ?_
            exact ih (1 : Int32) (v4 + (1 : Int32)) u _ _ _ h (lv_sub hl [2, 3, 1, 4, 0] rfl) hw
set_option maxRecDepth 100000 in
set_option maxHeartbeats 4000000 in
theorem wl_Md_verdict_120 {p : Program} {l : Launch} {e : Env} {s : State} {m : MethodId} {args : Array Value} {below : List Frame} {meth : Method} {c : Code} {D : va_G} {ad : Nat → Nat} {cA : Nat → ClassId} {A : Nat → Prop} (fx : CallFix p m c b_Md_verdict 5 s args w_Md_verdict y_Md_verdict.cls) (hr : meth.sig.returnType = (some .int)) (hlocks : meth.locks = false) (hk : ly_K D clA layM cA s) (hA : ∀ q, s.heap.size ≤ q → A q) (hz : ZsM A s s.heap) (F : Nat) (v1 : Int32) (v2 : Int32) {k120 : Int32 → Int32 → St → Option (Int32 × St)} {res : Int32 × St}
    (hX120 : ∀ (v3 : Int32) (v4 : Int32) (u : St) (H : Heap) (locs : List Loc) (ls : Array Slot), k120 v3 v4 u = some res → lv_has ls 5 [(0, .ref (ad 0)), (1, .int v1), (2, .int v2), (3, .int v3), (4, .int v4)] → ly_G D clA layM ad cA A s.heap u H locs → W p l e { frames := 4, cells := 0, slots := 0, locals := 99 } s m args below meth c H locs 0 0 (MQ below (va_Qi (fun r1 u1 => (r1, u1) = res) (ly_B D clA layM ad cA A) A) args s 0 0 A) (F0 m 162 ls [])) :
    ∀ (n : Nat) (v3 : Int32) (v4 : Int32) (u : St) (H : Heap) (locs : List Loc) (ls : Array Slot), lp_Md_verdict_120 F v1 v2 k120 n v3 v4 u = some res → lv_has ls 5 [(0, .ref (ad 0)), (1, .int v1), (2, .int v2), (3, .int v3), (4, .int v4)] → ly_G D clA layM ad cA A s.heap u H locs → W p l e { frames := 4, cells := 0, slots := 0, locals := 99 } s m args below meth c H locs 0 0 (MQ below (va_Qi (fun r1 u1 => (r1, u1) = res) (ly_B D clA layM ad cA A) A) args s 0 0 A) (F0 m 120 ls []) := by
  have hx := fx.1
  have hb := fx.2.1
  intro n
  induction n with
  | zero => intro v3 v4 u H locs ls h; exact nomatch h
  | succ n ih =>
    intro v3 v4 u H locs ls h hl hw
    rw [lp_Md_verdict_120] at h
    refine lv_iload hx hb d_Md_verdict_120 (lv_at hl 4 rfl) ?_
    refine lv_bipush (v := 6) hx hb d_Md_verdict_122 (by decide) ?_
    refine lv_icmp_ge (tgt := 162) hx hb d_Md_verdict_124 (by decide) (fun hc => ?_) (fun hc => ?_)
    · have h := it_t hc h
      exact hX120 v3 v4 u _ _ _ h (lv_sub hl [0, 1, 2, 3, 4] rfl) hw
    · have h := it_f hc h
      refine lv_iload_n hx hb d_Md_verdict_127 rfl (lv_at hl 3 rfl) ?_
      refine lv_if_eq (tgt := 154) hx hb d_Md_verdict_128 (by decide) (fun hc => ?_) (fun hc => ?_)
      · have h := it_t hc h
        refine lv_iconst (v := 0) hx hb d_Md_verdict_154 (by decide) ?_
        refine lv_istore_n (lv' := [(3, .int (0 : Int32)), (0, .ref (ad 0)), (1, .int v1), (2, .int v2), (4, .int v4)]) hx hb d_Md_verdict_155 rfl hl (by decide) rfl (fun ls hl => ?_)
        refine lv_iinc (lv' := [(4, .int (v4 + (1 : Int32))), (3, .int (0 : Int32)), (0, .ref (ad 0)), (1, .int v1), (2, .int v2)]) (k := 4) hx hb d_Md_verdict_156 hl rfl (oi_p1 _) (by decide) rfl (fun ls hl => ?_)
        refine lv_goto (tgt := 120) hx hb d_Md_verdict_159 (by decide) ?_
        exact ih (0 : Int32) (v4 + (1 : Int32)) u _ _ _ h (lv_sub hl [2, 3, 4, 1, 0] rfl) hw
      · have h := it_f hc h
        refine lv_aload_n hx hb d_Md_verdict_131 rfl (lv_at hl 0 rfl) ?_
        refine ly_getr fx hk hw (0) rfl rfl i_Model 0 (by decide) rfl rfl (List.mem_cons_of_mem _ a_467) d_Md_verdict_132 ?_
        refine lv_iload hx hb d_Md_verdict_135 (lv_at hl 4 rfl) ?_
        obtain ⟨hi16, h⟩ := it_in h
        refine ly_zald fx hk hw (1) rfl hi16 d_Md_verdict_137 ?_
        refine lv_if_eq (tgt := 150) hx hb d_Md_verdict_138 (by decide) (fun hc => ?_) (fun hc => ?_)
        · have h := it_t hc h
          refine lv_iconst (v := 1) hx hb d_Md_verdict_150 (by decide) ?_
          refine lv_goto (tgt := 155) hx hb d_Md_verdict_151 (by decide) ?_
          refine lv_istore_n (lv' := [(3, .int (1 : Int32)), (0, .ref (ad 0)), (1, .int v1), (2, .int v2), (4, .int v4)]) hx hb d_Md_verdict_155 rfl hl (by decide) rfl (fun ls hl => ?_)
          refine lv_iinc (lv' := [(4, .int (v4 + (1 : Int32))), (3, .int (1 : Int32)), (0, .ref (ad 0)), (1, .int v1), (2, .int v2)]) (k := 4) hx hb d_Md_verdict_156 hl rfl (oi_p1 _) (by decide) rfl (fun ls hl => ?_)
          refine lv_goto (tgt := 120) hx hb d_Md_verdict_159 (by decide) ?_
          exact ih (1 : Int32) (v4 + (1 : Int32)) u _ _ _ h (lv_sub hl [2, 3, 4, 1, 0] rfl) hw
        · have h := it_f hc h
          refine lv_aload_n hx hb d_Md_verdict_141 rfl (lv_at hl 0 rfl) ?_
          refine lv_iload hx hb d_Md_verdict_142 (lv_at hl 4 rfl) ?_
          obtain ⟨r17, u18, hq19, h⟩ := ck_r h
          refine ly_callVi (As := [.int v4]) (rest := []) ZsM_ok fx hk hz hA hw (c_Md_canBegin l F v4 u _ hq19) (cw_V fx.2.2.2.2 a_692 a_694 as_33 a_6 ac_Md_canBegin rfl rfl rfl hd_Md_canBegin ⟨Nat.le_of_ble_eq_true rfl, Nat.le_of_ble_eq_true rfl⟩) (0) rfl rfl rfl rfl hl.1 rfl (Nat.le_of_ble_eq_true rfl) d_Md_verdict_144 (Nat.zero_le _) (Nat.zero_le _) (fun r' u' H locs hp hw => ?_)
          cases hp
          refine lv_if_eq (tgt := 154) hx hb d_Md_verdict_147 (by decide) (fun hc => ?_) (fun hc => ?_)
          · have h := it_t hc h
            refine lv_iconst (v := 0) hx hb d_Md_verdict_154 (by decide) ?_
            refine lv_istore_n (lv' := [(3, .int (0 : Int32)), (0, .ref (ad 0)), (1, .int v1), (2, .int v2), (4, .int v4)]) hx hb d_Md_verdict_155 rfl hl (by decide) rfl (fun ls hl => ?_)
            refine lv_iinc (lv' := [(4, .int (v4 + (1 : Int32))), (3, .int (0 : Int32)), (0, .ref (ad 0)), (1, .int v1), (2, .int v2)]) (k := 4) hx hb d_Md_verdict_156 hl rfl (oi_p1 _) (by decide) rfl (fun ls hl => ?_)
            refine lv_goto (tgt := 120) hx hb d_Md_verdict_159 (by decide) ?_
            exact ih (0 : Int32) (v4 + (1 : Int32)) u18 _ _ _ h (lv_sub hl [2, 3, 4, 1, 0] rfl) hw
          · have h := it_f hc h
            refine lv_iconst (v := 1) hx hb d_Md_verdict_150 (by decide) ?_
            refine lv_goto (tgt := 155) hx hb d_Md_verdict_151 (by decide) ?_
            refine lv_istore_n (lv' := [(3, .int (1 : Int32)), (0, .ref (ad 0)), (1, .int v1), (2, .int v2), (4, .int v4)]) hx hb d_Md_verdict_155 rfl hl (by decide) rfl (fun ls hl => ?_)
            refine lv_iinc (lv' := [(4, .int (v4 + (1 : Int32))), (3, .int (1 : Int32)), (0, .ref (ad 0)), (1, .int v1), (2, .int v2)]) (k := 4) hx hb d_Md_verdict_156 hl rfl (oi_p1 _) (by decide) rfl (fun ls hl => ?_)
            refine lv_goto (tgt := 120) hx hb d_Md_verdict_159 (by decide) ?_
            exact ih (1 : Int32) (v4 + (1 : Int32)) u18 _ _ _ h (lv_sub hl [2, 3, 4, 1, 0] rfl) hw
set_option maxRecDepth 100000 in
set_option maxHeartbeats 4000000 in
theorem c_Md_verdict (l : Launch) (F : Nat) (u : St) (res : Int32 × St) (h : sp_Md_verdict F u = some res) : ly_Mi ZsM clA layM l y_Md_verdict w_Md_verdict { frames := 4, cells := 0, slots := 0, locals := 99 } (fun ad => [.ref (ad 0)]) u (fun r1 u1 => (r1, u1) = res) := by
  refine ly_enti (cc := b_Md_verdict) (maxL := 5) (ret := (some .int)) (by decide) rfl (fun ad => Nat.le_of_ble_eq_true rfl) ?_
  intro p e s m below meth c D ad cA A ls fx hr hlocks hk hA hz hw hl
  have hl : lv_has ls 5 [(0, .ref (ad 0))] := hl
  have hx := fx.1
  have hb := fx.2.1
  unfold sp_Md_verdict at h
  refine lv_iconst (v := 0) hx hb d_Md_verdict_0 (by decide) ?_
  refine lv_istore_n (lv' := [(1, .int (0 : Int32)), (0, .ref (ad 0))]) hx hb d_Md_verdict_1 rfl hl (by decide) rfl (fun ls hl => ?_)
  refine wl_Md_verdict_2 fx hr hlocks hk hA hz F (fun v1_3 u4 H locs ls h hl hw => ?_) _ (0 : Int32) u _ _ _ h (lv_sub hl [1, 0] rfl) hw
  refine lv_aload_n hx hb d_Md_verdict_35 rfl (lv_at hl 0 rfl) ?_
  obtain ⟨r5, u6, hq7, h⟩ := ck_r h
  refine ly_callVi (As := []) (rest := []) ZsM_ok fx hk hz hA hw (c_Md_isAny l F u4 _ hq7) (cw_V fx.2.2.2.2 a_608 a_610 as_24 a_6 ac_Md_isAny rfl rfl rfl hd_Md_isAny ⟨Nat.le_of_ble_eq_true rfl, Nat.le_of_ble_eq_true rfl⟩) (0) rfl rfl rfl rfl hl.1 rfl (Nat.le_of_ble_eq_true rfl) d_Md_verdict_36 (Nat.zero_le _) (Nat.zero_le _) (fun r' u' H locs hp hw => ?_)
  cases hp
  refine lv_if_ne (tgt := 44) hx hb d_Md_verdict_39 (by decide) (fun hc => ?_) (fun hc => ?_)
  · have h := it_f hc h
    refine lv_aload_n hx hb d_Md_verdict_44 rfl (lv_at hl 0 rfl) ?_
    refine lv_iconst (v := 1) hx hb d_Md_verdict_45 (by decide) ?_
    refine lv_sipush (v := 16384) hx hb d_Md_verdict_46 (by decide) ?_
    refine lv_iconst (v := -1) hx hb d_Md_verdict_49 (by decide) ?_
    obtain ⟨r8, u9, hq10, h⟩ := ck_r h
    refine ly_callVi (As := [.int (1 : Int32), .int (16384 : Int32), .int (-1 : Int32)]) (rest := []) ZsM_ok fx hk hz hA hw (c_Md_search l F (1 : Int32) (16384 : Int32) (-1 : Int32) u6 _ hq10) (cw_V fx.2.2.2.2 a_588 a_590 as_20 a_6 ac_Md_search rfl rfl rfl hd_Md_search ⟨Nat.le_of_ble_eq_true rfl, Nat.le_of_ble_eq_true rfl⟩) (0) rfl rfl rfl rfl hl.1 rfl (Nat.le_of_ble_eq_true rfl) d_Md_verdict_50 (Nat.zero_le _) (Nat.zero_le _) (fun r' u' H locs hp hw => ?_)
    cases hp
    refine lv_istore_n (lv' := [(1, .int r8), (0, .ref (ad 0))]) hx hb d_Md_verdict_53 rfl hl (by decide) rfl (fun ls hl => ?_)
    refine lv_iload_n hx hb d_Md_verdict_54 rfl (lv_at hl 0 rfl) ?_
    refine lv_if_ne (tgt := 62) hx hb d_Md_verdict_55 (by decide) (fun hc => ?_) (fun hc => ?_)
    · have h := it_f hc h
      refine lv_iconst (v := 0) hx hb d_Md_verdict_62 (by decide) ?_
      refine lv_istore_n (lv' := [(2, .int (0 : Int32)), (1, .int r8), (0, .ref (ad 0))]) hx hb d_Md_verdict_63 rfl hl (by decide) rfl (fun ls hl => ?_)
      refine lv_iconst (v := 1) hx hb d_Md_verdict_64 (by decide) ?_
      refine lv_istore_n (lv' := [(3, .int (1 : Int32)), (2, .int (0 : Int32)), (1, .int r8), (0, .ref (ad 0))]) hx hb d_Md_verdict_65 rfl hl (by decide) rfl (fun ls hl => ?_)
      refine lv_iconst (v := 0) hx hb d_Md_verdict_66 (by decide) ?_
      refine lv_istore (lv' := [(4, .int (0 : Int32)), (3, .int (1 : Int32)), (2, .int (0 : Int32)), (1, .int r8), (0, .ref (ad 0))]) hx hb d_Md_verdict_67 hl (by decide) rfl (fun ls hl => ?_)
      refine wl_Md_verdict_69 fx hr hlocks hk hA hz F r8 (1 : Int32) (fun v2_13 v4_14 u15 H locs ls h hl hw => ?_) _ (0 : Int32) (0 : Int32) u9 _ _ _ h (lv_sub hl [4, 3, 2, 1, 0] rfl) hw
      refine lv_iconst (v := 0) hx hb d_Md_verdict_117 (by decide) ?_
      refine lv_istore (lv' := [(4, .int (0 : Int32)), (0, .ref (ad 0)), (1, .int r8), (2, .int v2_13), (3, .int (1 : Int32))]) hx hb d_Md_verdict_118 hl (by decide) rfl (fun ls hl => ?_)
      refine wl_Md_verdict_120 fx hr hlocks hk hA hz F r8 v2_13 (fun v3_20 v4_21 u22 H locs ls h hl hw => ?_) _ (1 : Int32) (0 : Int32) u15 _ _ _ h (lv_sub hl [1, 2, 3, 4, 0] rfl) hw
      refine lv_aload_n hx hb d_Md_verdict_162 rfl (lv_at hl 0 rfl) ?_
      obtain ⟨r23, u24, hq25, h⟩ := ck_r h
      refine ly_callVi (As := []) (rest := []) ZsM_ok fx hk hz hA hw (c_Md_allEnd l F u22 _ hq25) (cw_V fx.2.2.2.2 a_696 a_698 as_34 a_6 ac_Md_allEnd rfl rfl rfl hd_Md_allEnd ⟨Nat.le_of_ble_eq_true rfl, Nat.le_of_ble_eq_true rfl⟩) (0) rfl rfl rfl rfl hl.1 rfl (Nat.le_of_ble_eq_true rfl) d_Md_verdict_163 (Nat.zero_le _) (Nat.zero_le _) (fun r' u' H locs hp hw => ?_)
      cases hp
      refine lv_istore (lv' := [(4, .int r23), (0, .ref (ad 0)), (1, .int r8), (2, .int v2_13), (3, .int v3_20)]) hx hb d_Md_verdict_166 hl (by decide) rfl (fun ls hl => ?_)
      refine lv_iload hx hb d_Md_verdict_168 (lv_at hl 0 rfl) ?_
      refine lv_if_eq (tgt := 177) hx hb d_Md_verdict_170 (by decide) (fun hc => ?_) (fun hc => ?_)
      · have h := it_t hc h
        refine lv_iconst (v := 0) hx hb d_Md_verdict_177 (by decide) ?_
        refine lv_iload_n hx hb d_Md_verdict_178 rfl (lv_at hl 3 rfl) ?_
        refine lv_if_eq (tgt := 186) hx hb d_Md_verdict_179 (by decide) (fun hc => ?_) (fun hc => ?_)
        · have h := it_t hc h
          refine lv_iconst (v := 0) hx hb d_Md_verdict_186 (by decide) ?_
          refine lv_iadd hx hb d_Md_verdict_187 ?_
          refine lv_iload_n hx hb d_Md_verdict_188 rfl (lv_at hl 4 rfl) ?_
          refine lv_if_eq (tgt := 196) hx hb d_Md_verdict_189 (by decide) (fun hc => ?_) (fun hc => ?_)
          · have h := it_t hc h
            refine lv_iconst (v := 0) hx hb d_Md_verdict_196 (by decide) ?_
            refine lv_iadd hx hb d_Md_verdict_197 ?_
            exact ly_reti fx hr hlocks hk hw (Option.some.inj h) d_Md_verdict_198
          · have h := it_f hc h
            refine lv_iconst (v := 4) hx hb d_Md_verdict_192 (by decide) ?_
            refine lv_goto (tgt := 197) hx hb d_Md_verdict_193 (by decide) ?_
            refine lv_iadd hx hb d_Md_verdict_197 ?_
            exact ly_reti fx hr hlocks hk hw (Option.some.inj h) d_Md_verdict_198
        · have h := it_f hc h
          refine lv_iconst (v := 2) hx hb d_Md_verdict_182 (by decide) ?_
          refine lv_goto (tgt := 187) hx hb d_Md_verdict_183 (by decide) ?_
          refine lv_iadd hx hb d_Md_verdict_187 ?_
          refine lv_iload_n hx hb d_Md_verdict_188 rfl (lv_at hl 4 rfl) ?_
          refine lv_if_eq (tgt := 196) hx hb d_Md_verdict_189 (by decide) (fun hc => ?_) (fun hc => ?_)
          · have h := it_t hc h
            refine lv_iconst (v := 0) hx hb d_Md_verdict_196 (by decide) ?_
            refine lv_iadd hx hb d_Md_verdict_197 ?_
            exact ly_reti fx hr hlocks hk hw (Option.some.inj h) d_Md_verdict_198
          · have h := it_f hc h
            refine lv_iconst (v := 4) hx hb d_Md_verdict_192 (by decide) ?_
            refine lv_goto (tgt := 197) hx hb d_Md_verdict_193 (by decide) ?_
            refine lv_iadd hx hb d_Md_verdict_197 ?_
            exact ly_reti fx hr hlocks hk hw (Option.some.inj h) d_Md_verdict_198
      · have h := it_f hc h
        refine lv_iconst (v := 1) hx hb d_Md_verdict_173 (by decide) ?_
        refine lv_goto (tgt := 178) hx hb d_Md_verdict_174 (by decide) ?_
        refine lv_iload_n hx hb d_Md_verdict_178 rfl (lv_at hl 3 rfl) ?_
        refine lv_if_eq (tgt := 186) hx hb d_Md_verdict_179 (by decide) (fun hc => ?_) (fun hc => ?_)
        · have h := it_t hc h
          refine lv_iconst (v := 0) hx hb d_Md_verdict_186 (by decide) ?_
          refine lv_iadd hx hb d_Md_verdict_187 ?_
          refine lv_iload_n hx hb d_Md_verdict_188 rfl (lv_at hl 4 rfl) ?_
          refine lv_if_eq (tgt := 196) hx hb d_Md_verdict_189 (by decide) (fun hc => ?_) (fun hc => ?_)
          · have h := it_t hc h
            refine lv_iconst (v := 0) hx hb d_Md_verdict_196 (by decide) ?_
            refine lv_iadd hx hb d_Md_verdict_197 ?_
            exact ly_reti fx hr hlocks hk hw (Option.some.inj h) d_Md_verdict_198
          · have h := it_f hc h
            refine lv_iconst (v := 4) hx hb d_Md_verdict_192 (by decide) ?_
            refine lv_goto (tgt := 197) hx hb d_Md_verdict_193 (by decide) ?_
            refine lv_iadd hx hb d_Md_verdict_197 ?_
            exact ly_reti fx hr hlocks hk hw (Option.some.inj h) d_Md_verdict_198
        · have h := it_f hc h
          refine lv_iconst (v := 2) hx hb d_Md_verdict_182 (by decide) ?_
          refine lv_goto (tgt := 187) hx hb d_Md_verdict_183 (by decide) ?_
          refine lv_iadd hx hb d_Md_verdict_187 ?_
          refine lv_iload_n hx hb d_Md_verdict_188 rfl (lv_at hl 4 rfl) ?_
          refine lv_if_eq (tgt := 196) hx hb d_Md_verdict_189 (by decide) (fun hc => ?_) (fun hc => ?_)
          · have h := it_t hc h
            refine lv_iconst (v := 0) hx hb d_Md_verdict_196 (by decide) ?_
            refine lv_iadd hx hb d_Md_verdict_197 ?_
            exact ly_reti fx hr hlocks hk hw (Option.some.inj h) d_Md_verdict_198
          · have h := it_f hc h
            refine lv_iconst (v := 4) hx hb d_Md_verdict_192 (by decide) ?_
            refine lv_goto (tgt := 197) hx hb d_Md_verdict_193 (by decide) ?_
            refine lv_iadd hx hb d_Md_verdict_197 ?_
            exact ly_reti fx hr hlocks hk hw (Option.some.inj h) d_Md_verdict_198
    · have h := it_t hc h
      refine lv_iconst (v := 1) hx hb d_Md_verdict_58 (by decide) ?_
      refine lv_goto (tgt := 63) hx hb d_Md_verdict_59 (by decide) ?_
      refine lv_istore_n (lv' := [(2, .int (1 : Int32)), (1, .int r8), (0, .ref (ad 0))]) hx hb d_Md_verdict_63 rfl hl (by decide) rfl (fun ls hl => ?_)
      refine lv_iconst (v := 1) hx hb d_Md_verdict_64 (by decide) ?_
      refine lv_istore_n (lv' := [(3, .int (1 : Int32)), (2, .int (1 : Int32)), (1, .int r8), (0, .ref (ad 0))]) hx hb d_Md_verdict_65 rfl hl (by decide) rfl (fun ls hl => ?_)
      refine lv_iconst (v := 0) hx hb d_Md_verdict_66 (by decide) ?_
      refine lv_istore (lv' := [(4, .int (0 : Int32)), (3, .int (1 : Int32)), (2, .int (1 : Int32)), (1, .int r8), (0, .ref (ad 0))]) hx hb d_Md_verdict_67 hl (by decide) rfl (fun ls hl => ?_)
      refine wl_Md_verdict_69 fx hr hlocks hk hA hz F r8 (1 : Int32) (fun v2_26 v4_27 u28 H locs ls h hl hw => ?_) _ (1 : Int32) (0 : Int32) u9 _ _ _ h (lv_sub hl [4, 3, 2, 1, 0] rfl) hw
      refine lv_iconst (v := 0) hx hb d_Md_verdict_117 (by decide) ?_
      refine lv_istore (lv' := [(4, .int (0 : Int32)), (0, .ref (ad 0)), (1, .int r8), (2, .int v2_26), (3, .int (1 : Int32))]) hx hb d_Md_verdict_118 hl (by decide) rfl (fun ls hl => ?_)
      refine wl_Md_verdict_120 fx hr hlocks hk hA hz F r8 v2_26 (fun v3_29 v4_30 u31 H locs ls h hl hw => ?_) _ (1 : Int32) (0 : Int32) u28 _ _ _ h (lv_sub hl [1, 2, 3, 4, 0] rfl) hw
      refine lv_aload_n hx hb d_Md_verdict_162 rfl (lv_at hl 0 rfl) ?_
      obtain ⟨r32, u33, hq34, h⟩ := ck_r h
      refine ly_callVi (As := []) (rest := []) ZsM_ok fx hk hz hA hw (c_Md_allEnd l F u31 _ hq34) (cw_V fx.2.2.2.2 a_696 a_698 as_34 a_6 ac_Md_allEnd rfl rfl rfl hd_Md_allEnd ⟨Nat.le_of_ble_eq_true rfl, Nat.le_of_ble_eq_true rfl⟩) (0) rfl rfl rfl rfl hl.1 rfl (Nat.le_of_ble_eq_true rfl) d_Md_verdict_163 (Nat.zero_le _) (Nat.zero_le _) (fun r' u' H locs hp hw => ?_)
      cases hp
      refine lv_istore (lv' := [(4, .int r32), (0, .ref (ad 0)), (1, .int r8), (2, .int v2_26), (3, .int v3_29)]) hx hb d_Md_verdict_166 hl (by decide) rfl (fun ls hl => ?_)
      refine lv_iload hx hb d_Md_verdict_168 (lv_at hl 0 rfl) ?_
      refine lv_if_eq (tgt := 177) hx hb d_Md_verdict_170 (by decide) (fun hc => ?_) (fun hc => ?_)
      · have h := it_t hc h
        refine lv_iconst (v := 0) hx hb d_Md_verdict_177 (by decide) ?_
        refine lv_iload_n hx hb d_Md_verdict_178 rfl (lv_at hl 3 rfl) ?_
        refine lv_if_eq (tgt := 186) hx hb d_Md_verdict_179 (by decide) (fun hc => ?_) (fun hc => ?_)
        · have h := it_t hc h
          refine lv_iconst (v := 0) hx hb d_Md_verdict_186 (by decide) ?_
          refine lv_iadd hx hb d_Md_verdict_187 ?_
          refine lv_iload_n hx hb d_Md_verdict_188 rfl (lv_at hl 4 rfl) ?_
          refine lv_if_eq (tgt := 196) hx hb d_Md_verdict_189 (by decide) (fun hc => ?_) (fun hc => ?_)
          · have h := it_t hc h
            refine lv_iconst (v := 0) hx hb d_Md_verdict_196 (by decide) ?_
            refine lv_iadd hx hb d_Md_verdict_197 ?_
            exact ly_reti fx hr hlocks hk hw (Option.some.inj h) d_Md_verdict_198
          · have h := it_f hc h
            refine lv_iconst (v := 4) hx hb d_Md_verdict_192 (by decide) ?_
            refine lv_goto (tgt := 197) hx hb d_Md_verdict_193 (by decide) ?_
            refine lv_iadd hx hb d_Md_verdict_197 ?_
            exact ly_reti fx hr hlocks hk hw (Option.some.inj h) d_Md_verdict_198
        · have h := it_f hc h
          refine lv_iconst (v := 2) hx hb d_Md_verdict_182 (by decide) ?_
          refine lv_goto (tgt := 187) hx hb d_Md_verdict_183 (by decide) ?_
          refine lv_iadd hx hb d_Md_verdict_187 ?_
          refine lv_iload_n hx hb d_Md_verdict_188 rfl (lv_at hl 4 rfl) ?_
          refine lv_if_eq (tgt := 196) hx hb d_Md_verdict_189 (by decide) (fun hc => ?_) (fun hc => ?_)
          · have h := it_t hc h
            refine lv_iconst (v := 0) hx hb d_Md_verdict_196 (by decide) ?_
            refine lv_iadd hx hb d_Md_verdict_197 ?_
            exact ly_reti fx hr hlocks hk hw (Option.some.inj h) d_Md_verdict_198
          · have h := it_f hc h
            refine lv_iconst (v := 4) hx hb d_Md_verdict_192 (by decide) ?_
            refine lv_goto (tgt := 197) hx hb d_Md_verdict_193 (by decide) ?_
            refine lv_iadd hx hb d_Md_verdict_197 ?_
            exact ly_reti fx hr hlocks hk hw (Option.some.inj h) d_Md_verdict_198
      · have h := it_f hc h
        refine lv_iconst (v := 1) hx hb d_Md_verdict_173 (by decide) ?_
        refine lv_goto (tgt := 178) hx hb d_Md_verdict_174 (by decide) ?_
        refine lv_iload_n hx hb d_Md_verdict_178 rfl (lv_at hl 3 rfl) ?_
        refine lv_if_eq (tgt := 186) hx hb d_Md_verdict_179 (by decide) (fun hc => ?_) (fun hc => ?_)
        · have h := it_t hc h
          refine lv_iconst (v := 0) hx hb d_Md_verdict_186 (by decide) ?_
          refine lv_iadd hx hb d_Md_verdict_187 ?_
          refine lv_iload_n hx hb d_Md_verdict_188 rfl (lv_at hl 4 rfl) ?_
          refine lv_if_eq (tgt := 196) hx hb d_Md_verdict_189 (by decide) (fun hc => ?_) (fun hc => ?_)
          · have h := it_t hc h
            refine lv_iconst (v := 0) hx hb d_Md_verdict_196 (by decide) ?_
            refine lv_iadd hx hb d_Md_verdict_197 ?_
            exact ly_reti fx hr hlocks hk hw (Option.some.inj h) d_Md_verdict_198
          · have h := it_f hc h
            refine lv_iconst (v := 4) hx hb d_Md_verdict_192 (by decide) ?_
            refine lv_goto (tgt := 197) hx hb d_Md_verdict_193 (by decide) ?_
            refine lv_iadd hx hb d_Md_verdict_197 ?_
            exact ly_reti fx hr hlocks hk hw (Option.some.inj h) d_Md_verdict_198
        · have h := it_f hc h
          refine lv_iconst (v := 2) hx hb d_Md_verdict_182 (by decide) ?_
          refine lv_goto (tgt := 187) hx hb d_Md_verdict_183 (by decide) ?_
          refine lv_iadd hx hb d_Md_verdict_187 ?_
          refine lv_iload_n hx hb d_Md_verdict_188 rfl (lv_at hl 4 rfl) ?_
          refine lv_if_eq (tgt := 196) hx hb d_Md_verdict_189 (by decide) (fun hc => ?_) (fun hc => ?_)
          · have h := it_t hc h
            refine lv_iconst (v := 0) hx hb d_Md_verdict_196 (by decide) ?_
            refine lv_iadd hx hb d_Md_verdict_197 ?_
            exact ly_reti fx hr hlocks hk hw (Option.some.inj h) d_Md_verdict_198
          · have h := it_f hc h
            refine lv_iconst (v := 4) hx hb d_Md_verdict_192 (by decide) ?_
            refine lv_goto (tgt := 197) hx hb d_Md_verdict_193 (by decide) ?_
            refine lv_iadd hx hb d_Md_verdict_197 ?_
            exact ly_reti fx hr hlocks hk hw (Option.some.inj h) d_Md_verdict_198
  · have h := it_t hc h
    refine lv_iconst (v := -1) hx hb d_Md_verdict_42 (by decide) ?_
    exact ly_reti fx hr hlocks hk hw (Option.some.inj h) d_Md_verdict_43
