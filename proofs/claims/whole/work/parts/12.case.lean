set_option maxRecDepth 100000 in
set_option maxHeartbeats 4000000 in
theorem c_CN_isOneToThreeConditions (l : Launch) (a1 : Int32) (u : St) (res : Int32 × St) (h : sp_CN_isOneToThreeConditions a1 u = some res) : ly_Mi ZsC clA layC l y_CN_isOneToThreeConditions w_CN_isOneToThreeConditions { frames := 1, cells := 0, slots := 0, locals := 22 } (fun ad => [.int a1]) u (fun r1 u1 => (r1, u1) = res) := by
  refine ly_enti (cc := b_CN_isOneToThreeConditions) (maxL := 1) (ret := (some .boolean)) (by decide) rfl (fun ad => Nat.le_of_ble_eq_true rfl) ?_
  intro p e s m below meth c D ad cA A ls fx hr hlocks hk hA hz hw hl
  have hl : lv_has ls 1 [(0, .int a1)] := hl
  have hx := fx.1
  have hb := fx.2.1
  unfold sp_CN_isOneToThreeConditions at h
  refine lv_iload_n hx hb d_CN_isOneToThreeConditions_0 rfl (lv_at hl 0 rfl) ?_
  refine lv_bipush (v := 8) hx hb d_CN_isOneToThreeConditions_1 (by decide) ?_
  refine lv_iushr hx hb d_CN_isOneToThreeConditions_3 rfl ?_
  refine lv_if_ne (tgt := 23) hx hb d_CN_isOneToThreeConditions_4 (by decide) (fun hc => ?_) (fun hc => ?_)
  · have h := it_f hc h
    refine lv_iconst (v := 0) hx hb d_CN_isOneToThreeConditions_23 (by decide) ?_
    exact ly_retz fx hr hlocks hk hw (Or.inl rfl) (Option.some.inj h) d_CN_isOneToThreeConditions_24
  · have h := it_t hc h
    refine lv_iload_n hx hb d_CN_isOneToThreeConditions_7 rfl (lv_at hl 0 rfl) ?_
    obtain ⟨r1, u2, hq3, h⟩ := ck_r h
    refine ly_callSi (As := [.int a1]) (rest := []) ZsC_ok fx hk hz hA hw (c_Integer_bitCount l a1 u _ hq3) (cw_S fx.2.2.2.2 a_193 a_194 a_7 ac_Integer_bitCount rfl rfl hd_Integer_bitCount ⟨Nat.le_of_ble_eq_true rfl, Nat.le_of_ble_eq_true rfl⟩) rfl rfl hl.1 rfl (Nat.le_of_ble_eq_true rfl) d_CN_isOneToThreeConditions_8 (Nat.zero_le _) (Nat.zero_le _) (fun r' u' H locs hp hw => ?_)
    cases hp
    refine lv_iconst (v := 1) hx hb d_CN_isOneToThreeConditions_11 (by decide) ?_
    refine lv_iconst (v := 3) hx hb d_CN_isOneToThreeConditions_12 (by decide) ?_
    obtain ⟨r4, u5, hq6, h⟩ := ck_r h
    refine ly_callSi (As := [.int r1, .int (1 : Int32), .int (3 : Int32)]) (rest := []) ZsC_ok fx hk hz hA hw (c_CN_isBetween l r1 (1 : Int32) (3 : Int32) u2 _ hq6) (cw_S fx.2.2.2.2 a_187 a_188 a_1 ac_CN_isBetween rfl rfl hd_CN_isBetween ⟨Nat.le_of_ble_eq_true rfl, Nat.le_of_ble_eq_true rfl⟩) rfl rfl hl.1 rfl (Nat.le_of_ble_eq_true rfl) d_CN_isOneToThreeConditions_13 (Nat.zero_le _) (Nat.zero_le _) (fun r' u' H locs hp hw => ?_)
    cases hp
    refine lv_if_eq (tgt := 23) hx hb d_CN_isOneToThreeConditions_16 (by decide) (fun hc => ?_) (fun hc => ?_)
    · have h := it_t hc h
      refine lv_iconst (v := 0) hx hb d_CN_isOneToThreeConditions_23 (by decide) ?_
      exact ly_retz fx hr hlocks hk hw (Or.inl rfl) (Option.some.inj h) d_CN_isOneToThreeConditions_24
    · have h := it_f hc h
      refine lv_iconst (v := 1) hx hb d_CN_isOneToThreeConditions_19 (by decide) ?_
      refine lv_goto (tgt := 24) hx hb d_CN_isOneToThreeConditions_20 (by decide) ?_
      exact ly_retz fx hr hlocks hk hw (Or.inr rfl) (Option.some.inj h) d_CN_isOneToThreeConditions_24
set_option maxRecDepth 100000 in
set_option maxHeartbeats 4000000 in
theorem c_CN_task (l : Launch) (F : Nat) (a1 : Int32) (a2 : Int32) (a3 : Int32) (a4 : Int32) (a5 : Int32) (u : St) (res : Int32 × St) (h : sp_CN_task F a1 a2 a3 a4 a5 u = some res) : ly_Mi ZsC clA layC l y_CN_task w_CN_task { frames := 4, cells := 0, slots := 0, locals := 88 } (fun ad => [.ref (ad 0), .int a1, .int a2, .int a3, .int a4, .int a5]) u (fun r1 u1 => (r1, u1) = res) := by
  refine ly_enti (cc := b_CN_task) (maxL := 6) (ret := (some .boolean)) (by decide) rfl (fun ad => Nat.le_of_ble_eq_true rfl) ?_
  intro p e s m below meth c D ad cA A ls fx hr hlocks hk hA hz hw hl
  have hl : lv_has ls 6 [(0, .ref (ad 0)), (1, .int a1), (2, .int a2), (3, .int a3), (4, .int a4), (5, .int a5)] := hl
  have hx := fx.1
  have hb := fx.2.1
  unfold sp_CN_task at h
  refine lv_aload_n hx hb d_CN_task_0 rfl (lv_at hl 0 rfl) ?_
  refine ly_get fx hk hw (0) rfl rfl i_CaseNet 3 (by decide) rfl rfl (List.mem_cons_of_mem _ a_167) d_CN_task_1 ?_
  refine lv_if_ne (tgt := 16) hx hb d_CN_task_4 (by decide) (fun hc => ?_) (fun hc => ?_)
  · have h := it_f hc h
    refine lv_iconst (v := 0) hx hb d_CN_task_16 (by decide) ?_
    exact ly_retz fx hr hlocks hk hw (Or.inl rfl) (Option.some.inj h) d_CN_task_17
  · have h := it_t hc h
    refine lv_iload_n hx hb d_CN_task_7 rfl (lv_at hl 1 rfl) ?_
    refine lv_iconst (v := 0) hx hb d_CN_task_8 (by decide) ?_
    refine lv_iconst (v := 5) hx hb d_CN_task_9 (by decide) ?_
    obtain ⟨r1, u2, hq3, h⟩ := ck_r h
    refine ly_callSi (As := [.int a1, .int (0 : Int32), .int (5 : Int32)]) (rest := []) ZsC_ok fx hk hz hA hw (c_CN_isBetween l a1 (0 : Int32) (5 : Int32) u _ hq3) (cw_S fx.2.2.2.2 a_187 a_188 a_1 ac_CN_isBetween rfl rfl hd_CN_isBetween ⟨Nat.le_of_ble_eq_true rfl, Nat.le_of_ble_eq_true rfl⟩) rfl rfl hl.1 rfl (Nat.le_of_ble_eq_true rfl) d_CN_task_10 (Nat.zero_le _) (Nat.zero_le _) (fun r' u' H locs hp hw => ?_)
    cases hp
    refine lv_if_ne (tgt := 18) hx hb d_CN_task_13 (by decide) (fun hc => ?_) (fun hc => ?_)
    · have h := it_f hc h
      refine lv_iload_n hx hb d_CN_task_18 rfl (lv_at hl 2 rfl) ?_
      refine lv_iconst (v := 0) hx hb d_CN_task_19 (by decide) ?_
      refine lv_iconst (v := 2) hx hb d_CN_task_20 (by decide) ?_
      obtain ⟨r4, u5, hq6, h⟩ := ck_r h
      refine ly_callSi (As := [.int a2, .int (0 : Int32), .int (2 : Int32)]) (rest := []) ZsC_ok fx hk hz hA hw (c_CN_isBetween l a2 (0 : Int32) (2 : Int32) u2 _ hq6) (cw_S fx.2.2.2.2 a_187 a_188 a_1 ac_CN_isBetween rfl rfl hd_CN_isBetween ⟨Nat.le_of_ble_eq_true rfl, Nat.le_of_ble_eq_true rfl⟩) rfl rfl hl.1 rfl (Nat.le_of_ble_eq_true rfl) d_CN_task_21 (Nat.zero_le _) (Nat.zero_le _) (fun r' u' H locs hp hw => ?_)
      cases hp
      refine lv_if_eq (tgt := 36) hx hb d_CN_task_24 (by decide) (fun hc => ?_) (fun hc => ?_)
      · have h := it_t hc h
        refine lv_iconst (v := 0) hx hb d_CN_task_36 (by decide) ?_
        exact ly_retz fx hr hlocks hk hw (Or.inl rfl) (Option.some.inj h) d_CN_task_37
      · have h := it_f hc h
        refine lv_iload_n hx hb d_CN_task_27 rfl (lv_at hl 3 rfl) ?_
        refine lv_iconst (v := 0) hx hb d_CN_task_28 (by decide) ?_
        refine lv_iconst (v := 2) hx hb d_CN_task_29 (by decide) ?_
        obtain ⟨r7, u8, hq9, h⟩ := ck_r h
        refine ly_callSi (As := [.int a3, .int (0 : Int32), .int (2 : Int32)]) (rest := []) ZsC_ok fx hk hz hA hw (c_CN_isBetween l a3 (0 : Int32) (2 : Int32) u5 _ hq9) (cw_S fx.2.2.2.2 a_187 a_188 a_1 ac_CN_isBetween rfl rfl hd_CN_isBetween ⟨Nat.le_of_ble_eq_true rfl, Nat.le_of_ble_eq_true rfl⟩) rfl rfl hl.1 rfl (Nat.le_of_ble_eq_true rfl) d_CN_task_30 (Nat.zero_le _) (Nat.zero_le _) (fun r' u' H locs hp hw => ?_)
        cases hp
        refine lv_if_ne (tgt := 38) hx hb d_CN_task_33 (by decide) (fun hc => ?_) (fun hc => ?_)
        · have h := it_f hc h
          refine lv_iload hx hb d_CN_task_38 (lv_at hl 4 rfl) ?_
          obtain ⟨r10, u11, hq12, h⟩ := ck_r h
          refine ly_callSi (As := [.int a4]) (rest := []) ZsC_ok fx hk hz hA hw (c_CN_isOneToThreeConditions l a4 u8 _ hq12) (cw_S fx.2.2.2.2 a_190 a_191 a_1 ac_CN_isOneToThreeConditions rfl rfl hd_CN_isOneToThreeConditions ⟨Nat.le_of_ble_eq_true rfl, Nat.le_of_ble_eq_true rfl⟩) rfl rfl hl.1 rfl (Nat.le_of_ble_eq_true rfl) d_CN_task_40 (Nat.zero_le _) (Nat.zero_le _) (fun r' u' H locs hp hw => ?_)
          cases hp
          refine lv_if_eq (tgt := 54) hx hb d_CN_task_43 (by decide) (fun hc => ?_) (fun hc => ?_)
          · have h := it_t hc h
            refine lv_iconst (v := 0) hx hb d_CN_task_54 (by decide) ?_
            exact ly_retz fx hr hlocks hk hw (Or.inl rfl) (Option.some.inj h) d_CN_task_55
          · have h := it_f hc h
            refine lv_iload hx hb d_CN_task_46 (lv_at hl 5 rfl) ?_
            obtain ⟨r13, u14, hq15, h⟩ := ck_r h
            refine ly_callSi (As := [.int a5]) (rest := []) ZsC_ok fx hk hz hA hw (c_CN_isOneToThreeConditions l a5 u11 _ hq15) (cw_S fx.2.2.2.2 a_190 a_191 a_1 ac_CN_isOneToThreeConditions rfl rfl hd_CN_isOneToThreeConditions ⟨Nat.le_of_ble_eq_true rfl, Nat.le_of_ble_eq_true rfl⟩) rfl rfl hl.1 rfl (Nat.le_of_ble_eq_true rfl) d_CN_task_48 (Nat.zero_le _) (Nat.zero_le _) (fun r' u' H locs hp hw => ?_)
            cases hp
            refine lv_if_ne (tgt := 56) hx hb d_CN_task_51 (by decide) (fun hc => ?_) (fun hc => ?_)
            · have h := it_f hc h
              refine lv_aload_n hx hb d_CN_task_56 rfl (lv_at hl 0 rfl) ?_
              refine ly_getr fx hk hw (0) rfl rfl i_CaseNet 0 (by decide) rfl rfl (List.mem_cons_of_mem _ a_164) d_CN_task_57 ?_
              refine ly_getr fx hk hw (1) rfl rfl i_Net 0 (by decide) rfl rfl (List.mem_cons_of_mem _ a_122) d_CN_task_60 ?_
              refine lv_iload_n hx hb d_CN_task_63 rfl (lv_at hl 1 rfl) ?_
              obtain ⟨hi16, h⟩ := it_in h
              have ht17 := vt_lt hi16
              refine ly_aald fx hk hw (2) rfl hi16 (q1 := 9 + 6 * a1.toNatClampNeg) rfl d_CN_task_64 ?_
              refine lv_iload_n hx hb d_CN_task_65 rfl (lv_at hl 2 rfl) ?_
              refine lv_iload_n hx hb d_CN_task_66 rfl (lv_at hl 3 rfl) ?_
              refine lv_iload hx hb d_CN_task_67 (lv_at hl 4 rfl) ?_
              refine lv_iload hx hb d_CN_task_69 (lv_at hl 5 rfl) ?_
              obtain ⟨r18, u19, hq20, h⟩ := ck_r h
              refine ly_callVv (As := [.int a2, .int a3, .int a4, .int a5]) (rest := []) ZsC_ok fx hk hz hA hw (c_Task_define l F a1.toNatClampNeg a2 a3 a4 a5 ht17 u14 _ hq20) (cw_V fx.2.2.2.2 a_199 a_200 a_201 a_4 ac_Task_define rfl rfl rfl hd_Task_define ⟨Nat.le_of_ble_eq_true rfl, Nat.le_of_ble_eq_true rfl⟩) (9 + 6 * a1.toNatClampNeg) (la_T ht17) rfl rfl rfl hl.1 rfl (Nat.le_of_ble_eq_true rfl) d_CN_task_71 (Nat.zero_le _) (Nat.zero_le _) (fun u' H locs hp hw => ?_)
              cases hp
              refine lv_iconst (v := 1) hx hb d_CN_task_74 (by decide) ?_
              exact ly_retz fx hr hlocks hk hw (Or.inr rfl) (Option.some.inj h) d_CN_task_75
            · have h := it_t hc h
              refine lv_iconst (v := 0) hx hb d_CN_task_54 (by decide) ?_
              exact ly_retz fx hr hlocks hk hw (Or.inl rfl) (Option.some.inj h) d_CN_task_55
        · have h := it_t hc h
          refine lv_iconst (v := 0) hx hb d_CN_task_36 (by decide) ?_
          exact ly_retz fx hr hlocks hk hw (Or.inl rfl) (Option.some.inj h) d_CN_task_37
    · have h := it_t hc h
      refine lv_iconst (v := 0) hx hb d_CN_task_16 (by decide) ?_
      exact ly_retz fx hr hlocks hk hw (Or.inl rfl) (Option.some.inj h) d_CN_task_17
set_option maxRecDepth 100000 in
set_option maxHeartbeats 4000000 in
theorem c_CN_isMaskOfPlaces (l : Launch) (a1 : Int32) (u : St) (res : Int32 × St) (h : sp_CN_isMaskOfPlaces a1 u = some res) : ly_Mi ZsC clA layC l y_CN_isMaskOfPlaces w_CN_isMaskOfPlaces { frames := 0, cells := 0, slots := 0, locals := 0 } (fun ad => [.int a1]) u (fun r1 u1 => (r1, u1) = res) := by
  refine ly_enti (cc := b_CN_isMaskOfPlaces) (maxL := 1) (ret := (some .boolean)) (by decide) rfl (fun ad => Nat.le_of_ble_eq_true rfl) ?_
  intro p e s m below meth c D ad cA A ls fx hr hlocks hk hA hz hw hl
  have hl : lv_has ls 1 [(0, .int a1)] := hl
  have hx := fx.1
  have hb := fx.2.1
  unfold sp_CN_isMaskOfPlaces at h
  refine lv_iload_n hx hb d_CN_isMaskOfPlaces_0 rfl (lv_at hl 0 rfl) ?_
  refine lv_bipush (v := 14) hx hb d_CN_isMaskOfPlaces_1 (by decide) ?_
  refine lv_iushr hx hb d_CN_isMaskOfPlaces_3 rfl ?_
  refine lv_if_ne (tgt := 11) hx hb d_CN_isMaskOfPlaces_4 (by decide) (fun hc => ?_) (fun hc => ?_)
  · have h := it_f hc h
    refine lv_iconst (v := 0) hx hb d_CN_isMaskOfPlaces_11 (by decide) ?_
    exact ly_retz fx hr hlocks hk hw (Or.inl rfl) (Option.some.inj h) d_CN_isMaskOfPlaces_12
  · have h := it_t hc h
    refine lv_iconst (v := 1) hx hb d_CN_isMaskOfPlaces_7 (by decide) ?_
    refine lv_goto (tgt := 12) hx hb d_CN_isMaskOfPlaces_8 (by decide) ?_
    exact ly_retz fx hr hlocks hk hw (Or.inr rfl) (Option.some.inj h) d_CN_isMaskOfPlaces_12
set_option maxRecDepth 100000 in
set_option maxHeartbeats 4000000 in
theorem c_CN_region (l : Launch) (a1 : Int32) (a2 : Int32) (u : St) (res : Int32 × St) (h : sp_CN_region a1 a2 u = some res) : ly_Mi ZsC clA layC l y_CN_region w_CN_region { frames := 2, cells := 0, slots := 0, locals := 43 } (fun ad => [.ref (ad 0), .int a1, .int a2]) u (fun r1 u1 => (r1, u1) = res) := by
  refine ly_enti (cc := b_CN_region) (maxL := 3) (ret := (some .boolean)) (by decide) rfl (fun ad => Nat.le_of_ble_eq_true rfl) ?_
  intro p e s m below meth c D ad cA A ls fx hr hlocks hk hA hz hw hl
  have hl : lv_has ls 3 [(0, .ref (ad 0)), (1, .int a1), (2, .int a2)] := hl
  have hx := fx.1
  have hb := fx.2.1
  unfold sp_CN_region at h
  refine lv_aload_n hx hb d_CN_region_0 rfl (lv_at hl 0 rfl) ?_
  refine ly_get fx hk hw (0) rfl rfl i_CaseNet 3 (by decide) rfl rfl (List.mem_cons_of_mem _ a_167) d_CN_region_1 ?_
  refine lv_if_ne (tgt := 25) hx hb d_CN_region_4 (by decide) (fun hc => ?_) (fun hc => ?_)
  · have h := it_f hc h
    refine lv_iconst (v := 0) hx hb d_CN_region_25 (by decide) ?_
    exact ly_retz fx hr hlocks hk hw (Or.inl rfl) (Option.some.inj h) d_CN_region_26
  · have h := it_t hc h
    refine lv_aload_n hx hb d_CN_region_7 rfl (lv_at hl 0 rfl) ?_
    refine ly_getr fx hk hw (0) rfl rfl i_CaseNet 0 (by decide) rfl rfl (List.mem_cons_of_mem _ a_164) d_CN_region_8 ?_
    refine lv_iload_n hx hb d_CN_region_11 rfl (lv_at hl 1 rfl) ?_
    obtain ⟨r1, u2, hq3, h⟩ := ck_r h
    refine ly_callVi (As := [.int a1]) (rest := []) ZsC_ok fx hk hz hA hw (c_Net_isDefined l a1 u _ hq3) (cw_V fx.2.2.2.2 a_229 a_230 a_231 a_2 ac_Net_isDefined rfl rfl rfl hd_Net_isDefined ⟨Nat.le_of_ble_eq_true rfl, Nat.le_of_ble_eq_true rfl⟩) (1) rfl rfl rfl rfl hl.1 rfl (Nat.le_of_ble_eq_true rfl) d_CN_region_12 (Nat.zero_le _) (Nat.zero_le _) (fun r' u' H locs hp hw => ?_)
    cases hp
    refine lv_if_eq (tgt := 25) hx hb d_CN_region_15 (by decide) (fun hc => ?_) (fun hc => ?_)
    · have h := it_t hc h
      refine lv_iconst (v := 0) hx hb d_CN_region_25 (by decide) ?_
      exact ly_retz fx hr hlocks hk hw (Or.inl rfl) (Option.some.inj h) d_CN_region_26
    · have h := it_f hc h
      refine lv_iload_n hx hb d_CN_region_18 rfl (lv_at hl 2 rfl) ?_
      obtain ⟨r4, u5, hq6, h⟩ := ck_r h
      refine ly_callSi (As := [.int a2]) (rest := []) ZsC_ok fx hk hz hA hw (c_CN_isMaskOfPlaces l a2 u2 _ hq6) (cw_S fx.2.2.2.2 a_234 a_235 a_1 ac_CN_isMaskOfPlaces rfl rfl hd_CN_isMaskOfPlaces ⟨Nat.le_of_ble_eq_true rfl, Nat.le_of_ble_eq_true rfl⟩) rfl rfl hl.1 rfl (Nat.le_of_ble_eq_true rfl) d_CN_region_19 (Nat.zero_le _) (Nat.zero_le _) (fun r' u' H locs hp hw => ?_)
      cases hp
      refine lv_if_ne (tgt := 27) hx hb d_CN_region_22 (by decide) (fun hc => ?_) (fun hc => ?_)
      · have h := it_f hc h
        refine lv_aload_n hx hb d_CN_region_27 rfl (lv_at hl 0 rfl) ?_
        refine ly_getr fx hk hw (0) rfl rfl i_CaseNet 0 (by decide) rfl rfl (List.mem_cons_of_mem _ a_164) d_CN_region_28 ?_
        refine ly_getr fx hk hw (1) rfl rfl i_Net 0 (by decide) rfl rfl (List.mem_cons_of_mem _ a_122) d_CN_region_31 ?_
        refine lv_iload_n hx hb d_CN_region_34 rfl (lv_at hl 1 rfl) ?_
        obtain ⟨hi7, h⟩ := it_in h
        have ht8 := vt_lt hi7
        refine ly_aald fx hk hw (2) rfl hi7 (q1 := 9 + 6 * a1.toNatClampNeg) rfl d_CN_region_35 ?_
        refine lv_iload_n hx hb d_CN_region_36 rfl (lv_at hl 2 rfl) ?_
        refine ly_put (v := a2) fx hk hw (9 + 6 * a1.toNatClampNeg) (la_T ht8) rfl i_Task t_Task t_Task_ok n_Task 6 (by decide) rfl rfl rfl (List.mem_cons_of_mem _ a_59) rfl rfl d_CN_region_37 (fun H locs hw => ?_)
        obtain ⟨u9, ev⟩ : ∃ z, z = ly_pi u5 (9 + 6 * a1.toNatClampNeg) 6 a2 := ⟨_, rfl⟩
        rw [← ev] at hw
        have h := nk_r ev h
        refine lv_iconst (v := 1) hx hb d_CN_region_40 (by decide) ?_
        exact ly_retz fx hr hlocks hk hw (Or.inr rfl) (Option.some.inj h) d_CN_region_41
      · have h := it_t hc h
        refine lv_iconst (v := 0) hx hb d_CN_region_25 (by decide) ?_
        exact ly_retz fx hr hlocks hk hw (Or.inl rfl) (Option.some.inj h) d_CN_region_26
set_option maxRecDepth 100000 in
set_option maxHeartbeats 4000000 in
theorem c_CN_isVariable (l : Launch) (a1 : Int32) (u : St) (res : Int32 × St) (h : sp_CN_isVariable a1 u = some res) : ly_Mi ZsC clA layC l y_CN_isVariable w_CN_isVariable { frames := 1, cells := 0, slots := 0, locals := 22 } (fun ad => [.int a1]) u (fun r1 u1 => (r1, u1) = res) := by
  refine ly_enti (cc := b_CN_isVariable) (maxL := 1) (ret := (some .boolean)) (by decide) rfl (fun ad => Nat.le_of_ble_eq_true rfl) ?_
  intro p e s m below meth c D ad cA A ls fx hr hlocks hk hA hz hw hl
  have hl : lv_has ls 1 [(0, .int a1)] := hl
  have hx := fx.1
  have hb := fx.2.1
  unfold sp_CN_isVariable at h
  refine lv_iload_n hx hb d_CN_isVariable_0 rfl (lv_at hl 0 rfl) ?_
  refine lv_iconst (v := 0) hx hb d_CN_isVariable_1 (by decide) ?_
  refine lv_iconst (v := 3) hx hb d_CN_isVariable_2 (by decide) ?_
  obtain ⟨r1, u2, hq3, h⟩ := ck_r h
  refine ly_callSi (As := [.int a1, .int (0 : Int32), .int (3 : Int32)]) (rest := []) ZsC_ok fx hk hz hA hw (c_CN_isBetween l a1 (0 : Int32) (3 : Int32) u _ hq3) (cw_S fx.2.2.2.2 a_187 a_188 a_1 ac_CN_isBetween rfl rfl hd_CN_isBetween ⟨Nat.le_of_ble_eq_true rfl, Nat.le_of_ble_eq_true rfl⟩) rfl rfl hl.1 rfl (Nat.le_of_ble_eq_true rfl) d_CN_isVariable_3 (Nat.zero_le _) (Nat.zero_le _) (fun r' u' H locs hp hw => ?_)
  cases hp
  obtain ⟨hn, h⟩ := it_n h
  exact ly_retz fx hr hlocks hk hw hn (Option.some.inj h) d_CN_isVariable_6
set_option maxRecDepth 100000 in
set_option maxHeartbeats 4000000 in
theorem c_CN_guard (l : Launch) (a1 : Int32) (a2 : Int32) (a3 : Int32) (a4 : Int32) (a5 : Int32) (u : St) (res : Int32 × St) (h : sp_CN_guard a1 a2 a3 a4 a5 u = some res) : ly_Mi ZsC clA layC l y_CN_guard w_CN_guard { frames := 2, cells := 0, slots := 0, locals := 43 } (fun ad => [.ref (ad 0), .int a1, .int a2, .int a3, .int a4, .int a5]) u (fun r1 u1 => (r1, u1) = res) := by
  refine ly_enti (cc := b_CN_guard) (maxL := 6) (ret := (some .boolean)) (by decide) rfl (fun ad => Nat.le_of_ble_eq_true rfl) ?_
  intro p e s m below meth c D ad cA A ls fx hr hlocks hk hA hz hw hl
  have hl : lv_has ls 6 [(0, .ref (ad 0)), (1, .int a1), (2, .int a2), (3, .int a3), (4, .int a4), (5, .int a5)] := hl
  have hx := fx.1
  have hb := fx.2.1
  unfold sp_CN_guard at h
  refine lv_aload_n hx hb d_CN_guard_0 rfl (lv_at hl 0 rfl) ?_
  refine ly_get fx hk hw (0) rfl rfl i_CaseNet 3 (by decide) rfl rfl (List.mem_cons_of_mem _ a_167) d_CN_guard_1 ?_
  refine lv_if_ne (tgt := 25) hx hb d_CN_guard_4 (by decide) (fun hc => ?_) (fun hc => ?_)
  · have h := it_f hc h
    refine lv_iconst (v := 0) hx hb d_CN_guard_25 (by decide) ?_
    exact ly_retz fx hr hlocks hk hw (Or.inl rfl) (Option.some.inj h) d_CN_guard_26
  · have h := it_t hc h
    refine lv_aload_n hx hb d_CN_guard_7 rfl (lv_at hl 0 rfl) ?_
    refine ly_getr fx hk hw (0) rfl rfl i_CaseNet 0 (by decide) rfl rfl (List.mem_cons_of_mem _ a_164) d_CN_guard_8 ?_
    refine lv_iload_n hx hb d_CN_guard_11 rfl (lv_at hl 1 rfl) ?_
    obtain ⟨r1, u2, hq3, h⟩ := ck_r h
    refine ly_callVi (As := [.int a1]) (rest := []) ZsC_ok fx hk hz hA hw (c_Net_isDefined l a1 u _ hq3) (cw_V fx.2.2.2.2 a_229 a_230 a_231 a_2 ac_Net_isDefined rfl rfl rfl hd_Net_isDefined ⟨Nat.le_of_ble_eq_true rfl, Nat.le_of_ble_eq_true rfl⟩) (1) rfl rfl rfl rfl hl.1 rfl (Nat.le_of_ble_eq_true rfl) d_CN_guard_12 (Nat.zero_le _) (Nat.zero_le _) (fun r' u' H locs hp hw => ?_)
    cases hp
    refine lv_if_eq (tgt := 25) hx hb d_CN_guard_15 (by decide) (fun hc => ?_) (fun hc => ?_)
    · have h := it_t hc h
      refine lv_iconst (v := 0) hx hb d_CN_guard_25 (by decide) ?_
      exact ly_retz fx hr hlocks hk hw (Or.inl rfl) (Option.some.inj h) d_CN_guard_26
    · have h := it_f hc h
      refine lv_iload_n hx hb d_CN_guard_18 rfl (lv_at hl 3 rfl) ?_
      obtain ⟨r4, u5, hq6, h⟩ := ck_r h
      refine ly_callSi (As := [.int a3]) (rest := []) ZsC_ok fx hk hz hA hw (c_CN_isVariable l a3 u2 _ hq6) (cw_S fx.2.2.2.2 a_241 a_242 a_1 ac_CN_isVariable rfl rfl hd_CN_isVariable ⟨Nat.le_of_ble_eq_true rfl, Nat.le_of_ble_eq_true rfl⟩) rfl rfl hl.1 rfl (Nat.le_of_ble_eq_true rfl) d_CN_guard_19 (Nat.zero_le _) (Nat.zero_le _) (fun r' u' H locs hp hw => ?_)
      cases hp
      refine lv_if_ne (tgt := 27) hx hb d_CN_guard_22 (by decide) (fun hc => ?_) (fun hc => ?_)
      · have h := it_f hc h
        refine lv_iload_n hx hb d_CN_guard_27 rfl (lv_at hl 2 rfl) ?_
        refine lv_iconst (v := 0) hx hb d_CN_guard_28 (by decide) ?_
        refine lv_bipush (v := 7) hx hb d_CN_guard_29 (by decide) ?_
        obtain ⟨r7, u8, hq9, h⟩ := ck_r h
        refine ly_callSi (As := [.int a2, .int (0 : Int32), .int (7 : Int32)]) (rest := []) ZsC_ok fx hk hz hA hw (c_CN_isBetween l a2 (0 : Int32) (7 : Int32) u5 _ hq9) (cw_S fx.2.2.2.2 a_187 a_188 a_1 ac_CN_isBetween rfl rfl hd_CN_isBetween ⟨Nat.le_of_ble_eq_true rfl, Nat.le_of_ble_eq_true rfl⟩) rfl rfl hl.1 rfl (Nat.le_of_ble_eq_true rfl) d_CN_guard_31 (Nat.zero_le _) (Nat.zero_le _) (fun r' u' H locs hp hw => ?_)
        cases hp
        refine lv_if_eq (tgt := 56) hx hb d_CN_guard_34 (by decide) (fun hc => ?_) (fun hc => ?_)
        · have h := it_t hc h
          refine lv_iconst (v := 0) hx hb d_CN_guard_56 (by decide) ?_
          exact ly_retz fx hr hlocks hk hw (Or.inl rfl) (Option.some.inj h) d_CN_guard_57
        · have h := it_f hc h
          refine lv_aload_n hx hb d_CN_guard_37 rfl (lv_at hl 0 rfl) ?_
          refine ly_getr fx hk hw (0) rfl rfl i_CaseNet 0 (by decide) rfl rfl (List.mem_cons_of_mem _ a_164) d_CN_guard_38 ?_
          refine ly_getr fx hk hw (1) rfl rfl i_Net 0 (by decide) rfl rfl (List.mem_cons_of_mem _ a_122) d_CN_guard_41 ?_
          refine lv_iload_n hx hb d_CN_guard_44 rfl (lv_at hl 1 rfl) ?_
          obtain ⟨hi10, h⟩ := it_in h
          have ht11 := vt_lt hi10
          refine ly_aald fx hk hw (2) rfl hi10 (q1 := 9 + 6 * a1.toNatClampNeg) rfl d_CN_guard_45 ?_
          refine ly_get fx hk hw (9 + 6 * a1.toNatClampNeg) (la_T ht11) rfl i_Task 5 (by decide) rfl rfl (List.mem_cons_of_mem _ a_57) d_CN_guard_46 ?_
          refine lv_iconst (v := 1) hx hb d_CN_guard_49 (by decide) ?_
          refine lv_iload_n hx hb d_CN_guard_50 rfl (lv_at hl 2 rfl) ?_
          refine lv_ishl hx hb d_CN_guard_51 ?_
          refine lv_iand hx hb d_CN_guard_52 ?_
          refine lv_if_ne (tgt := 58) hx hb d_CN_guard_53 (by decide) (fun hc => ?_) (fun hc => ?_)
          · have h := it_f hc h
            refine lv_aload_n hx hb d_CN_guard_58 rfl (lv_at hl 0 rfl) ?_
            refine ly_getr fx hk hw (0) rfl rfl i_CaseNet 0 (by decide) rfl rfl (List.mem_cons_of_mem _ a_164) d_CN_guard_59 ?_
            refine ly_getr fx hk hw (1) rfl rfl i_Net 0 (by decide) rfl rfl (List.mem_cons_of_mem _ a_122) d_CN_guard_62 ?_
            refine lv_iload_n hx hb d_CN_guard_65 rfl (lv_at hl 1 rfl) ?_
            obtain ⟨hi12, h⟩ := it_in h
            have ht13 := vt_lt hi12
            refine ly_aald fx hk hw (2) rfl hi12 (q1 := 9 + 6 * a1.toNatClampNeg) rfl d_CN_guard_66 ?_
            refine lv_iload_n hx hb d_CN_guard_67 rfl (lv_at hl 2 rfl) ?_
            refine lv_iload_n hx hb d_CN_guard_68 rfl (lv_at hl 3 rfl) ?_
            refine lv_iload hx hb d_CN_guard_69 (lv_at hl 4 rfl) ?_
            refine lv_iload hx hb d_CN_guard_71 (lv_at hl 5 rfl) ?_
            obtain ⟨r14, u15, hq16, h⟩ := ck_r h
            refine ly_callVv (As := [.int a2, .int a3, .int a4, .int a5]) (rest := []) ZsC_ok fx hk hz hA hw (c_Task_putGuard l a1.toNatClampNeg a2 a3 a4 a5 ht13 u8 _ hq16) (cw_V fx.2.2.2.2 a_244 a_210 a_211 a_4 ac_Task_putGuard rfl rfl rfl hd_Task_putGuard ⟨Nat.le_of_ble_eq_true rfl, Nat.le_of_ble_eq_true rfl⟩) (9 + 6 * a1.toNatClampNeg) (la_T ht13) rfl rfl rfl hl.1 rfl (Nat.le_of_ble_eq_true rfl) d_CN_guard_73 (Nat.zero_le _) (Nat.zero_le _) (fun u' H locs hp hw => ?_)
            cases hp
            refine lv_iconst (v := 1) hx hb d_CN_guard_76 (by decide) ?_
            exact ly_retz fx hr hlocks hk hw (Or.inr rfl) (Option.some.inj h) d_CN_guard_77
          · have h := it_t hc h
            refine lv_iconst (v := 0) hx hb d_CN_guard_56 (by decide) ?_
            exact ly_retz fx hr hlocks hk hw (Or.inl rfl) (Option.some.inj h) d_CN_guard_57
      · have h := it_t hc h
        refine lv_iconst (v := 0) hx hb d_CN_guard_25 (by decide) ?_
        exact ly_retz fx hr hlocks hk hw (Or.inl rfl) (Option.some.inj h) d_CN_guard_26
set_option maxRecDepth 100000 in
set_option maxHeartbeats 4000000 in
theorem c_CN_items (l : Launch) (a1 : Int32) (a2 : Int32) (a3 : Int32) (a4 : Int32) (a5 : Int32) (u : St) (res : Int32 × St) (h : sp_CN_items a1 a2 a3 a4 a5 u = some res) : ly_Mi ZsC clA layC l y_CN_items w_CN_items { frames := 2, cells := 0, slots := 0, locals := 43 } (fun ad => [.ref (ad 0), .int a1, .int a2, .int a3, .int a4, .int a5]) u (fun r1 u1 => (r1, u1) = res) := by
  refine ly_enti (cc := b_CN_items) (maxL := 6) (ret := (some .boolean)) (by decide) rfl (fun ad => Nat.le_of_ble_eq_true rfl) ?_
  intro p e s m below meth c D ad cA A ls fx hr hlocks hk hA hz hw hl
  have hl : lv_has ls 6 [(0, .ref (ad 0)), (1, .int a1), (2, .int a2), (3, .int a3), (4, .int a4), (5, .int a5)] := hl
  have hx := fx.1
  have hb := fx.2.1
  unfold sp_CN_items at h
  refine lv_aload_n hx hb d_CN_items_0 rfl (lv_at hl 0 rfl) ?_
  refine ly_get fx hk hw (0) rfl rfl i_CaseNet 3 (by decide) rfl rfl (List.mem_cons_of_mem _ a_167) d_CN_items_1 ?_
  refine lv_if_ne (tgt := 26) hx hb d_CN_items_4 (by decide) (fun hc => ?_) (fun hc => ?_)
  · have h := it_f hc h
    refine lv_iconst (v := 0) hx hb d_CN_items_26 (by decide) ?_
    exact ly_retz fx hr hlocks hk hw (Or.inl rfl) (Option.some.inj h) d_CN_items_27
  · have h := it_t hc h
    refine lv_aload_n hx hb d_CN_items_7 rfl (lv_at hl 0 rfl) ?_
    refine ly_getr fx hk hw (0) rfl rfl i_CaseNet 0 (by decide) rfl rfl (List.mem_cons_of_mem _ a_164) d_CN_items_8 ?_
    refine lv_iload_n hx hb d_CN_items_11 rfl (lv_at hl 1 rfl) ?_
    obtain ⟨r1, u2, hq3, h⟩ := ck_r h
    refine ly_callVi (As := [.int a1]) (rest := []) ZsC_ok fx hk hz hA hw (c_Net_isDefined l a1 u _ hq3) (cw_V fx.2.2.2.2 a_229 a_230 a_231 a_2 ac_Net_isDefined rfl rfl rfl hd_Net_isDefined ⟨Nat.le_of_ble_eq_true rfl, Nat.le_of_ble_eq_true rfl⟩) (1) rfl rfl rfl rfl hl.1 rfl (Nat.le_of_ble_eq_true rfl) d_CN_items_12 (Nat.zero_le _) (Nat.zero_le _) (fun r' u' H locs hp hw => ?_)
    cases hp
    refine lv_if_eq (tgt := 26) hx hb d_CN_items_15 (by decide) (fun hc => ?_) (fun hc => ?_)
    · have h := it_t hc h
      refine lv_iconst (v := 0) hx hb d_CN_items_26 (by decide) ?_
      exact ly_retz fx hr hlocks hk hw (Or.inl rfl) (Option.some.inj h) d_CN_items_27
    · have h := it_f hc h
      refine lv_iload hx hb d_CN_items_18 (lv_at hl 4 rfl) ?_
      obtain ⟨r4, u5, hq6, h⟩ := ck_r h
      refine ly_callSi (As := [.int a4]) (rest := []) ZsC_ok fx hk hz hA hw (c_CN_isVariable l a4 u2 _ hq6) (cw_S fx.2.2.2.2 a_241 a_242 a_1 ac_CN_isVariable rfl rfl hd_CN_isVariable ⟨Nat.le_of_ble_eq_true rfl, Nat.le_of_ble_eq_true rfl⟩) rfl rfl hl.1 rfl (Nat.le_of_ble_eq_true rfl) d_CN_items_20 (Nat.zero_le _) (Nat.zero_le _) (fun r' u' H locs hp hw => ?_)
      cases hp
      refine lv_if_ne (tgt := 28) hx hb d_CN_items_23 (by decide) (fun hc => ?_) (fun hc => ?_)
      · have h := it_f hc h
        refine lv_iload_n hx hb d_CN_items_28 rfl (lv_at hl 2 rfl) ?_
        refine lv_iconst (v := 1) hx hb d_CN_items_29 (by decide) ?_
        refine lv_iconst (v := 4) hx hb d_CN_items_30 (by decide) ?_
        obtain ⟨r7, u8, hq9, h⟩ := ck_r h
        refine ly_callSi (As := [.int a2, .int (1 : Int32), .int (4 : Int32)]) (rest := []) ZsC_ok fx hk hz hA hw (c_CN_isBetween l a2 (1 : Int32) (4 : Int32) u5 _ hq9) (cw_S fx.2.2.2.2 a_187 a_188 a_1 ac_CN_isBetween rfl rfl hd_CN_isBetween ⟨Nat.le_of_ble_eq_true rfl, Nat.le_of_ble_eq_true rfl⟩) rfl rfl hl.1 rfl (Nat.le_of_ble_eq_true rfl) d_CN_items_31 (Nat.zero_le _) (Nat.zero_le _) (fun r' u' H locs hp hw => ?_)
        cases hp
        refine lv_if_eq (tgt := 46) hx hb d_CN_items_34 (by decide) (fun hc => ?_) (fun hc => ?_)
        · have h := it_t hc h
          refine lv_iconst (v := 0) hx hb d_CN_items_46 (by decide) ?_
          exact ly_retz fx hr hlocks hk hw (Or.inl rfl) (Option.some.inj h) d_CN_items_47
        · have h := it_f hc h
          refine lv_iload_n hx hb d_CN_items_37 rfl (lv_at hl 3 rfl) ?_
          refine lv_iconst (v := 1) hx hb d_CN_items_38 (by decide) ?_
          refine lv_iload_n hx hb d_CN_items_39 rfl (lv_at hl 2 rfl) ?_
          obtain ⟨r10, u11, hq12, h⟩ := ck_r h
          refine ly_callSi (As := [.int a3, .int (1 : Int32), .int a2]) (rest := []) ZsC_ok fx hk hz hA hw (c_CN_isBetween l a3 (1 : Int32) a2 u8 _ hq12) (cw_S fx.2.2.2.2 a_187 a_188 a_1 ac_CN_isBetween rfl rfl hd_CN_isBetween ⟨Nat.le_of_ble_eq_true rfl, Nat.le_of_ble_eq_true rfl⟩) rfl rfl hl.1 rfl (Nat.le_of_ble_eq_true rfl) d_CN_items_40 (Nat.zero_le _) (Nat.zero_le _) (fun r' u' H locs hp hw => ?_)
          cases hp
          refine lv_if_ne (tgt := 48) hx hb d_CN_items_43 (by decide) (fun hc => ?_) (fun hc => ?_)
          · have h := it_f hc h
            refine lv_iload hx hb d_CN_items_48 (lv_at hl 5 rfl) ?_
            refine lv_iconst (v := 0) hx hb d_CN_items_50 (by decide) ?_
            refine lv_bipush (v := 100) hx hb d_CN_items_51 (by decide) ?_
            obtain ⟨r13, u14, hq15, h⟩ := ck_r h
            refine ly_callSi (As := [.int a5, .int (0 : Int32), .int (100 : Int32)]) (rest := []) ZsC_ok fx hk hz hA hw (c_CN_isBetween l a5 (0 : Int32) (100 : Int32) u11 _ hq15) (cw_S fx.2.2.2.2 a_187 a_188 a_1 ac_CN_isBetween rfl rfl hd_CN_isBetween ⟨Nat.le_of_ble_eq_true rfl, Nat.le_of_ble_eq_true rfl⟩) rfl rfl hl.1 rfl (Nat.le_of_ble_eq_true rfl) d_CN_items_53 (Nat.zero_le _) (Nat.zero_le _) (fun r' u' H locs hp hw => ?_)
            cases hp
            refine lv_if_ne (tgt := 61) hx hb d_CN_items_56 (by decide) (fun hc => ?_) (fun hc => ?_)
            · have h := it_f hc h
              refine lv_aload_n hx hb d_CN_items_61 rfl (lv_at hl 0 rfl) ?_
              refine ly_getr fx hk hw (0) rfl rfl i_CaseNet 0 (by decide) rfl rfl (List.mem_cons_of_mem _ a_164) d_CN_items_62 ?_
              refine ly_getr fx hk hw (1) rfl rfl i_Net 0 (by decide) rfl rfl (List.mem_cons_of_mem _ a_122) d_CN_items_65 ?_
              refine lv_iload_n hx hb d_CN_items_68 rfl (lv_at hl 1 rfl) ?_
              obtain ⟨hi16, h⟩ := it_in h
              have ht17 := vt_lt hi16
              refine ly_aald fx hk hw (2) rfl hi16 (q1 := 9 + 6 * a1.toNatClampNeg) rfl d_CN_items_69 ?_
              refine lv_iload_n hx hb d_CN_items_70 rfl (lv_at hl 2 rfl) ?_
              refine lv_iload_n hx hb d_CN_items_71 rfl (lv_at hl 3 rfl) ?_
              refine lv_iload hx hb d_CN_items_72 (lv_at hl 4 rfl) ?_
              refine lv_iload hx hb d_CN_items_74 (lv_at hl 5 rfl) ?_
              obtain ⟨r18, u19, hq20, h⟩ := ck_r h
              refine ly_callVv (As := [.int a2, .int a3, .int a4, .int a5]) (rest := []) ZsC_ok fx hk hz hA hw (c_Task_putWork l a1.toNatClampNeg a2 a3 a4 a5 ht17 u14 _ hq20) (cw_V fx.2.2.2.2 a_249 a_204 a_205 a_4 ac_Task_putWork rfl rfl rfl hd_Task_putWork ⟨Nat.le_of_ble_eq_true rfl, Nat.le_of_ble_eq_true rfl⟩) (9 + 6 * a1.toNatClampNeg) (la_T ht17) rfl rfl rfl hl.1 rfl (Nat.le_of_ble_eq_true rfl) d_CN_items_76 (Nat.zero_le _) (Nat.zero_le _) (fun u' H locs hp hw => ?_)
              cases hp
              refine lv_iconst (v := 1) hx hb d_CN_items_79 (by decide) ?_
              exact ly_retz fx hr hlocks hk hw (Or.inr rfl) (Option.some.inj h) d_CN_items_80
            · have h := it_t hc h
              refine lv_iconst (v := 0) hx hb d_CN_items_59 (by decide) ?_
              exact ly_retz fx hr hlocks hk hw (Or.inl rfl) (Option.some.inj h) d_CN_items_60
          · have h := it_t hc h
            refine lv_iconst (v := 0) hx hb d_CN_items_46 (by decide) ?_
            exact ly_retz fx hr hlocks hk hw (Or.inl rfl) (Option.some.inj h) d_CN_items_47
      · have h := it_t hc h
        refine lv_iconst (v := 0) hx hb d_CN_items_26 (by decide) ?_
        exact ly_retz fx hr hlocks hk hw (Or.inl rfl) (Option.some.inj h) d_CN_items_27
set_option maxRecDepth 100000 in
set_option maxHeartbeats 4000000 in
theorem c_CN_launch (l : Launch) (F : Nat) (u : St) (res : Int32 × St) (h : sp_CN_launch F u = some res) : ly_Mi ZsC clA layC l y_CN_launch w_CN_launch { frames := 1, cells := 0, slots := 0, locals := 22 } (fun ad => [.ref (ad 0)]) u (fun r1 u1 => (r1, u1) = res) := by
  refine ly_enti (cc := b_CN_launch) (maxL := 1) (ret := (some .boolean)) (by decide) rfl (fun ad => Nat.le_of_ble_eq_true rfl) ?_
  intro p e s m below meth c D ad cA A ls fx hr hlocks hk hA hz hw hl
  have hl : lv_has ls 1 [(0, .ref (ad 0))] := hl
  have hx := fx.1
  have hb := fx.2.1
  unfold sp_CN_launch at h
  refine lv_aload_n hx hb d_CN_launch_0 rfl (lv_at hl 0 rfl) ?_
  refine ly_get fx hk hw (0) rfl rfl i_CaseNet 3 (by decide) rfl rfl (List.mem_cons_of_mem _ a_167) d_CN_launch_1 ?_
  refine lv_if_ne (tgt := 17) hx hb d_CN_launch_4 (by decide) (fun hc => ?_) (fun hc => ?_)
  · have h := it_f hc h
    refine lv_iconst (v := 0) hx hb d_CN_launch_17 (by decide) ?_
    exact ly_retz fx hr hlocks hk hw (Or.inl rfl) (Option.some.inj h) d_CN_launch_18
  · have h := it_t hc h
    refine lv_aload_n hx hb d_CN_launch_7 rfl (lv_at hl 0 rfl) ?_
    refine ly_getr fx hk hw (0) rfl rfl i_CaseNet 0 (by decide) rfl rfl (List.mem_cons_of_mem _ a_164) d_CN_launch_8 ?_
    obtain ⟨r1, u2, hq3, h⟩ := ck_r h
    refine ly_callVi (As := []) (rest := []) ZsC_ok fx hk hz hA hw (c_Net_definedTasks l F u _ hq3) (cw_V fx.2.2.2.2 a_254 a_255 a_256 a_2 ac_Net_definedTasks rfl rfl rfl hd_Net_definedTasks ⟨Nat.le_of_ble_eq_true rfl, Nat.le_of_ble_eq_true rfl⟩) (1) rfl rfl rfl rfl hl.1 rfl (Nat.le_of_ble_eq_true rfl) d_CN_launch_11 (Nat.zero_le _) (Nat.zero_le _) (fun r' u' H locs hp hw => ?_)
    cases hp
    refine lv_if_ne (tgt := 19) hx hb d_CN_launch_14 (by decide) (fun hc => ?_) (fun hc => ?_)
    · have h := it_f hc h
      refine lv_aload_n hx hb d_CN_launch_19 rfl (lv_at hl 0 rfl) ?_
      refine lv_iconst (v := 1) hx hb d_CN_launch_20 (by decide) ?_
      refine ly_put (v := (1 : Int32)) fx hk hw (0) rfl rfl i_CaseNet t_CaseNet t_CaseNet_ok n_CaseNet 3 (by decide) rfl rfl rfl (List.mem_cons_of_mem _ a_167) (by decide) (by decide) d_CN_launch_21 (fun H locs hw => ?_)
      obtain ⟨u4, ev⟩ : ∃ z, z = ly_pi u2 (0) 3 (1 : Int32) := ⟨_, rfl⟩
      rw [← ev] at hw
      have h := nk_r ev h
      refine lv_aload_n hx hb d_CN_launch_24 rfl (lv_at hl 0 rfl) ?_
      refine lv_iconst (v := 1) hx hb d_CN_launch_25 (by decide) ?_
      refine ly_put (v := (1 : Int32)) fx hk hw (0) rfl rfl i_CaseNet t_CaseNet t_CaseNet_ok n_CaseNet 4 (by decide) rfl rfl rfl (List.mem_cons_of_mem _ a_168) rfl rfl d_CN_launch_26 (fun H locs hw => ?_)
      obtain ⟨u5, ev⟩ : ∃ z, z = ly_pi u4 (0) 4 (1 : Int32) := ⟨_, rfl⟩
      rw [← ev] at hw
      have h := nk_r ev h
      refine lv_iconst (v := 1) hx hb d_CN_launch_29 (by decide) ?_
      exact ly_retz fx hr hlocks hk hw (Or.inr rfl) (Option.some.inj h) d_CN_launch_30
    · have h := it_t hc h
      refine lv_iconst (v := 0) hx hb d_CN_launch_17 (by decide) ?_
      exact ly_retz fx hr hlocks hk hw (Or.inl rfl) (Option.some.inj h) d_CN_launch_18
set_option maxRecDepth 100000 in
set_option maxHeartbeats 4000000 in
theorem c_CN_stop (l : Launch) (F : Nat) (t : Nat) (ht : t < 6) (u : St) (res : Int32 × St) (h : sp_CN_stop F t u = some res) : ly_Mv ZsC clA layC l y_CN_stop w_CN_stop { frames := 2, cells := 0, slots := 0, locals := 44 } (fun ad => [.ref (ad 0), .ref (ad (9 + 6 * t))]) u (fun u1 => ((0 : Int32), u1) = res) := by
  refine ly_entv (cc := b_CN_stop) (maxL := 2) (ret := none) (by decide) rfl (fun ad => Nat.le_of_ble_eq_true rfl) ?_
  intro p e s m below meth c D ad cA A ls fx hr hlocks hk hA hz hw hl
  have hl : lv_has ls 2 [(0, .ref (ad 0)), (1, .ref (ad (9 + 6 * t)))] := hl
  have hx := fx.1
  have hb := fx.2.1
  unfold sp_CN_stop at h
  refine lv_aload_n hx hb d_CN_stop_0 rfl (lv_at hl 0 rfl) ?_
  refine ly_getr fx hk hw (0) rfl rfl i_CaseNet 1 (by decide) rfl rfl (List.mem_cons_of_mem _ a_165) d_CN_stop_1 ?_
  refine lv_aload_n hx hb d_CN_stop_4 rfl (lv_at hl 1 rfl) ?_
  refine ly_get fx hk hw (9 + 6 * t) (la_T ht) rfl i_Task 11 (by decide) rfl rfl (List.mem_cons_of_mem _ a_69) d_CN_stop_5 ?_
  refine lv_aload_n hx hb d_CN_stop_8 rfl (lv_at hl 1 rfl) ?_
  refine ly_get fx hk hw (9 + 6 * t) (la_T ht) rfl i_Task 7 (by decide) rfl rfl (List.mem_cons_of_mem _ a_62) d_CN_stop_9 ?_
  obtain ⟨r1, u2, hq3, h⟩ := ck_r h
  refine ly_callVv (As := [.int (u.1 (9 + 6 * t) 11), .int (u.1 (9 + 6 * t) 7)]) (rest := []) ZsC_ok fx hk hz hA hw (c_Work_withdrawOpen l F (u.1 (9 + 6 * t) 11) (u.1 (9 + 6 * t) 7) u _ hq3) (cw_V fx.2.2.2.2 a_270 a_271 a_272 a_5 ac_Work_withdrawOpen rfl rfl rfl hd_Work_withdrawOpen ⟨Nat.le_of_ble_eq_true rfl, Nat.le_of_ble_eq_true rfl⟩) (45) rfl rfl rfl rfl hl.1 rfl (Nat.le_of_ble_eq_true rfl) d_CN_stop_12 (Nat.zero_le _) (Nat.zero_le _) (fun u' H locs hp hw => ?_)
  cases hp
  refine lv_aload_n hx hb d_CN_stop_15 rfl (lv_at hl 0 rfl) ?_
  refine lv_dup hx hb d_CN_stop_16 rfl ?_
  refine ly_get fx hk hw (0) rfl rfl i_CaseNet 4 (by decide) rfl rfl (List.mem_cons_of_mem _ a_168) d_CN_stop_17 ?_
  refine lv_aload_n hx hb d_CN_stop_20 rfl (lv_at hl 1 rfl) ?_
  refine ly_get fx hk hw (9 + 6 * t) (la_T ht) rfl i_Task 0 (by decide) rfl rfl (List.mem_cons_of_mem _ a_47) d_CN_stop_21 ?_
  refine lv_iconst (v := -1) hx hb d_CN_stop_24 (by decide) ?_
  refine lv_ixor hx hb d_CN_stop_25 ?_
  refine lv_iand hx hb d_CN_stop_26 ?_
  refine ly_put (v := ((u2.1 (0) 4) &&& ((u2.1 (9 + 6 * t) 0) ^^^ (-1 : Int32)))) fx hk hw (0) rfl rfl i_CaseNet t_CaseNet t_CaseNet_ok n_CaseNet 4 (by decide) rfl rfl rfl (List.mem_cons_of_mem _ a_168) rfl rfl d_CN_stop_27 (fun H locs hw => ?_)
  obtain ⟨u4, ev⟩ : ∃ z, z = ly_pi u2 (0) 4 ((u2.1 (0) 4) &&& ((u2.1 (9 + 6 * t) 0) ^^^ (-1 : Int32))) := ⟨_, rfl⟩
  rw [← ev] at hw
  have h := nk_r ev h
  exact ly_retv fx hr hlocks hk hw (Option.some.inj h) d_CN_stop_30
set_option maxRecDepth 100000 in
set_option maxHeartbeats 4000000 in
theorem wl_CN_stopTasksAmong_2 {p : Program} {l : Launch} {e : Env} {s : State} {m : MethodId} {args : Array Value} {below : List Frame} {meth : Method} {c : Code} {D : va_G} {ad : Nat → Nat} {cA : Nat → ClassId} {A : Nat → Prop} (fx : CallFix p m c b_CN_stopTasksAmong 4 s args w_CN_stopTasksAmong y_CN_stopTasksAmong.cls) (hr : meth.sig.returnType = none) (hlocks : meth.locks = false) (hk : ly_K D clA layC cA s) (hA : ∀ q, s.heap.size ≤ q → A q) (hz : ZsC A s s.heap) (F : Nat) (v1 : Int32) {k2 : Int32 → St → Option (Int32 × St)} {res : Int32 × St}
    (hX2 : ∀ (v2 : Int32) (u : St) (H : Heap) (locs : List Loc) (ls : Array Slot), k2 v2 u = some res → lv_has ls 4 [(0, .ref (ad 0)), (1, .int v1), (2, .int v2)] → ly_G D clA layC ad cA A s.heap u H locs → W p l e { frames := 3, cells := 0, slots := 0, locals := 65 } s m args below meth c H locs 0 0 (MQ below (va_Qv (fun u1 => ((0 : Int32), u1) = res) (ly_B D clA layC ad cA A) A) args s 0 0 A) (F0 m 43 ls [])) :
    ∀ (n : Nat) (v2 : Int32) (u : St) (H : Heap) (locs : List Loc) (ls : Array Slot), lp_CN_stopTasksAmong_2 F v1 k2 n v2 u = some res → lv_has ls 4 [(0, .ref (ad 0)), (1, .int v1), (2, .int v2)] → ly_G D clA layC ad cA A s.heap u H locs → W p l e { frames := 3, cells := 0, slots := 0, locals := 65 } s m args below meth c H locs 0 0 (MQ below (va_Qv (fun u1 => ((0 : Int32), u1) = res) (ly_B D clA layC ad cA A) A) args s 0 0 A) (F0 m 2 ls []) := by
  have hx := fx.1
  have hb := fx.2.1
  intro n
  induction n with
  | zero => intro v2 u H locs ls h; exact nomatch h
  | succ n ih =>
    intro v2 u H locs ls h hl hw
    rw [lp_CN_stopTasksAmong_2] at h
    refine lv_iload_n hx hb d_CN_stopTasksAmong_2 rfl (lv_at hl 2 rfl) ?_
    refine lv_bipush (v := 6) hx hb d_CN_stopTasksAmong_3 (by decide) ?_
    refine lv_icmp_ge (tgt := 43) hx hb d_CN_stopTasksAmong_5 (by decide) (fun hc => ?_) (fun hc => ?_)
    · have h := it_t hc h
      exact hX2 v2 u _ _ _ h (lv_sub hl [0, 1, 2] rfl) hw
    · have h := it_f hc h
      refine lv_aload_n hx hb d_CN_stopTasksAmong_8 rfl (lv_at hl 0 rfl) ?_
      refine ly_getr fx hk hw (0) rfl rfl i_CaseNet 0 (by decide) rfl rfl (List.mem_cons_of_mem _ a_164) d_CN_stopTasksAmong_9 ?_
      refine ly_getr fx hk hw (1) rfl rfl i_Net 0 (by decide) rfl rfl (List.mem_cons_of_mem _ a_122) d_CN_stopTasksAmong_12 ?_
      refine lv_iload_n hx hb d_CN_stopTasksAmong_15 rfl (lv_at hl 2 rfl) ?_
      obtain ⟨hi1, h⟩ := it_in h
      have ht2 := vt_lt hi1
      refine ly_aald fx hk hw (2) rfl hi1 (q1 := 9 + 6 * v2.toNatClampNeg) rfl d_CN_stopTasksAmong_16 ?_
      refine lv_astore_n (lv' := [(3, .ref (ad (9 + 6 * v2.toNatClampNeg))), (0, .ref (ad 0)), (1, .int v1), (2, .int v2)]) hx hb d_CN_stopTasksAmong_17 rfl hl (by decide) rfl (fun ls hl => ?_)
      refine lv_aload_n hx hb d_CN_stopTasksAmong_18 rfl (lv_at hl 1 rfl) ?_
      refine ly_get fx hk hw (0) rfl rfl i_CaseNet 4 (by decide) rfl rfl (List.mem_cons_of_mem _ a_168) d_CN_stopTasksAmong_19 ?_
      refine lv_iload_n hx hb d_CN_stopTasksAmong_22 rfl (lv_at hl 2 rfl) ?_
      refine lv_iand hx hb d_CN_stopTasksAmong_23 ?_
      refine lv_aload_n hx hb d_CN_stopTasksAmong_24 rfl (lv_at hl 0 rfl) ?_
      refine ly_get fx hk hw (9 + 6 * v2.toNatClampNeg) (la_T ht2) rfl i_Task 0 (by decide) rfl rfl (List.mem_cons_of_mem _ a_47) d_CN_stopTasksAmong_25 ?_
      refine lv_iand hx hb d_CN_stopTasksAmong_28 ?_
      refine lv_if_eq (tgt := 37) hx hb d_CN_stopTasksAmong_29 (by decide) (fun hc => ?_) (fun hc => ?_)
      · have h := it_t hc h
        refine lv_iinc (lv' := [(2, .int (v2 + (1 : Int32))), (3, .ref (ad (9 + 6 * v2.toNatClampNeg))), (0, .ref (ad 0)), (1, .int v1)]) (k := 3) hx hb d_CN_stopTasksAmong_37 hl rfl (oi_p1 _) (by decide) rfl (fun ls hl => ?_)
        refine lv_goto (tgt := 2) hx hb d_CN_stopTasksAmong_40 (by decide) ?_
        exact ih (v2 + (1 : Int32)) u _ _ _ h (lv_sub hl [2, 3, 0] rfl) hw
      · have h := it_f hc h
        refine lv_aload_n hx hb d_CN_stopTasksAmong_32 rfl (lv_at hl 1 rfl) ?_
        refine lv_aload_n hx hb d_CN_stopTasksAmong_33 rfl (lv_at hl 0 rfl) ?_
        obtain ⟨r3, u4, hq5, h⟩ := ck_r h
        refine ly_callVv (As := [.ref (ad (9 + 6 * v2.toNatClampNeg))]) (rest := []) ZsC_ok fx hk hz hA hw (c_CN_stop l F v2.toNatClampNeg ht2 u _ hq5) (cw_V fx.2.2.2.2 a_266 a_268 as_3 a_1 ac_CN_stop rfl rfl rfl hd_CN_stop ⟨Nat.le_of_ble_eq_true rfl, Nat.le_of_ble_eq_true rfl⟩) (0) rfl rfl rfl rfl hl.1 rfl (Nat.le_of_ble_eq_true rfl) d_CN_stopTasksAmong_34 (Nat.zero_le _) (Nat.zero_le _) (fun u' H locs hp hw => ?_)
        cases hp
        refine lv_iinc (lv' := [(2, .int (v2 + (1 : Int32))), (3, .ref (ad (9 + 6 * v2.toNatClampNeg))), (0, .ref (ad 0)), (1, .int v1)]) (k := 3) hx hb d_CN_stopTasksAmong_37 hl rfl (oi_p1 _) (by decide) rfl (fun ls hl => ?_)
        refine lv_goto (tgt := 2) hx hb d_CN_stopTasksAmong_40 (by decide) ?_
        exact ih (v2 + (1 : Int32)) u4 _ _ _ h (lv_sub hl [2, 3, 0] rfl) hw
set_option maxRecDepth 100000 in
set_option maxHeartbeats 4000000 in
theorem c_CN_stopTasksAmong (l : Launch) (F : Nat) (a1 : Int32) (u : St) (res : Int32 × St) (h : sp_CN_stopTasksAmong F a1 u = some res) : ly_Mv ZsC clA layC l y_CN_stopTasksAmong w_CN_stopTasksAmong { frames := 3, cells := 0, slots := 0, locals := 65 } (fun ad => [.ref (ad 0), .int a1]) u (fun u1 => ((0 : Int32), u1) = res) := by
  refine ly_entv (cc := b_CN_stopTasksAmong) (maxL := 4) (ret := none) (by decide) rfl (fun ad => Nat.le_of_ble_eq_true rfl) ?_
  intro p e s m below meth c D ad cA A ls fx hr hlocks hk hA hz hw hl
  have hl : lv_has ls 4 [(0, .ref (ad 0)), (1, .int a1)] := hl
  have hx := fx.1
  have hb := fx.2.1
  unfold sp_CN_stopTasksAmong at h
  refine lv_iconst (v := 0) hx hb d_CN_stopTasksAmong_0 (by decide) ?_
  refine lv_istore_n (lv' := [(2, .int (0 : Int32)), (0, .ref (ad 0)), (1, .int a1)]) hx hb d_CN_stopTasksAmong_1 rfl hl (by decide) rfl (fun ls hl => ?_)
  refine wl_CN_stopTasksAmong_2 fx hr hlocks hk hA hz F a1 (fun v2_6 u7 H locs ls h hl hw => ?_) _ (0 : Int32) u _ _ _ h (lv_sub hl [1, 2, 0] rfl) hw
  exact ly_retv fx hr hlocks hk hw (Option.some.inj h) d_CN_stopTasksAmong_43
set_option maxRecDepth 100000 in
set_option maxHeartbeats 4000000 in
theorem c_CN_cancel (l : Launch) (F : Nat) (u : St) (res : Int32 × St) (h : sp_CN_cancel F u = some res) : ly_Mi ZsC clA layC l y_CN_cancel w_CN_cancel { frames := 4, cells := 0, slots := 0, locals := 88 } (fun ad => [.ref (ad 0)]) u (fun r1 u1 => (r1, u1) = res) := by
  refine ly_enti (cc := b_CN_cancel) (maxL := 1) (ret := (some .boolean)) (by decide) rfl (fun ad => Nat.le_of_ble_eq_true rfl) ?_
  intro p e s m below meth c D ad cA A ls fx hr hlocks hk hA hz hw hl
  have hl : lv_has ls 1 [(0, .ref (ad 0))] := hl
  have hx := fx.1
  have hb := fx.2.1
  unfold sp_CN_cancel at h
  refine lv_aload_n hx hb d_CN_cancel_0 rfl (lv_at hl 0 rfl) ?_
  refine ly_get fx hk hw (0) rfl rfl i_CaseNet 3 (by decide) rfl rfl (List.mem_cons_of_mem _ a_167) d_CN_cancel_1 ?_
  refine lv_if_ne (tgt := 9) hx hb d_CN_cancel_4 (by decide) (fun hc => ?_) (fun hc => ?_)
  · have h := it_f hc h
    refine lv_aload_n hx hb d_CN_cancel_9 rfl (lv_at hl 0 rfl) ?_
    refine lv_aload_n hx hb d_CN_cancel_10 rfl (lv_at hl 0 rfl) ?_
    refine ly_get fx hk hw (0) rfl rfl i_CaseNet 4 (by decide) rfl rfl (List.mem_cons_of_mem _ a_168) d_CN_cancel_11 ?_
    obtain ⟨r1, u2, hq3, h⟩ := ck_r h
    refine ly_callVv (As := [.int (u.1 (0) 4)]) (rest := []) ZsC_ok fx hk hz hA hw (c_CN_stopTasksAmong l F (u.1 (0) 4) u _ hq3) (cw_V fx.2.2.2.2 a_262 a_264 as_2 a_1 ac_CN_stopTasksAmong rfl rfl rfl hd_CN_stopTasksAmong ⟨Nat.le_of_ble_eq_true rfl, Nat.le_of_ble_eq_true rfl⟩) (0) rfl rfl rfl rfl hl.1 rfl (Nat.le_of_ble_eq_true rfl) d_CN_cancel_14 (Nat.zero_le _) (Nat.zero_le _) (fun u' H locs hp hw => ?_)
    cases hp
    refine lv_aload_n hx hb d_CN_cancel_17 rfl (lv_at hl 0 rfl) ?_
    refine lv_iconst (v := 0) hx hb d_CN_cancel_18 (by decide) ?_
    refine ly_put (v := (0 : Int32)) fx hk hw (0) rfl rfl i_CaseNet t_CaseNet t_CaseNet_ok n_CaseNet 4 (by decide) rfl rfl rfl (List.mem_cons_of_mem _ a_168) rfl rfl d_CN_cancel_19 (fun H locs hw => ?_)
    obtain ⟨u4, ev⟩ : ∃ z, z = ly_pi u2 (0) 4 (0 : Int32) := ⟨_, rfl⟩
    rw [← ev] at hw
    have h := nk_r ev h
    refine lv_aload_n hx hb d_CN_cancel_22 rfl (lv_at hl 0 rfl) ?_
    refine lv_iconst (v := 0) hx hb d_CN_cancel_23 (by decide) ?_
    refine ly_put (v := (0 : Int32)) fx hk hw (0) rfl rfl i_CaseNet t_CaseNet t_CaseNet_ok n_CaseNet 3 (by decide) rfl rfl rfl (List.mem_cons_of_mem _ a_167) (by decide) (by decide) d_CN_cancel_24 (fun H locs hw => ?_)
    obtain ⟨u5, ev⟩ : ∃ z, z = ly_pi u4 (0) 3 (0 : Int32) := ⟨_, rfl⟩
    rw [← ev] at hw
    have h := nk_r ev h
    refine lv_iconst (v := 1) hx hb d_CN_cancel_27 (by decide) ?_
    exact ly_retz fx hr hlocks hk hw (Or.inr rfl) (Option.some.inj h) d_CN_cancel_28
  · have h := it_t hc h
    refine lv_iconst (v := 0) hx hb d_CN_cancel_7 (by decide) ?_
    exact ly_retz fx hr hlocks hk hw (Or.inl rfl) (Option.some.inj h) d_CN_cancel_8
set_option maxRecDepth 100000 in
set_option maxHeartbeats 4000000 in
theorem wl_CN_canMoreInputsCome_15 {p : Program} {l : Launch} {e : Env} {s : State} {m : MethodId} {args : Array Value} {below : List Frame} {meth : Method} {c : Code} {D : va_G} {ad : Nat → Nat} {cA : Nat → ClassId} {A : Nat → Prop} (fx : CallFix p m c b_CN_canMoreInputsCome 5 s args w_CN_canMoreInputsCome y_CN_canMoreInputsCome.cls) (hr : meth.sig.returnType = (some .boolean)) (hlocks : meth.locks = false) (hk : ly_K D clA layC cA s) (hA : ∀ q, s.heap.size ≤ q → A q) (hz : ZsC A s s.heap) (F : Nat) (v1 : Int32) (v2 : Int32) {k15 : Int32 → St → Option (Int32 × St)} {res : Int32 × St}
    (hX15 : ∀ (v3 : Int32) (u : St) (H : Heap) (locs : List Loc) (ls : Array Slot), k15 v3 u = some res → lv_has ls 5 [(0, .ref (ad 0)), (1, .int v1), (2, .int v2), (3, .int v3)] → ly_G D clA layC ad cA A s.heap u H locs → W p l e { frames := 4, cells := 0, slots := 0, locals := 97 } s m args below meth c H locs 0 0 (MQ below (va_Qi (fun r1 u1 => (r1, u1) = res) (ly_B D clA layC ad cA A) A) args s 0 0 A) (F0 m 72 ls [])) :
    ∀ (n : Nat) (v3 : Int32) (u : St) (H : Heap) (locs : List Loc) (ls : Array Slot), lp_CN_canMoreInputsCome_15 F v1 v2 k15 n v3 u = some res → lv_has ls 5 [(0, .ref (ad 0)), (1, .int v1), (2, .int v2), (3, .int v3)] → ly_G D clA layC ad cA A s.heap u H locs → W p l e { frames := 4, cells := 0, slots := 0, locals := 97 } s m args below meth c H locs 0 0 (MQ below (va_Qi (fun r1 u1 => (r1, u1) = res) (ly_B D clA layC ad cA A) A) args s 0 0 A) (F0 m 15 ls []) := by
  have hx := fx.1
  have hb := fx.2.1
  intro n
  induction n with
  | zero => intro v3 u H locs ls h; exact nomatch h
  | succ n ih =>
    intro v3 u H locs ls h hl hw
    rw [lp_CN_canMoreInputsCome_15] at h
    refine lv_iload_n hx hb d_CN_canMoreInputsCome_15 rfl (lv_at hl 3 rfl) ?_
    refine lv_bipush (v := 8) hx hb d_CN_canMoreInputsCome_16 (by decide) ?_
    refine lv_icmp_ge (tgt := 72) hx hb d_CN_canMoreInputsCome_18 (by decide) (fun hc => ?_) (fun hc => ?_)
    · have h := it_t hc h
      exact hX15 v3 u _ _ _ h (lv_sub hl [0, 1, 2, 3] rfl) hw
    · have h := it_f hc h
      refine lv_iload_n hx hb d_CN_canMoreInputsCome_21 rfl (lv_at hl 2 rfl) ?_
      refine lv_aload_n hx hb d_CN_canMoreInputsCome_22 rfl (lv_at hl 0 rfl) ?_
      refine ly_get fx hk hw (0) rfl rfl i_CaseNet 4 (by decide) rfl rfl (List.mem_cons_of_mem _ a_168) d_CN_canMoreInputsCome_23 ?_
      refine lv_iconst (v := -1) hx hb d_CN_canMoreInputsCome_26 (by decide) ?_
      refine lv_ixor hx hb d_CN_canMoreInputsCome_27 ?_
      refine lv_iand hx hb d_CN_canMoreInputsCome_28 ?_
      refine lv_iconst (v := 1) hx hb d_CN_canMoreInputsCome_29 (by decide) ?_
      refine lv_iload_n hx hb d_CN_canMoreInputsCome_30 rfl (lv_at hl 3 rfl) ?_
      refine lv_ishl hx hb d_CN_canMoreInputsCome_31 ?_
      refine lv_iand hx hb d_CN_canMoreInputsCome_32 ?_
      refine lv_topi (fun v4_4 ev => ?_)
      have h := nk_r ev h
      refine lv_istore (lv' := [(4, .int v4_4), (0, .ref (ad 0)), (1, .int v1), (2, .int v2), (3, .int v3)]) hx hb d_CN_canMoreInputsCome_33 hl (by decide) rfl (fun ls hl => ?_)
      refine lv_iload hx hb d_CN_canMoreInputsCome_35 (lv_at hl 0 rfl) ?_
      refine lv_if_eq (tgt := 66) hx hb d_CN_canMoreInputsCome_37 (by decide) (fun hc => ?_) (fun hc => ?_)
      · have h := it_t hc h
        refine lv_iinc (lv' := [(3, .int (v3 + (1 : Int32))), (4, .int v4_4), (0, .ref (ad 0)), (1, .int v1), (2, .int v2)]) (k := 4) hx hb d_CN_canMoreInputsCome_66 hl rfl (oi_p1 _) (by decide) rfl (fun ls hl => ?_)
        refine lv_goto (tgt := 15) hx hb d_CN_canMoreInputsCome_69 (by decide) ?_
        exact ih (v3 + (1 : Int32)) u _ _ _ h (lv_sub hl [2, 3, 4, 0] rfl) hw
      · have h := it_f hc h
        refine lv_aload_n hx hb d_CN_canMoreInputsCome_40 rfl (lv_at hl 1 rfl) ?_
        refine ly_getr fx hk hw (0) rfl rfl i_CaseNet 0 (by decide) rfl rfl (List.mem_cons_of_mem _ a_164) d_CN_canMoreInputsCome_41 ?_
        refine lv_aload_n hx hb d_CN_canMoreInputsCome_44 rfl (lv_at hl 1 rfl) ?_
        refine ly_get fx hk hw (0) rfl rfl i_CaseNet 4 (by decide) rfl rfl (List.mem_cons_of_mem _ a_168) d_CN_canMoreInputsCome_45 ?_
        refine lv_iload_n hx hb d_CN_canMoreInputsCome_48 rfl (lv_at hl 3 rfl) ?_
        refine lv_iand hx hb d_CN_canMoreInputsCome_49 ?_
        refine lv_iload hx hb d_CN_canMoreInputsCome_50 (lv_at hl 0 rfl) ?_
        refine lv_ior hx hb d_CN_canMoreInputsCome_52 ?_
        refine lv_aload_n hx hb d_CN_canMoreInputsCome_53 rfl (lv_at hl 1 rfl) ?_
        refine ly_get fx hk hw (0) rfl rfl i_CaseNet 4 (by decide) rfl rfl (List.mem_cons_of_mem _ a_168) d_CN_canMoreInputsCome_54 ?_
        refine lv_iload_n hx hb d_CN_canMoreInputsCome_57 rfl (lv_at hl 2 rfl) ?_
        obtain ⟨r5, u6, hq7, h⟩ := ck_r h
        refine ly_callVi (As := [.int (((u.1 (0) 4) &&& v2) ||| v4_4), .int (u.1 (0) 4), .int v1]) (rest := []) ZsC_ok fx hk hz hA hw (c_Net_findCovering l F (((u.1 (0) 4) &&& v2) ||| v4_4) (u.1 (0) 4) v1 u _ hq7) (cw_V fx.2.2.2.2 a_290 a_291 a_292 a_2 ac_Net_findCovering rfl rfl rfl hd_Net_findCovering ⟨Nat.le_of_ble_eq_true rfl, Nat.le_of_ble_eq_true rfl⟩) (1) rfl rfl rfl rfl hl.1 rfl (Nat.le_of_ble_eq_true rfl) d_CN_canMoreInputsCome_58 (Nat.zero_le _) (Nat.zero_le _) (fun r' u' H locs hp hw => ?_)
        cases hp
        refine lv_if_eq (tgt := 66) hx hb d_CN_canMoreInputsCome_61 (by decide) (fun hc => ?_) (fun hc => ?_)
        · have h := it_t hc h
          refine lv_iinc (lv' := [(3, .int (v3 + (1 : Int32))), (4, .int v4_4), (0, .ref (ad 0)), (1, .int v1), (2, .int v2)]) (k := 4) hx hb d_CN_canMoreInputsCome_66 hl rfl (oi_p1 _) (by decide) rfl (fun ls hl => ?_)
          refine lv_goto (tgt := 15) hx hb d_CN_canMoreInputsCome_69 (by decide) ?_
          exact ih (v3 + (1 : Int32)) u6 _ _ _ h (lv_sub hl [2, 3, 4, 0] rfl) hw
        · have h := it_f hc h
          refine lv_iconst (v := 1) hx hb d_CN_canMoreInputsCome_64 (by decide) ?_
          exact ly_retz fx hr hlocks hk hw (Or.inr rfl) (Option.some.inj h) d_CN_canMoreInputsCome_65
set_option maxRecDepth 100000 in
set_option maxHeartbeats 4000000 in
theorem c_CN_canMoreInputsCome (l : Launch) (F : Nat) (a1 : Int32) (u : St) (res : Int32 × St) (h : sp_CN_canMoreInputsCome F a1 u = some res) : ly_Mi ZsC clA layC l y_CN_canMoreInputsCome w_CN_canMoreInputsCome { frames := 4, cells := 0, slots := 0, locals := 97 } (fun ad => [.ref (ad 0), .int a1]) u (fun r1 u1 => (r1, u1) = res) := by
  refine ly_enti (cc := b_CN_canMoreInputsCome) (maxL := 5) (ret := (some .boolean)) (by decide) rfl (fun ad => Nat.le_of_ble_eq_true rfl) ?_
  intro p e s m below meth c D ad cA A ls fx hr hlocks hk hA hz hw hl
  have hl : lv_has ls 5 [(0, .ref (ad 0)), (1, .int a1)] := hl
  have hx := fx.1
  have hb := fx.2.1
  unfold sp_CN_canMoreInputsCome at h
  refine lv_aload_n hx hb d_CN_canMoreInputsCome_0 rfl (lv_at hl 0 rfl) ?_
  refine ly_getr fx hk hw (0) rfl rfl i_CaseNet 0 (by decide) rfl rfl (List.mem_cons_of_mem _ a_164) d_CN_canMoreInputsCome_1 ?_
  refine ly_getr fx hk hw (1) rfl rfl i_Net 0 (by decide) rfl rfl (List.mem_cons_of_mem _ a_122) d_CN_canMoreInputsCome_4 ?_
  refine lv_iload_n hx hb d_CN_canMoreInputsCome_7 rfl (lv_at hl 1 rfl) ?_
  obtain ⟨hi1, h⟩ := it_in h
  have ht2 := vt_lt hi1
  refine ly_aald fx hk hw (2) rfl hi1 (q1 := 9 + 6 * a1.toNatClampNeg) rfl d_CN_canMoreInputsCome_8 ?_
  refine ly_get fx hk hw (9 + 6 * a1.toNatClampNeg) (la_T ht2) rfl i_Task 4 (by decide) rfl rfl (List.mem_cons_of_mem _ a_55) d_CN_canMoreInputsCome_9 ?_
  refine lv_topi (fun v2_3 ev => ?_)
  have h := nk_r ev h
  refine lv_istore_n (lv' := [(2, .int v2_3), (0, .ref (ad 0)), (1, .int a1)]) hx hb d_CN_canMoreInputsCome_12 rfl hl (by decide) rfl (fun ls hl => ?_)
  refine lv_iconst (v := 0) hx hb d_CN_canMoreInputsCome_13 (by decide) ?_
  refine lv_istore_n (lv' := [(3, .int (0 : Int32)), (2, .int v2_3), (0, .ref (ad 0)), (1, .int a1)]) hx hb d_CN_canMoreInputsCome_14 rfl hl (by decide) rfl (fun ls hl => ?_)
  refine wl_CN_canMoreInputsCome_15 fx hr hlocks hk hA hz F a1 v2_3 (fun v3_8 u9 H locs ls h hl hw => ?_) _ (0 : Int32) u _ _ _ h (lv_sub hl [2, 3, 1, 0] rfl) hw
  refine lv_iconst (v := 0) hx hb d_CN_canMoreInputsCome_72 (by decide) ?_
  exact ly_retz fx hr hlocks hk hw (Or.inl rfl) (Option.some.inj h) d_CN_canMoreInputsCome_73
set_option maxRecDepth 100000 in
set_option maxHeartbeats 4000000 in
theorem c_CN_canFire (l : Launch) (F : Nat) (a1 : Int32) (u : St) (res : Int32 × St) (h : sp_CN_canFire F a1 u = some res) : ly_Mi ZsC clA layC l y_CN_canFire w_CN_canFire { frames := 5, cells := 0, slots := 0, locals := 121 } (fun ad => [.ref (ad 0), .int a1]) u (fun r1 u1 => (r1, u1) = res) := by
  refine ly_enti (cc := b_CN_canFire) (maxL := 4) (ret := (some .boolean)) (by decide) rfl (fun ad => Nat.le_of_ble_eq_true rfl) ?_
  intro p e s m below meth c D ad cA A ls fx hr hlocks hk hA hz hw hl
  have hl : lv_has ls 4 [(0, .ref (ad 0)), (1, .int a1)] := hl
  have hx := fx.1
  have hb := fx.2.1
  unfold sp_CN_canFire at h
  refine lv_aload_n hx hb d_CN_canFire_0 rfl (lv_at hl 0 rfl) ?_
  refine ly_get fx hk hw (0) rfl rfl i_CaseNet 3 (by decide) rfl rfl (List.mem_cons_of_mem _ a_167) d_CN_canFire_1 ?_
  refine lv_if_eq (tgt := 18) hx hb d_CN_canFire_4 (by decide) (fun hc => ?_) (fun hc => ?_)
  · have h := it_t hc h
    refine lv_iconst (v := 0) hx hb d_CN_canFire_18 (by decide) ?_
    exact ly_retz fx hr hlocks hk hw (Or.inl rfl) (Option.some.inj h) d_CN_canFire_19
  · have h := it_f hc h
    refine lv_aload_n hx hb d_CN_canFire_7 rfl (lv_at hl 0 rfl) ?_
    refine ly_getr fx hk hw (0) rfl rfl i_CaseNet 0 (by decide) rfl rfl (List.mem_cons_of_mem _ a_164) d_CN_canFire_8 ?_
    refine lv_iload_n hx hb d_CN_canFire_11 rfl (lv_at hl 1 rfl) ?_
    obtain ⟨r1, u2, hq3, h⟩ := ck_r h
    refine ly_callVi (As := [.int a1]) (rest := []) ZsC_ok fx hk hz hA hw (c_Net_isDefined l a1 u _ hq3) (cw_V fx.2.2.2.2 a_229 a_230 a_231 a_2 ac_Net_isDefined rfl rfl rfl hd_Net_isDefined ⟨Nat.le_of_ble_eq_true rfl, Nat.le_of_ble_eq_true rfl⟩) (1) rfl rfl rfl rfl hl.1 rfl (Nat.le_of_ble_eq_true rfl) d_CN_canFire_12 (Nat.zero_le _) (Nat.zero_le _) (fun r' u' H locs hp hw => ?_)
    cases hp
    refine lv_if_ne (tgt := 20) hx hb d_CN_canFire_15 (by decide) (fun hc => ?_) (fun hc => ?_)
    · have h := it_f hc h
      refine lv_aload_n hx hb d_CN_canFire_20 rfl (lv_at hl 0 rfl) ?_
      refine ly_getr fx hk hw (0) rfl rfl i_CaseNet 0 (by decide) rfl rfl (List.mem_cons_of_mem _ a_164) d_CN_canFire_21 ?_
      refine ly_getr fx hk hw (1) rfl rfl i_Net 0 (by decide) rfl rfl (List.mem_cons_of_mem _ a_122) d_CN_canFire_24 ?_
      refine lv_iload_n hx hb d_CN_canFire_27 rfl (lv_at hl 1 rfl) ?_
      obtain ⟨hi4, h⟩ := it_in h
      have ht5 := vt_lt hi4
      refine ly_aald fx hk hw (2) rfl hi4 (q1 := 9 + 6 * a1.toNatClampNeg) rfl d_CN_canFire_28 ?_
      refine lv_astore_n (lv' := [(2, .ref (ad (9 + 6 * a1.toNatClampNeg))), (0, .ref (ad 0)), (1, .int a1)]) hx hb d_CN_canFire_29 rfl hl (by decide) rfl (fun ls hl => ?_)
      refine lv_aload_n hx hb d_CN_canFire_30 rfl (lv_at hl 1 rfl) ?_
      refine ly_get fx hk hw (0) rfl rfl i_CaseNet 4 (by decide) rfl rfl (List.mem_cons_of_mem _ a_168) d_CN_canFire_31 ?_
      refine lv_aload_n hx hb d_CN_canFire_34 rfl (lv_at hl 0 rfl) ?_
      refine ly_get fx hk hw (9 + 6 * a1.toNatClampNeg) (la_T ht5) rfl i_Task 4 (by decide) rfl rfl (List.mem_cons_of_mem _ a_55) d_CN_canFire_35 ?_
      refine lv_iand hx hb d_CN_canFire_38 ?_
      refine lv_topi (fun v3_6 ev => ?_)
      have h := nk_r ev h
      refine lv_istore_n (lv' := [(3, .int v3_6), (2, .ref (ad (9 + 6 * a1.toNatClampNeg))), (0, .ref (ad 0)), (1, .int a1)]) hx hb d_CN_canFire_39 rfl hl (by decide) rfl (fun ls hl => ?_)
      refine lv_aload_n hx hb d_CN_canFire_40 rfl (lv_at hl 2 rfl) ?_
      refine ly_get fx hk hw (0) rfl rfl i_CaseNet 4 (by decide) rfl rfl (List.mem_cons_of_mem _ a_168) d_CN_canFire_41 ?_
      refine lv_aload_n hx hb d_CN_canFire_44 rfl (lv_at hl 1 rfl) ?_
      refine ly_get fx hk hw (9 + 6 * a1.toNatClampNeg) (la_T ht5) rfl i_Task 0 (by decide) rfl rfl (List.mem_cons_of_mem _ a_47) d_CN_canFire_45 ?_
      refine lv_iand hx hb d_CN_canFire_48 ?_
      refine lv_if_ne (tgt := 56) hx hb d_CN_canFire_49 (by decide) (fun hc => ?_) (fun hc => ?_)
      · have h := it_f hc h
        refine lv_iconst (v := 0) hx hb d_CN_canFire_56 (by decide) ?_
        exact ly_retz fx hr hlocks hk hw (Or.inl rfl) (Option.some.inj h) d_CN_canFire_57
      · have h := it_t hc h
        refine lv_iload_n hx hb d_CN_canFire_52 rfl (lv_at hl 0 rfl) ?_
        refine lv_if_ne (tgt := 58) hx hb d_CN_canFire_53 (by decide) (fun hc => ?_) (fun hc => ?_)
        · have h := it_f hc h
          refine lv_aload_n hx hb d_CN_canFire_58 rfl (lv_at hl 1 rfl) ?_
          refine ly_get fx hk hw (9 + 6 * a1.toNatClampNeg) (la_T ht5) rfl i_Task 2 (by decide) rfl rfl (List.mem_cons_of_mem _ a_52) d_CN_canFire_59 ?_
          by_cases hc7 : (u2.1 (9 + 6 * a1.toNatClampNeg) 2) = (0 : Int32)
          · have h := it_t hc7 h
            refine lv_lookup (off := 26) (tgt := 88) hx hb d_CN_canFire_62 (by decide) (by rw [hc7]; decide) (by decide) ?_
            refine lv_iload_n hx hb d_CN_canFire_88 rfl (lv_at hl 0 rfl) ?_
            refine lv_aload_n hx hb d_CN_canFire_89 rfl (lv_at hl 1 rfl) ?_
            refine ly_get fx hk hw (9 + 6 * a1.toNatClampNeg) (la_T ht5) rfl i_Task 4 (by decide) rfl rfl (List.mem_cons_of_mem _ a_55) d_CN_canFire_90 ?_
            refine lv_icmp_ne (tgt := 100) hx hb d_CN_canFire_93 (by decide) (fun hc => ?_) (fun hc => ?_)
            · have h := it_f hc h
              refine lv_iconst (v := 0) hx hb d_CN_canFire_100 (by decide) ?_
              exact ly_retz fx hr hlocks hk hw (Or.inl rfl) (Option.some.inj h) d_CN_canFire_101
            · have h := it_t hc h
              refine lv_iconst (v := 1) hx hb d_CN_canFire_96 (by decide) ?_
              refine lv_goto (tgt := 101) hx hb d_CN_canFire_97 (by decide) ?_
              exact ly_retz fx hr hlocks hk hw (Or.inr rfl) (Option.some.inj h) d_CN_canFire_101
          have h := it_f hc7 h
          by_cases hc8 : (u2.1 (9 + 6 * a1.toNatClampNeg) 2) = (1 : Int32)
          · have h := it_t hc8 h
            refine lv_lookup (off := 40) (tgt := 102) hx hb d_CN_canFire_62 (by decide) (by rw [hc8]; decide) (by decide) ?_
            refine lv_iconst (v := 1) hx hb d_CN_canFire_102 (by decide) ?_
            exact ly_retz fx hr hlocks hk hw (Or.inr rfl) (Option.some.inj h) d_CN_canFire_103
          have h := it_f hc8 h
          refine lv_lookup (off := 42) (tgt := 104) hx hb d_CN_canFire_62 (by decide) ((lv_osw hc7 (by decide)).trans ((lv_osw hc8 (by decide)).trans rfl)) (by decide) ?_
          refine lv_aload_n hx hb d_CN_canFire_104 rfl (lv_at hl 2 rfl) ?_
          refine lv_iload_n hx hb d_CN_canFire_105 rfl (lv_at hl 3 rfl) ?_
          obtain ⟨r9, u10, hq11, h⟩ := ck_r h
          refine ly_callVi (As := [.int a1]) (rest := []) ZsC_ok fx hk hz hA hw (c_CN_canMoreInputsCome l F a1 u2 _ hq11) (cw_V fx.2.2.2.2 a_286 a_288 as_5 a_1 ac_CN_canMoreInputsCome rfl rfl rfl hd_CN_canMoreInputsCome ⟨Nat.le_of_ble_eq_true rfl, Nat.le_of_ble_eq_true rfl⟩) (0) rfl rfl rfl rfl hl.1 rfl (Nat.le_of_ble_eq_true rfl) d_CN_canFire_106 (Nat.zero_le _) (Nat.zero_le _) (fun r' u' H locs hp hw => ?_)
          cases hp
          refine lv_if_ne (tgt := 116) hx hb d_CN_canFire_109 (by decide) (fun hc => ?_) (fun hc => ?_)
          · have h := it_f hc h
            refine lv_iconst (v := 0) hx hb d_CN_canFire_116 (by decide) ?_
            exact ly_retz fx hr hlocks hk hw (Or.inl rfl) (Option.some.inj h) d_CN_canFire_117
          · have h := it_t hc h
            refine lv_iconst (v := 1) hx hb d_CN_canFire_112 (by decide) ?_
            refine lv_goto (tgt := 117) hx hb d_CN_canFire_113 (by decide) ?_
            exact ly_retz fx hr hlocks hk hw (Or.inr rfl) (Option.some.inj h) d_CN_canFire_117
        · have h := it_t hc h
          refine lv_iconst (v := 0) hx hb d_CN_canFire_56 (by decide) ?_
          exact ly_retz fx hr hlocks hk hw (Or.inl rfl) (Option.some.inj h) d_CN_canFire_57
    · have h := it_t hc h
      refine lv_iconst (v := 0) hx hb d_CN_canFire_18 (by decide) ?_
      exact ly_retz fx hr hlocks hk hw (Or.inl rfl) (Option.some.inj h) d_CN_canFire_19
set_option maxRecDepth 100000 in
set_option maxHeartbeats 4000000 in
theorem wl_CN_enabled_4 {p : Program} {l : Launch} {e : Env} {s : State} {m : MethodId} {args : Array Value} {below : List Frame} {meth : Method} {c : Code} {D : va_G} {ad : Nat → Nat} {cA : Nat → ClassId} {A : Nat → Prop} (fx : CallFix p m c b_CN_enabled 3 s args w_CN_enabled y_CN_enabled.cls) (hr : meth.sig.returnType = (some .int)) (hlocks : meth.locks = false) (hk : ly_K D clA layC cA s) (hA : ∀ q, s.heap.size ≤ q → A q) (hz : ZsC A s s.heap) (F : Nat) {k4 : Int32 → Int32 → St → Option (Int32 × St)} {res : Int32 × St}
    (hX4 : ∀ (v1 : Int32) (v2 : Int32) (u : St) (H : Heap) (locs : List Loc) (ls : Array Slot), k4 v1 v2 u = some res → lv_has ls 3 [(0, .ref (ad 0)), (1, .int v1), (2, .int v2)] → ly_G D clA layC ad cA A s.heap u H locs → W p l e { frames := 6, cells := 0, slots := 0, locals := 144 } s m args below meth c H locs 0 0 (MQ below (va_Qi (fun r1 u1 => (r1, u1) = res) (ly_B D clA layC ad cA A) A) args s 0 0 A) (F0 m 30 ls [])) :
    ∀ (n : Nat) (v1 : Int32) (v2 : Int32) (u : St) (H : Heap) (locs : List Loc) (ls : Array Slot), lp_CN_enabled_4 F k4 n v1 v2 u = some res → lv_has ls 3 [(0, .ref (ad 0)), (1, .int v1), (2, .int v2)] → ly_G D clA layC ad cA A s.heap u H locs → W p l e { frames := 6, cells := 0, slots := 0, locals := 144 } s m args below meth c H locs 0 0 (MQ below (va_Qi (fun r1 u1 => (r1, u1) = res) (ly_B D clA layC ad cA A) A) args s 0 0 A) (F0 m 4 ls []) := by
  have hx := fx.1
  have hb := fx.2.1
  intro n
  induction n with
  | zero => intro v1 v2 u H locs ls h; exact nomatch h
  | succ n ih =>
    intro v1 v2 u H locs ls h hl hw
    rw [lp_CN_enabled_4] at h
    refine lv_iload_n hx hb d_CN_enabled_4 rfl (lv_at hl 2 rfl) ?_
    refine lv_bipush (v := 6) hx hb d_CN_enabled_5 (by decide) ?_
    refine lv_icmp_ge (tgt := 30) hx hb d_CN_enabled_7 (by decide) (fun hc => ?_) (fun hc => ?_)
    · have h := it_t hc h
      exact hX4 v1 v2 u _ _ _ h (lv_sub hl [0, 1, 2] rfl) hw
    · have h := it_f hc h
      refine lv_aload_n hx hb d_CN_enabled_10 rfl (lv_at hl 0 rfl) ?_
      refine lv_iload_n hx hb d_CN_enabled_11 rfl (lv_at hl 2 rfl) ?_
      obtain ⟨r1, u2, hq3, h⟩ := ck_r h
      refine ly_callVi (As := [.int v2]) (rest := []) ZsC_ok fx hk hz hA hw (c_CN_canFire l F v2 u _ hq3) (cw_V fx.2.2.2.2 a_282 a_284 as_4 a_1 ac_CN_canFire rfl rfl rfl hd_CN_canFire ⟨Nat.le_of_ble_eq_true rfl, Nat.le_of_ble_eq_true rfl⟩) (0) rfl rfl rfl rfl hl.1 rfl (Nat.le_of_ble_eq_true rfl) d_CN_enabled_12 (Nat.zero_le _) (Nat.zero_le _) (fun r' u' H locs hp hw => ?_)
      cases hp
      refine lv_if_eq (tgt := 24) hx hb d_CN_enabled_15 (by decide) (fun hc => ?_) (fun hc => ?_)
      · have h := it_t hc h
        refine lv_iinc (lv' := [(2, .int (v2 + (1 : Int32))), (0, .ref (ad 0)), (1, .int v1)]) (k := 2) hx hb d_CN_enabled_24 hl rfl (oi_p1 _) (by decide) rfl (fun ls hl => ?_)
        refine lv_goto (tgt := 4) hx hb d_CN_enabled_27 (by decide) ?_
        exact ih v1 (v2 + (1 : Int32)) u2 _ _ _ h (lv_sub hl [1, 2, 0] rfl) hw
      · have h := it_f hc h
        refine lv_iload_n hx hb d_CN_enabled_18 rfl (lv_at hl 1 rfl) ?_
        refine lv_iconst (v := 1) hx hb d_CN_enabled_19 (by decide) ?_
        refine lv_iload_n hx hb d_CN_enabled_20 rfl (lv_at hl 2 rfl) ?_
        refine lv_ishl hx hb d_CN_enabled_21 ?_
        refine lv_ior hx hb d_CN_enabled_22 ?_
        refine lv_topi (fun v1_4 ev => ?_)
        have h := nk_r ev h
        refine lv_istore_n (lv' := [(1, .int v1_4), (0, .ref (ad 0)), (2, .int v2)]) hx hb d_CN_enabled_23 rfl hl (by decide) rfl (fun ls hl => ?_)
        refine lv_iinc (lv' := [(2, .int (v2 + (1 : Int32))), (1, .int v1_4), (0, .ref (ad 0))]) (k := 2) hx hb d_CN_enabled_24 hl rfl (oi_p1 _) (by decide) rfl (fun ls hl => ?_)
        refine lv_goto (tgt := 4) hx hb d_CN_enabled_27 (by decide) ?_
        exact ih v1_4 (v2 + (1 : Int32)) u2 _ _ _ h (lv_sub hl [2, 1, 0] rfl) hw
set_option maxRecDepth 100000 in
set_option maxHeartbeats 4000000 in
theorem c_CN_enabled (l : Launch) (F : Nat) (u : St) (res : Int32 × St) (h : sp_CN_enabled F u = some res) : ly_Mi ZsC clA layC l y_CN_enabled w_CN_enabled { frames := 6, cells := 0, slots := 0, locals := 144 } (fun ad => [.ref (ad 0)]) u (fun r1 u1 => (r1, u1) = res) := by
  refine ly_enti (cc := b_CN_enabled) (maxL := 3) (ret := (some .int)) (by decide) rfl (fun ad => Nat.le_of_ble_eq_true rfl) ?_
  intro p e s m below meth c D ad cA A ls fx hr hlocks hk hA hz hw hl
  have hl : lv_has ls 3 [(0, .ref (ad 0))] := hl
  have hx := fx.1
  have hb := fx.2.1
  unfold sp_CN_enabled at h
  refine lv_iconst (v := 0) hx hb d_CN_enabled_0 (by decide) ?_
  refine lv_istore_n (lv' := [(1, .int (0 : Int32)), (0, .ref (ad 0))]) hx hb d_CN_enabled_1 rfl hl (by decide) rfl (fun ls hl => ?_)
  refine lv_iconst (v := 0) hx hb d_CN_enabled_2 (by decide) ?_
  refine lv_istore_n (lv' := [(2, .int (0 : Int32)), (1, .int (0 : Int32)), (0, .ref (ad 0))]) hx hb d_CN_enabled_3 rfl hl (by decide) rfl (fun ls hl => ?_)
  refine wl_CN_enabled_4 fx hr hlocks hk hA hz F (fun v1_5 v2_6 u7 H locs ls h hl hw => ?_) _ (0 : Int32) (0 : Int32) u _ _ _ h (lv_sub hl [2, 1, 0] rfl) hw
  refine lv_iload_n hx hb d_CN_enabled_30 rfl (lv_at hl 1 rfl) ?_
  exact ly_reti fx hr hlocks hk hw (Option.some.inj h) d_CN_enabled_31
set_option maxRecDepth 100000 in
set_option maxHeartbeats 4000000 in
theorem c_CN_fire (l : Launch) (F : Nat) (a1 : Int32) (u : St) (res : Int32 × St) (h : sp_CN_fire F a1 u = some res) : ly_Mi ZsC clA layC l y_CN_fire w_CN_fire { frames := 6, cells := 0, slots := 0, locals := 144 } (fun ad => [.ref (ad 0), .int a1]) u (fun r1 u1 => (r1, u1) = res) := by
  refine ly_enti (cc := b_CN_fire) (maxL := 3) (ret := (some .int)) (by decide) rfl (fun ad => Nat.le_of_ble_eq_true rfl) ?_
  intro p e s m below meth c D ad cA A ls fx hr hlocks hk hA hz hw hl
  have hl : lv_has ls 3 [(0, .ref (ad 0)), (1, .int a1)] := hl
  have hx := fx.1
  have hb := fx.2.1
  unfold sp_CN_fire at h
  refine lv_aload_n hx hb d_CN_fire_0 rfl (lv_at hl 0 rfl) ?_
  refine ly_getr fx hk hw (0) rfl rfl i_CaseNet 0 (by decide) rfl rfl (List.mem_cons_of_mem _ a_164) d_CN_fire_1 ?_
  refine lv_iload_n hx hb d_CN_fire_4 rfl (lv_at hl 1 rfl) ?_
  obtain ⟨r1, u2, hq3, h⟩ := ck_r h
  refine ly_callVi (As := [.int a1]) (rest := []) ZsC_ok fx hk hz hA hw (c_Net_isDefined l a1 u _ hq3) (cw_V fx.2.2.2.2 a_229 a_230 a_231 a_2 ac_Net_isDefined rfl rfl rfl hd_Net_isDefined ⟨Nat.le_of_ble_eq_true rfl, Nat.le_of_ble_eq_true rfl⟩) (1) rfl rfl rfl rfl hl.1 rfl (Nat.le_of_ble_eq_true rfl) d_CN_fire_5 (Nat.zero_le _) (Nat.zero_le _) (fun r' u' H locs hp hw => ?_)
  cases hp
  refine lv_if_ne (tgt := 13) hx hb d_CN_fire_8 (by decide) (fun hc => ?_) (fun hc => ?_)
  · have h := it_f hc h
    refine lv_aload_n hx hb d_CN_fire_13 rfl (lv_at hl 0 rfl) ?_
    refine lv_iload_n hx hb d_CN_fire_14 rfl (lv_at hl 1 rfl) ?_
    obtain ⟨r4, u5, hq6, h⟩ := ck_r h
    refine ly_callVi (As := [.int a1]) (rest := []) ZsC_ok fx hk hz hA hw (c_CN_canFire l F a1 u2 _ hq6) (cw_V fx.2.2.2.2 a_282 a_284 as_4 a_1 ac_CN_canFire rfl rfl rfl hd_CN_canFire ⟨Nat.le_of_ble_eq_true rfl, Nat.le_of_ble_eq_true rfl⟩) (0) rfl rfl rfl rfl hl.1 rfl (Nat.le_of_ble_eq_true rfl) d_CN_fire_15 (Nat.zero_le _) (Nat.zero_le _) (fun r' u' H locs hp hw => ?_)
    cases hp
    refine lv_if_ne (tgt := 24) hx hb d_CN_fire_18 (by decide) (fun hc => ?_) (fun hc => ?_)
    · have h := it_f hc h
      refine lv_aload_n hx hb d_CN_fire_24 rfl (lv_at hl 0 rfl) ?_
      refine ly_getr fx hk hw (0) rfl rfl i_CaseNet 0 (by decide) rfl rfl (List.mem_cons_of_mem _ a_164) d_CN_fire_25 ?_
      refine ly_getr fx hk hw (1) rfl rfl i_Net 0 (by decide) rfl rfl (List.mem_cons_of_mem _ a_122) d_CN_fire_28 ?_
      refine lv_iload_n hx hb d_CN_fire_31 rfl (lv_at hl 1 rfl) ?_
      obtain ⟨hi7, h⟩ := it_in h
      have ht8 := vt_lt hi7
      refine ly_aald fx hk hw (2) rfl hi7 (q1 := 9 + 6 * a1.toNatClampNeg) rfl d_CN_fire_32 ?_
      refine lv_astore_n (lv' := [(2, .ref (ad (9 + 6 * a1.toNatClampNeg))), (0, .ref (ad 0)), (1, .int a1)]) hx hb d_CN_fire_33 rfl hl (by decide) rfl (fun ls hl => ?_)
      refine lv_aload_n hx hb d_CN_fire_34 rfl (lv_at hl 1 rfl) ?_
      refine ly_getr fx hk hw (0) rfl rfl i_CaseNet 1 (by decide) rfl rfl (List.mem_cons_of_mem _ a_165) d_CN_fire_35 ?_
      refine lv_aload_n hx hb d_CN_fire_38 rfl (lv_at hl 0 rfl) ?_
      refine ly_get fx hk hw (9 + 6 * a1.toNatClampNeg) (la_T ht8) rfl i_Task 7 (by decide) rfl rfl (List.mem_cons_of_mem _ a_62) d_CN_fire_39 ?_
      obtain ⟨r9, u10, hq11, h⟩ := ck_r h
      refine ly_callVi (As := [.int (u5.1 (9 + 6 * a1.toNatClampNeg) 7)]) (rest := []) ZsC_ok fx hk hz hA hw (c_Work_hasRoomFor l (u5.1 (9 + 6 * a1.toNatClampNeg) 7) u5 _ hq11) (cw_V fx.2.2.2.2 a_342 a_343 a_344 a_5 ac_Work_hasRoomFor rfl rfl rfl hd_Work_hasRoomFor ⟨Nat.le_of_ble_eq_true rfl, Nat.le_of_ble_eq_true rfl⟩) (45) rfl rfl rfl rfl hl.1 rfl (Nat.le_of_ble_eq_true rfl) d_CN_fire_42 (Nat.zero_le _) (Nat.zero_le _) (fun r' u' H locs hp hw => ?_)
      cases hp
      refine lv_if_ne (tgt := 51) hx hb d_CN_fire_45 (by decide) (fun hc => ?_) (fun hc => ?_)
      · have h := it_f hc h
        refine lv_aload_n hx hb d_CN_fire_51 rfl (lv_at hl 1 rfl) ?_
        refine lv_aload_n hx hb d_CN_fire_52 rfl (lv_at hl 1 rfl) ?_
        refine ly_get fx hk hw (0) rfl rfl i_CaseNet 4 (by decide) rfl rfl (List.mem_cons_of_mem _ a_168) d_CN_fire_53 ?_
        refine lv_aload_n hx hb d_CN_fire_56 rfl (lv_at hl 0 rfl) ?_
        refine lv_aload_n hx hb d_CN_fire_57 rfl (lv_at hl 1 rfl) ?_
        refine ly_get fx hk hw (0) rfl rfl i_CaseNet 4 (by decide) rfl rfl (List.mem_cons_of_mem _ a_168) d_CN_fire_58 ?_
        obtain ⟨r12, u13, hq14, h⟩ := ck_r h
        refine ly_callVi (As := [.int (u10.1 (0) 4)]) (rest := [.int (u10.1 (0) 4), .ref (ad 0)]) ZsC_ok fx hk hz hA hw (c_Task_inputsUsed l a1.toNatClampNeg (u10.1 (0) 4) ht8 u10 _ hq14) (cw_V fx.2.2.2.2 a_346 a_347 a_348 a_4 ac_Task_inputsUsed rfl rfl rfl hd_Task_inputsUsed ⟨Nat.le_of_ble_eq_true rfl, Nat.le_of_ble_eq_true rfl⟩) (9 + 6 * a1.toNatClampNeg) (la_T ht8) rfl rfl rfl hl.1 rfl (Nat.le_of_ble_eq_true rfl) d_CN_fire_61 (Nat.zero_le _) (Nat.zero_le _) (fun r' u' H locs hp hw => ?_)
        cases hp
        refine lv_iconst (v := -1) hx hb d_CN_fire_64 (by decide) ?_
        refine lv_ixor hx hb d_CN_fire_65 ?_
        refine lv_iand hx hb d_CN_fire_66 ?_
        refine lv_aload_n hx hb d_CN_fire_67 rfl (lv_at hl 0 rfl) ?_
        refine ly_get fx hk hw (9 + 6 * a1.toNatClampNeg) (la_T ht8) rfl i_Task 0 (by decide) rfl rfl (List.mem_cons_of_mem _ a_47) d_CN_fire_68 ?_
        refine lv_ior hx hb d_CN_fire_71 ?_
        refine ly_put (v := (((u10.1 (0) 4) &&& (r12 ^^^ (-1 : Int32))) ||| (u13.1 (9 + 6 * a1.toNatClampNeg) 0))) fx hk hw (0) rfl rfl i_CaseNet t_CaseNet t_CaseNet_ok n_CaseNet 4 (by decide) rfl rfl rfl (List.mem_cons_of_mem _ a_168) rfl rfl d_CN_fire_72 (fun H locs hw => ?_)
        obtain ⟨u15, ev⟩ : ∃ z, z = ly_pi u13 (0) 4 (((u10.1 (0) 4) &&& (r12 ^^^ (-1 : Int32))) ||| (u13.1 (9 + 6 * a1.toNatClampNeg) 0)) := ⟨_, rfl⟩
        rw [← ev] at hw
        have h := nk_r ev h
        refine lv_aload_n hx hb d_CN_fire_75 rfl (lv_at hl 0 rfl) ?_
        refine lv_aload_n hx hb d_CN_fire_76 rfl (lv_at hl 1 rfl) ?_
        refine ly_getr fx hk hw (0) rfl rfl i_CaseNet 1 (by decide) rfl rfl (List.mem_cons_of_mem _ a_165) d_CN_fire_77 ?_
        refine lv_iload_n hx hb d_CN_fire_80 rfl (lv_at hl 2 rfl) ?_
        refine lv_aload_n hx hb d_CN_fire_81 rfl (lv_at hl 0 rfl) ?_
        refine ly_get fx hk hw (9 + 6 * a1.toNatClampNeg) (la_T ht8) rfl i_Task 7 (by decide) rfl rfl (List.mem_cons_of_mem _ a_62) d_CN_fire_82 ?_
        refine lv_aload_n hx hb d_CN_fire_85 rfl (lv_at hl 1 rfl) ?_
        refine ly_get fx hk hw (0) rfl rfl i_CaseNet 5 (by decide) rfl rfl (List.mem_cons_of_mem _ a_169) d_CN_fire_86 ?_
        obtain ⟨r16, u17, hq18, h⟩ := ck_r h
        refine ly_callVi (As := [.int a1, .int (u15.1 (9 + 6 * a1.toNatClampNeg) 7), .int (u15.1 (0) 5)]) (rest := [.ref (ad (9 + 6 * a1.toNatClampNeg))]) ZsC_ok fx hk hz hA hw (c_Work_offer l F a1 (u15.1 (9 + 6 * a1.toNatClampNeg) 7) (u15.1 (0) 5) u15 _ hq18) (cw_V fx.2.2.2.2 a_350 a_351 a_352 a_5 ac_Work_offer rfl rfl rfl hd_Work_offer ⟨Nat.le_of_ble_eq_true rfl, Nat.le_of_ble_eq_true rfl⟩) (45) rfl rfl rfl rfl hl.1 rfl (Nat.le_of_ble_eq_true rfl) d_CN_fire_89 (Nat.zero_le _) (Nat.zero_le _) (fun r' u' H locs hp hw => ?_)
        cases hp
        refine ly_put (v := r16) fx hk hw (9 + 6 * a1.toNatClampNeg) (la_T ht8) rfl i_Task t_Task t_Task_ok n_Task 11 (by decide) rfl rfl rfl (List.mem_cons_of_mem _ a_69) rfl rfl d_CN_fire_92 (fun H locs hw => ?_)
        obtain ⟨u19, ev⟩ : ∃ z, z = ly_pi u17 (9 + 6 * a1.toNatClampNeg) 11 r16 := ⟨_, rfl⟩
        rw [← ev] at hw
        have h := nk_r ev h
        refine lv_aload_n hx hb d_CN_fire_95 rfl (lv_at hl 0 rfl) ?_
        refine ly_get fx hk hw (9 + 6 * a1.toNatClampNeg) (la_T ht8) rfl i_Task 11 (by decide) rfl rfl (List.mem_cons_of_mem _ a_69) d_CN_fire_96 ?_
        exact ly_reti fx hr hlocks hk hw (Option.some.inj h) d_CN_fire_99
      · have h := it_t hc h
        refine lv_bipush (v := -3) hx hb d_CN_fire_48 (by decide) ?_
        exact ly_reti fx hr hlocks hk hw (Option.some.inj h) d_CN_fire_50
    · have h := it_t hc h
      refine lv_bipush (v := -2) hx hb d_CN_fire_21 (by decide) ?_
      exact ly_reti fx hr hlocks hk hw (Option.some.inj h) d_CN_fire_23
  · have h := it_t hc h
    refine lv_iconst (v := -1) hx hb d_CN_fire_11 (by decide) ?_
    exact ly_reti fx hr hlocks hk hw (Option.some.inj h) d_CN_fire_12
set_option maxRecDepth 100000 in
set_option maxHeartbeats 4000000 in
theorem c_CN_start (l : Launch) (a1 : Int32) (u : St) (res : Int32 × St) (h : sp_CN_start a1 u = some res) : ly_Mi ZsC clA layC l y_CN_start w_CN_start { frames := 1, cells := 0, slots := 0, locals := 21 } (fun ad => [.ref (ad 0), .int a1]) u (fun r1 u1 => (r1, u1) = res) := by
  refine ly_enti (cc := b_CN_start) (maxL := 2) (ret := (some .int)) (by decide) rfl (fun ad => Nat.le_of_ble_eq_true rfl) ?_
  intro p e s m below meth c D ad cA A ls fx hr hlocks hk hA hz hw hl
  have hl : lv_has ls 2 [(0, .ref (ad 0)), (1, .int a1)] := hl
  have hx := fx.1
  have hb := fx.2.1
  unfold sp_CN_start at h
  refine lv_aload_n hx hb d_CN_start_0 rfl (lv_at hl 0 rfl) ?_
  refine ly_getr fx hk hw (0) rfl rfl i_CaseNet 1 (by decide) rfl rfl (List.mem_cons_of_mem _ a_165) d_CN_start_1 ?_
  refine lv_iload_n hx hb d_CN_start_4 rfl (lv_at hl 1 rfl) ?_
  obtain ⟨r1, u2, hq3, h⟩ := ck_r h
  refine ly_callVi (As := [.int a1]) (rest := []) ZsC_ok fx hk hz hA hw (c_Work_has l a1 u _ hq3) (cw_V fx.2.2.2.2 a_358 a_359 a_360 a_5 ac_Work_has rfl rfl rfl hd_Work_has ⟨Nat.le_of_ble_eq_true rfl, Nat.le_of_ble_eq_true rfl⟩) (45) rfl rfl rfl rfl hl.1 rfl (Nat.le_of_ble_eq_true rfl) d_CN_start_5 (Nat.zero_le _) (Nat.zero_le _) (fun r' u' H locs hp hw => ?_)
  cases hp
  refine lv_if_ne (tgt := 13) hx hb d_CN_start_8 (by decide) (fun hc => ?_) (fun hc => ?_)
  · have h := it_f hc h
    refine lv_aload_n hx hb d_CN_start_13 rfl (lv_at hl 0 rfl) ?_
    refine ly_getr fx hk hw (0) rfl rfl i_CaseNet 1 (by decide) rfl rfl (List.mem_cons_of_mem _ a_165) d_CN_start_14 ?_
    refine ly_getr fx hk hw (45) rfl rfl i_WorkList 1 (by decide) rfl rfl (List.mem_cons_of_mem _ a_150) d_CN_start_17 ?_
    refine lv_iload_n hx hb d_CN_start_20 rfl (lv_at hl 1 rfl) ?_
    obtain ⟨hi4, h⟩ := it_in h
    refine ly_iald fx hk hw (47) rfl hi4 d_CN_start_21 ?_
    refine lv_iconst (v := 1) hx hb d_CN_start_22 (by decide) ?_
    refine lv_icmp_eq (tgt := 29) hx hb d_CN_start_23 (by decide) (fun hc => ?_) (fun hc => ?_)
    · have h := it_t hc h
      refine lv_aload_n hx hb d_CN_start_29 rfl (lv_at hl 0 rfl) ?_
      refine ly_getr fx hk hw (0) rfl rfl i_CaseNet 1 (by decide) rfl rfl (List.mem_cons_of_mem _ a_165) d_CN_start_30 ?_
      refine ly_getr fx hk hw (45) rfl rfl i_WorkList 1 (by decide) rfl rfl (List.mem_cons_of_mem _ a_150) d_CN_start_33 ?_
      refine lv_iload_n hx hb d_CN_start_36 rfl (lv_at hl 1 rfl) ?_
      refine lv_iconst (v := 2) hx hb d_CN_start_37 (by decide) ?_
      obtain ⟨hi5, h⟩ := it_in h
      refine ly_iast fx hk hw (47) rfl hi5 d_CN_start_38 (fun H locs hw => ?_)
      obtain ⟨u6, ev⟩ : ∃ z, z = ly_pi u2 (47) a1.toNatClampNeg (2 : Int32) := ⟨_, rfl⟩
      rw [← ev] at hw
      have h := nk_r ev h
      refine lv_iconst (v := 0) hx hb d_CN_start_39 (by decide) ?_
      exact ly_reti fx hr hlocks hk hw (Option.some.inj h) d_CN_start_40
    · have h := it_f hc h
      refine lv_bipush (v := -2) hx hb d_CN_start_26 (by decide) ?_
      exact ly_reti fx hr hlocks hk hw (Option.some.inj h) d_CN_start_28
  · have h := it_t hc h
    refine lv_iconst (v := -1) hx hb d_CN_start_11 (by decide) ?_
    exact ly_reti fx hr hlocks hk hw (Option.some.inj h) d_CN_start_12
set_option maxRecDepth 100000 in
set_option maxHeartbeats 4000000 in
theorem c_CN_end (l : Launch) (F : Nat) (t : Nat) (ht : t < 6) (u : St) (res : Int32 × St) (h : sp_CN_end F t u = some res) : ly_Mv ZsC clA layC l y_CN_end w_CN_end { frames := 4, cells := 0, slots := 0, locals := 88 } (fun ad => [.ref (ad 0), .ref (ad (9 + 6 * t))]) u (fun u1 => ((0 : Int32), u1) = res) := by
  refine ly_entv (cc := b_CN_end) (maxL := 2) (ret := none) (by decide) rfl (fun ad => Nat.le_of_ble_eq_true rfl) ?_
  intro p e s m below meth c D ad cA A ls fx hr hlocks hk hA hz hw hl
  have hl : lv_has ls 2 [(0, .ref (ad 0)), (1, .ref (ad (9 + 6 * t)))] := hl
  have hx := fx.1
  have hb := fx.2.1
  unfold sp_CN_end at h
  refine lv_aload_n hx hb d_CN_end_0 rfl (lv_at hl 0 rfl) ?_
  refine lv_aload_n hx hb d_CN_end_1 rfl (lv_at hl 1 rfl) ?_
  obtain ⟨r1, u2, hq3, h⟩ := ck_r h
  refine ly_callVv (As := [.ref (ad (9 + 6 * t))]) (rest := []) ZsC_ok fx hk hz hA hw (c_CN_stop l F t ht u _ hq3) (cw_V fx.2.2.2.2 a_266 a_268 as_3 a_1 ac_CN_stop rfl rfl rfl hd_CN_stop ⟨Nat.le_of_ble_eq_true rfl, Nat.le_of_ble_eq_true rfl⟩) (0) rfl rfl rfl rfl hl.1 rfl (Nat.le_of_ble_eq_true rfl) d_CN_end_2 (Nat.zero_le _) (Nat.zero_le _) (fun u' H locs hp hw => ?_)
  cases hp
  refine lv_aload_n hx hb d_CN_end_5 rfl (lv_at hl 0 rfl) ?_
  refine lv_aload_n hx hb d_CN_end_6 rfl (lv_at hl 1 rfl) ?_
  refine ly_get fx hk hw (9 + 6 * t) (la_T ht) rfl i_Task 6 (by decide) rfl rfl (List.mem_cons_of_mem _ a_59) d_CN_end_7 ?_
  obtain ⟨r4, u5, hq6, h⟩ := ck_r h
  refine ly_callVv (As := [.int (u2.1 (9 + 6 * t) 6)]) (rest := []) ZsC_ok fx hk hz hA hw (c_CN_stopTasksAmong l F (u2.1 (9 + 6 * t) 6) u2 _ hq6) (cw_V fx.2.2.2.2 a_262 a_264 as_2 a_1 ac_CN_stopTasksAmong rfl rfl rfl hd_CN_stopTasksAmong ⟨Nat.le_of_ble_eq_true rfl, Nat.le_of_ble_eq_true rfl⟩) (0) rfl rfl rfl rfl hl.1 rfl (Nat.le_of_ble_eq_true rfl) d_CN_end_10 (Nat.zero_le _) (Nat.zero_le _) (fun u' H locs hp hw => ?_)
  cases hp
  refine lv_aload_n hx hb d_CN_end_13 rfl (lv_at hl 0 rfl) ?_
  refine lv_aload_n hx hb d_CN_end_14 rfl (lv_at hl 0 rfl) ?_
  refine ly_get fx hk hw (0) rfl rfl i_CaseNet 4 (by decide) rfl rfl (List.mem_cons_of_mem _ a_168) d_CN_end_15 ?_
  refine lv_aload_n hx hb d_CN_end_18 rfl (lv_at hl 1 rfl) ?_
  refine ly_get fx hk hw (9 + 6 * t) (la_T ht) rfl i_Task 6 (by decide) rfl rfl (List.mem_cons_of_mem _ a_59) d_CN_end_19 ?_
  refine lv_iconst (v := -1) hx hb d_CN_end_22 (by decide) ?_
  refine lv_ixor hx hb d_CN_end_23 ?_
  refine lv_iand hx hb d_CN_end_24 ?_
  refine lv_aload_n hx hb d_CN_end_25 rfl (lv_at hl 1 rfl) ?_
  refine lv_aload_n hx hb d_CN_end_26 rfl (lv_at hl 0 rfl) ?_
  refine ly_getr fx hk hw (0) rfl rfl i_CaseNet 2 (by decide) rfl rfl (List.mem_cons_of_mem _ a_166) d_CN_end_27 ?_
  obtain ⟨r7, u8, hq9, h⟩ := ck_r h
  refine ly_callVi (As := [.ref (ad 49)]) (rest := [.int ((u5.1 (0) 4) &&& ((u5.1 (9 + 6 * t) 6) ^^^ (-1 : Int32))), .ref (ad 0)]) ZsC_ok fx hk hz hA hw (c_Task_chosenOutputs l F t ht u5 _ hq9) (cw_V fx.2.2.2.2 a_374 a_375 a_376 a_4 ac_Task_chosenOutputs rfl rfl rfl hd_Task_chosenOutputs ⟨Nat.le_of_ble_eq_true rfl, Nat.le_of_ble_eq_true rfl⟩) (9 + 6 * t) (la_T ht) rfl rfl rfl hl.1 rfl (Nat.le_of_ble_eq_true rfl) d_CN_end_30 (Nat.zero_le _) (Nat.zero_le _) (fun r' u' H locs hp hw => ?_)
  cases hp
  refine lv_ior hx hb d_CN_end_33 ?_
  refine ly_put (v := (((u5.1 (0) 4) &&& ((u5.1 (9 + 6 * t) 6) ^^^ (-1 : Int32))) ||| r7)) fx hk hw (0) rfl rfl i_CaseNet t_CaseNet t_CaseNet_ok n_CaseNet 4 (by decide) rfl rfl rfl (List.mem_cons_of_mem _ a_168) rfl rfl d_CN_end_34 (fun H locs hw => ?_)
  obtain ⟨u10, ev⟩ : ∃ z, z = ly_pi u8 (0) 4 (((u5.1 (0) 4) &&& ((u5.1 (9 + 6 * t) 6) ^^^ (-1 : Int32))) ||| r7) := ⟨_, rfl⟩
  rw [← ev] at hw
  have h := nk_r ev h
  exact ly_retv fx hr hlocks hk hw (Option.some.inj h) d_CN_end_37
set_option maxRecDepth 100000 in
set_option maxHeartbeats 4000000 in
theorem c_CN_stopIfNoneIsOpen (l : Launch) (F : Nat) (t : Nat) (ht : t < 6) (u : St) (res : Int32 × St) (h : sp_CN_stopIfNoneIsOpen F t u = some res) : ly_Mi ZsC clA layC l y_CN_stopIfNoneIsOpen w_CN_stopIfNoneIsOpen { frames := 3, cells := 0, slots := 0, locals := 65 } (fun ad => [.ref (ad 0), .ref (ad (9 + 6 * t))]) u (fun r1 u1 => (r1, u1) = res) := by
  refine ly_enti (cc := b_CN_stopIfNoneIsOpen) (maxL := 2) (ret := (some .boolean)) (by decide) rfl (fun ad => Nat.le_of_ble_eq_true rfl) ?_
  intro p e s m below meth c D ad cA A ls fx hr hlocks hk hA hz hw hl
  have hl : lv_has ls 2 [(0, .ref (ad 0)), (1, .ref (ad (9 + 6 * t)))] := hl
  have hx := fx.1
  have hb := fx.2.1
  unfold sp_CN_stopIfNoneIsOpen at h
  refine lv_aload_n hx hb d_CN_stopIfNoneIsOpen_0 rfl (lv_at hl 0 rfl) ?_
  refine ly_getr fx hk hw (0) rfl rfl i_CaseNet 1 (by decide) rfl rfl (List.mem_cons_of_mem _ a_165) d_CN_stopIfNoneIsOpen_1 ?_
  refine lv_aload_n hx hb d_CN_stopIfNoneIsOpen_4 rfl (lv_at hl 1 rfl) ?_
  refine ly_get fx hk hw (9 + 6 * t) (la_T ht) rfl i_Task 11 (by decide) rfl rfl (List.mem_cons_of_mem _ a_69) d_CN_stopIfNoneIsOpen_5 ?_
  refine lv_aload_n hx hb d_CN_stopIfNoneIsOpen_8 rfl (lv_at hl 1 rfl) ?_
  refine ly_get fx hk hw (9 + 6 * t) (la_T ht) rfl i_Task 7 (by decide) rfl rfl (List.mem_cons_of_mem _ a_62) d_CN_stopIfNoneIsOpen_9 ?_
  obtain ⟨r1, u2, hq3, h⟩ := ck_r h
  refine ly_callVi (As := [.int (u.1 (9 + 6 * t) 11), .int (u.1 (9 + 6 * t) 7)]) (rest := []) ZsC_ok fx hk hz hA hw (c_Work_isAnyOpen l F (u.1 (9 + 6 * t) 11) (u.1 (9 + 6 * t) 7) u _ hq3) (cw_V fx.2.2.2.2 a_386 a_387 a_388 a_5 ac_Work_isAnyOpen rfl rfl rfl hd_Work_isAnyOpen ⟨Nat.le_of_ble_eq_true rfl, Nat.le_of_ble_eq_true rfl⟩) (45) rfl rfl rfl rfl hl.1 rfl (Nat.le_of_ble_eq_true rfl) d_CN_stopIfNoneIsOpen_12 (Nat.zero_le _) (Nat.zero_le _) (fun r' u' H locs hp hw => ?_)
  cases hp
  refine lv_if_eq (tgt := 20) hx hb d_CN_stopIfNoneIsOpen_15 (by decide) (fun hc => ?_) (fun hc => ?_)
  · have h := it_t hc h
    refine lv_aload_n hx hb d_CN_stopIfNoneIsOpen_20 rfl (lv_at hl 0 rfl) ?_
    refine lv_aload_n hx hb d_CN_stopIfNoneIsOpen_21 rfl (lv_at hl 1 rfl) ?_
    obtain ⟨r4, u5, hq6, h⟩ := ck_r h
    refine ly_callVv (As := [.ref (ad (9 + 6 * t))]) (rest := []) ZsC_ok fx hk hz hA hw (c_CN_stop l F t ht u2 _ hq6) (cw_V fx.2.2.2.2 a_266 a_268 as_3 a_1 ac_CN_stop rfl rfl rfl hd_CN_stop ⟨Nat.le_of_ble_eq_true rfl, Nat.le_of_ble_eq_true rfl⟩) (0) rfl rfl rfl rfl hl.1 rfl (Nat.le_of_ble_eq_true rfl) d_CN_stopIfNoneIsOpen_22 (Nat.zero_le _) (Nat.zero_le _) (fun u' H locs hp hw => ?_)
    cases hp
    refine lv_iconst (v := 1) hx hb d_CN_stopIfNoneIsOpen_25 (by decide) ?_
    exact ly_retz fx hr hlocks hk hw (Or.inr rfl) (Option.some.inj h) d_CN_stopIfNoneIsOpen_26
  · have h := it_f hc h
    refine lv_iconst (v := 0) hx hb d_CN_stopIfNoneIsOpen_18 (by decide) ?_
    exact ly_retz fx hr hlocks hk hw (Or.inl rfl) (Option.some.inj h) d_CN_stopIfNoneIsOpen_19
set_option maxRecDepth 100000 in
set_option maxHeartbeats 4000000 in
theorem c_CN_finish (l : Launch) (F : Nat) (a1 : Int32) (a2 : Int32) (u : St) (res : Int32 × St) (h : sp_CN_finish F a1 a2 u = some res) : ly_Mi ZsC clA layC l y_CN_finish w_CN_finish { frames := 5, cells := 0, slots := 0, locals := 109 } (fun ad => [.ref (ad 0), .int a1, .int a2]) u (fun r1 u1 => (r1, u1) = res) := by
  refine ly_enti (cc := b_CN_finish) (maxL := 4) (ret := (some .int)) (by decide) rfl (fun ad => Nat.le_of_ble_eq_true rfl) ?_
  intro p e s m below meth c D ad cA A ls fx hr hlocks hk hA hz hw hl
  have hl : lv_has ls 4 [(0, .ref (ad 0)), (1, .int a1), (2, .int a2)] := hl
  have hx := fx.1
  have hb := fx.2.1
  unfold sp_CN_finish at h
  refine lv_aload_n hx hb d_CN_finish_0 rfl (lv_at hl 0 rfl) ?_
  refine ly_getr fx hk hw (0) rfl rfl i_CaseNet 1 (by decide) rfl rfl (List.mem_cons_of_mem _ a_165) d_CN_finish_1 ?_
  refine lv_iload_n hx hb d_CN_finish_4 rfl (lv_at hl 1 rfl) ?_
  obtain ⟨r1, u2, hq3, h⟩ := ck_r h
  refine ly_callVi (As := [.int a1]) (rest := []) ZsC_ok fx hk hz hA hw (c_Work_has l a1 u _ hq3) (cw_V fx.2.2.2.2 a_358 a_359 a_360 a_5 ac_Work_has rfl rfl rfl hd_Work_has ⟨Nat.le_of_ble_eq_true rfl, Nat.le_of_ble_eq_true rfl⟩) (45) rfl rfl rfl rfl hl.1 rfl (Nat.le_of_ble_eq_true rfl) d_CN_finish_5 (Nat.zero_le _) (Nat.zero_le _) (fun r' u' H locs hp hw => ?_)
  cases hp
  refine lv_if_ne (tgt := 13) hx hb d_CN_finish_8 (by decide) (fun hc => ?_) (fun hc => ?_)
  · have h := it_f hc h
    refine lv_aload_n hx hb d_CN_finish_13 rfl (lv_at hl 0 rfl) ?_
    refine ly_getr fx hk hw (0) rfl rfl i_CaseNet 1 (by decide) rfl rfl (List.mem_cons_of_mem _ a_165) d_CN_finish_14 ?_
    refine ly_getr fx hk hw (45) rfl rfl i_WorkList 1 (by decide) rfl rfl (List.mem_cons_of_mem _ a_150) d_CN_finish_17 ?_
    refine lv_iload_n hx hb d_CN_finish_20 rfl (lv_at hl 1 rfl) ?_
    obtain ⟨hi4, h⟩ := it_in h
    refine ly_iald fx hk hw (47) rfl hi4 d_CN_finish_21 ?_
    refine lv_iconst (v := 2) hx hb d_CN_finish_22 (by decide) ?_
    refine lv_icmp_eq (tgt := 29) hx hb d_CN_finish_23 (by decide) (fun hc => ?_) (fun hc => ?_)
    · have h := it_t hc h
      refine lv_aload_n hx hb d_CN_finish_29 rfl (lv_at hl 0 rfl) ?_
      refine ly_getr fx hk hw (0) rfl rfl i_CaseNet 0 (by decide) rfl rfl (List.mem_cons_of_mem _ a_164) d_CN_finish_30 ?_
      refine ly_getr fx hk hw (1) rfl rfl i_Net 0 (by decide) rfl rfl (List.mem_cons_of_mem _ a_122) d_CN_finish_33 ?_
      refine lv_aload_n hx hb d_CN_finish_36 rfl (lv_at hl 0 rfl) ?_
      refine ly_getr fx hk hw (0) rfl rfl i_CaseNet 1 (by decide) rfl rfl (List.mem_cons_of_mem _ a_165) d_CN_finish_37 ?_
      refine ly_getr fx hk hw (45) rfl rfl i_WorkList 0 (by decide) rfl rfl (List.mem_cons_of_mem _ a_148) d_CN_finish_40 ?_
      refine lv_iload_n hx hb d_CN_finish_43 rfl (lv_at hl 1 rfl) ?_
      obtain ⟨hi5, h⟩ := it_in h
      refine ly_iald fx hk hw (46) rfl hi5 d_CN_finish_44 ?_
      obtain ⟨hi6, h⟩ := it_in h
      have ht7 := vt_lt hi6
      refine ly_aald fx hk hw (2) rfl hi6 (q1 := 9 + 6 * ((u2.1 (46) a1.toNatClampNeg).toNatClampNeg)) rfl d_CN_finish_45 ?_
      refine lv_astore_n (lv' := [(3, .ref (ad (9 + 6 * ((u2.1 (46) a1.toNatClampNeg).toNatClampNeg)))), (0, .ref (ad 0)), (1, .int a1), (2, .int a2)]) hx hb d_CN_finish_46 rfl hl (by decide) rfl (fun ls hl => ?_)
      refine lv_aload_n hx hb d_CN_finish_47 rfl (lv_at hl 1 rfl) ?_
      refine ly_getr fx hk hw (0) rfl rfl i_CaseNet 1 (by decide) rfl rfl (List.mem_cons_of_mem _ a_165) d_CN_finish_48 ?_
      refine ly_getr fx hk hw (45) rfl rfl i_WorkList 1 (by decide) rfl rfl (List.mem_cons_of_mem _ a_150) d_CN_finish_51 ?_
      refine lv_iload_n hx hb d_CN_finish_54 rfl (lv_at hl 2 rfl) ?_
      refine lv_iconst (v := 3) hx hb d_CN_finish_55 (by decide) ?_
      obtain ⟨hi8, h⟩ := it_in h
      refine ly_iast fx hk hw (47) rfl hi8 d_CN_finish_56 (fun H locs hw => ?_)
      obtain ⟨u9, ev⟩ : ∃ z, z = ly_pi u2 (47) a1.toNatClampNeg (3 : Int32) := ⟨_, rfl⟩
      rw [← ev] at hw
      have h := nk_r ev h
      refine lv_aload_n hx hb d_CN_finish_57 rfl (lv_at hl 1 rfl) ?_
      refine ly_getr fx hk hw (0) rfl rfl i_CaseNet 2 (by decide) rfl rfl (List.mem_cons_of_mem _ a_166) d_CN_finish_58 ?_
      refine lv_aload_n hx hb d_CN_finish_61 rfl (lv_at hl 0 rfl) ?_
      refine ly_get fx hk hw (9 + 6 * ((u2.1 (46) a1.toNatClampNeg).toNatClampNeg)) (la_T ht7) rfl i_Task 9 (by decide) rfl rfl (List.mem_cons_of_mem _ a_66) d_CN_finish_62 ?_
      refine lv_iload_n hx hb d_CN_finish_65 rfl (lv_at hl 3 rfl) ?_
      obtain ⟨hi10, h⟩ := it_in h
      refine ly_iast fx hk hw (49) rfl hi10 d_CN_finish_66 (fun H locs hw => ?_)
      obtain ⟨u11, ev⟩ : ∃ z, z = ly_pi u9 (49) (u9.1 (9 + 6 * ((u2.1 (46) a1.toNatClampNeg).toNatClampNeg)) 9).toNatClampNeg a2 := ⟨_, rfl⟩
      rw [← ev] at hw
      have h := nk_r ev h
      refine lv_aload_n hx hb d_CN_finish_67 rfl (lv_at hl 1 rfl) ?_
      refine ly_getr fx hk hw (0) rfl rfl i_CaseNet 1 (by decide) rfl rfl (List.mem_cons_of_mem _ a_165) d_CN_finish_68 ?_
      refine lv_aload_n hx hb d_CN_finish_71 rfl (lv_at hl 0 rfl) ?_
      refine ly_get fx hk hw (9 + 6 * ((u2.1 (46) a1.toNatClampNeg).toNatClampNeg)) (la_T ht7) rfl i_Task 11 (by decide) rfl rfl (List.mem_cons_of_mem _ a_69) d_CN_finish_72 ?_
      refine lv_aload_n hx hb d_CN_finish_75 rfl (lv_at hl 0 rfl) ?_
      refine ly_get fx hk hw (9 + 6 * ((u2.1 (46) a1.toNatClampNeg).toNatClampNeg)) (la_T ht7) rfl i_Task 7 (by decide) rfl rfl (List.mem_cons_of_mem _ a_62) d_CN_finish_76 ?_
      obtain ⟨r12, u13, hq14, h⟩ := ck_r h
      refine ly_callVi (As := [.int (u11.1 (9 + 6 * ((u2.1 (46) a1.toNatClampNeg).toNatClampNeg)) 11), .int (u11.1 (9 + 6 * ((u2.1 (46) a1.toNatClampNeg).toNatClampNeg)) 7)]) (rest := []) ZsC_ok fx hk hz hA hw (c_Work_countCompleted l F (u11.1 (9 + 6 * ((u2.1 (46) a1.toNatClampNeg).toNatClampNeg)) 11) (u11.1 (9 + 6 * ((u2.1 (46) a1.toNatClampNeg).toNatClampNeg)) 7) u11 _ hq14) (cw_V fx.2.2.2.2 a_366 a_367 a_368 a_5 ac_Work_countCompleted rfl rfl rfl hd_Work_countCompleted ⟨Nat.le_of_ble_eq_true rfl, Nat.le_of_ble_eq_true rfl⟩) (45) rfl rfl rfl rfl hl.1 rfl (Nat.le_of_ble_eq_true rfl) d_CN_finish_79 (Nat.zero_le _) (Nat.zero_le _) (fun r' u' H locs hp hw => ?_)
      cases hp
      refine lv_aload_n hx hb d_CN_finish_82 rfl (lv_at hl 0 rfl) ?_
      refine ly_get fx hk hw (9 + 6 * ((u2.1 (46) a1.toNatClampNeg).toNatClampNeg)) (la_T ht7) rfl i_Task 8 (by decide) rfl rfl (List.mem_cons_of_mem _ a_64) d_CN_finish_83 ?_
      refine lv_icmp_lt (tgt := 96) hx hb d_CN_finish_86 (by decide) (fun hc => ?_) (fun hc => ?_)
      · have h := it_t hc h
        refine lv_aload_n hx hb d_CN_finish_96 rfl (lv_at hl 1 rfl) ?_
        refine lv_aload_n hx hb d_CN_finish_97 rfl (lv_at hl 0 rfl) ?_
        obtain ⟨r15, u16, hq17, h⟩ := ck_r h
        refine ly_callVi (As := [.ref (ad (9 + 6 * ((u2.1 (46) a1.toNatClampNeg).toNatClampNeg)))]) (rest := []) ZsC_ok fx hk hz hA hw (c_CN_stopIfNoneIsOpen l F ((u2.1 (46) a1.toNatClampNeg).toNatClampNeg) ht7 u13 _ hq17) (cw_V fx.2.2.2.2 a_382 a_384 as_11 a_1 ac_CN_stopIfNoneIsOpen rfl rfl rfl hd_CN_stopIfNoneIsOpen ⟨Nat.le_of_ble_eq_true rfl, Nat.le_of_ble_eq_true rfl⟩) (0) rfl rfl rfl rfl hl.1 rfl (Nat.le_of_ble_eq_true rfl) d_CN_finish_98 (Nat.zero_le _) (Nat.zero_le _) (fun r' u' H locs hp hw => ?_)
        cases hp
        refine lv_pop hx hb d_CN_finish_101 rfl ?_
        refine lv_iconst (v := 0) hx hb d_CN_finish_102 (by decide) ?_
        exact ly_reti fx hr hlocks hk hw (Option.some.inj h) d_CN_finish_103
      · have h := it_f hc h
        refine lv_aload_n hx hb d_CN_finish_89 rfl (lv_at hl 1 rfl) ?_
        refine lv_aload_n hx hb d_CN_finish_90 rfl (lv_at hl 0 rfl) ?_
        obtain ⟨r18, u19, hq20, h⟩ := ck_r h
        refine ly_callVv (As := [.ref (ad (9 + 6 * ((u2.1 (46) a1.toNatClampNeg).toNatClampNeg)))]) (rest := []) ZsC_ok fx hk hz hA hw (c_CN_end l F ((u2.1 (46) a1.toNatClampNeg).toNatClampNeg) ht7 u13 _ hq20) (cw_V fx.2.2.2.2 a_370 a_372 as_9 a_1 ac_CN_end rfl rfl rfl hd_CN_end ⟨Nat.le_of_ble_eq_true rfl, Nat.le_of_ble_eq_true rfl⟩) (0) rfl rfl rfl rfl hl.1 rfl (Nat.le_of_ble_eq_true rfl) d_CN_finish_91 (Nat.zero_le _) (Nat.zero_le _) (fun u' H locs hp hw => ?_)
        cases hp
        refine lv_iconst (v := 1) hx hb d_CN_finish_94 (by decide) ?_
        exact ly_reti fx hr hlocks hk hw (Option.some.inj h) d_CN_finish_95
    · have h := it_f hc h
      refine lv_bipush (v := -2) hx hb d_CN_finish_26 (by decide) ?_
      exact ly_reti fx hr hlocks hk hw (Option.some.inj h) d_CN_finish_28
  · have h := it_t hc h
    refine lv_iconst (v := -1) hx hb d_CN_finish_11 (by decide) ?_
    exact ly_reti fx hr hlocks hk hw (Option.some.inj h) d_CN_finish_12
set_option maxRecDepth 100000 in
set_option maxHeartbeats 4000000 in
theorem c_CN_failOpen (l : Launch) (F : Nat) (a1 : Int32) (u : St) (res : Int32 × St) (h : sp_CN_failOpen F a1 u = some res) : ly_Mi ZsC clA layC l y_CN_failOpen w_CN_failOpen { frames := 4, cells := 0, slots := 0, locals := 86 } (fun ad => [.ref (ad 0), .int a1]) u (fun r1 u1 => (r1, u1) = res) := by
  refine ly_enti (cc := b_CN_failOpen) (maxL := 2) (ret := (some .boolean)) (by decide) rfl (fun ad => Nat.le_of_ble_eq_true rfl) ?_
  intro p e s m below meth c D ad cA A ls fx hr hlocks hk hA hz hw hl
  have hl : lv_has ls 2 [(0, .ref (ad 0)), (1, .int a1)] := hl
  have hx := fx.1
  have hb := fx.2.1
  unfold sp_CN_failOpen at h
  refine lv_aload_n hx hb d_CN_failOpen_0 rfl (lv_at hl 0 rfl) ?_
  refine ly_getr fx hk hw (0) rfl rfl i_CaseNet 1 (by decide) rfl rfl (List.mem_cons_of_mem _ a_165) d_CN_failOpen_1 ?_
  refine ly_getr fx hk hw (45) rfl rfl i_WorkList 1 (by decide) rfl rfl (List.mem_cons_of_mem _ a_150) d_CN_failOpen_4 ?_
  refine lv_iload_n hx hb d_CN_failOpen_7 rfl (lv_at hl 1 rfl) ?_
  refine lv_iconst (v := 4) hx hb d_CN_failOpen_8 (by decide) ?_
  obtain ⟨hi1, h⟩ := it_in h
  refine ly_iast fx hk hw (47) rfl hi1 d_CN_failOpen_9 (fun H locs hw => ?_)
  obtain ⟨u2, ev⟩ : ∃ z, z = ly_pi u (47) a1.toNatClampNeg (4 : Int32) := ⟨_, rfl⟩
  rw [← ev] at hw
  have h := nk_r ev h
  refine lv_aload_n hx hb d_CN_failOpen_10 rfl (lv_at hl 0 rfl) ?_
  refine lv_aload_n hx hb d_CN_failOpen_11 rfl (lv_at hl 0 rfl) ?_
  refine ly_getr fx hk hw (0) rfl rfl i_CaseNet 0 (by decide) rfl rfl (List.mem_cons_of_mem _ a_164) d_CN_failOpen_12 ?_
  refine ly_getr fx hk hw (1) rfl rfl i_Net 0 (by decide) rfl rfl (List.mem_cons_of_mem _ a_122) d_CN_failOpen_15 ?_
  refine lv_aload_n hx hb d_CN_failOpen_18 rfl (lv_at hl 0 rfl) ?_
  refine ly_getr fx hk hw (0) rfl rfl i_CaseNet 1 (by decide) rfl rfl (List.mem_cons_of_mem _ a_165) d_CN_failOpen_19 ?_
  refine ly_getr fx hk hw (45) rfl rfl i_WorkList 0 (by decide) rfl rfl (List.mem_cons_of_mem _ a_148) d_CN_failOpen_22 ?_
  refine lv_iload_n hx hb d_CN_failOpen_25 rfl (lv_at hl 1 rfl) ?_
  obtain ⟨hi3, h⟩ := it_in h
  refine ly_iald fx hk hw (46) rfl hi3 d_CN_failOpen_26 ?_
  obtain ⟨hi4, h⟩ := it_in h
  have ht5 := vt_lt hi4
  refine ly_aald fx hk hw (2) rfl hi4 (q1 := 9 + 6 * ((u2.1 (46) a1.toNatClampNeg).toNatClampNeg)) rfl d_CN_failOpen_27 ?_
  obtain ⟨r6, u7, hq8, h⟩ := ck_r h
  refine ly_callVi (As := [.ref (ad (9 + 6 * ((u2.1 (46) a1.toNatClampNeg).toNatClampNeg)))]) (rest := []) ZsC_ok fx hk hz hA hw (c_CN_stopIfNoneIsOpen l F ((u2.1 (46) a1.toNatClampNeg).toNatClampNeg) ht5 u2 _ hq8) (cw_V fx.2.2.2.2 a_382 a_384 as_11 a_1 ac_CN_stopIfNoneIsOpen rfl rfl rfl hd_CN_stopIfNoneIsOpen ⟨Nat.le_of_ble_eq_true rfl, Nat.le_of_ble_eq_true rfl⟩) (0) rfl rfl rfl rfl hl.1 rfl (Nat.le_of_ble_eq_true rfl) d_CN_failOpen_28 (Nat.zero_le _) (Nat.zero_le _) (fun r' u' H locs hp hw => ?_)
  cases hp
  obtain ⟨hn, h⟩ := it_n h
  exact ly_retz fx hr hlocks hk hw hn (Option.some.inj h) d_CN_failOpen_31
set_option maxRecDepth 100000 in
set_option maxHeartbeats 4000000 in
theorem c_CN_fail (l : Launch) (F : Nat) (a1 : Int32) (u : St) (res : Int32 × St) (h : sp_CN_fail F a1 u = some res) : ly_Mi ZsC clA layC l y_CN_fail w_CN_fail { frames := 5, cells := 0, slots := 0, locals := 107 } (fun ad => [.ref (ad 0), .int a1]) u (fun r1 u1 => (r1, u1) = res) := by
  refine ly_enti (cc := b_CN_fail) (maxL := 2) (ret := (some .int)) (by decide) rfl (fun ad => Nat.le_of_ble_eq_true rfl) ?_
  intro p e s m below meth c D ad cA A ls fx hr hlocks hk hA hz hw hl
  have hl : lv_has ls 2 [(0, .ref (ad 0)), (1, .int a1)] := hl
  have hx := fx.1
  have hb := fx.2.1
  unfold sp_CN_fail at h
  refine lv_aload_n hx hb d_CN_fail_0 rfl (lv_at hl 0 rfl) ?_
  refine ly_getr fx hk hw (0) rfl rfl i_CaseNet 1 (by decide) rfl rfl (List.mem_cons_of_mem _ a_165) d_CN_fail_1 ?_
  refine lv_iload_n hx hb d_CN_fail_4 rfl (lv_at hl 1 rfl) ?_
  obtain ⟨r1, u2, hq3, h⟩ := ck_r h
  refine ly_callVi (As := [.int a1]) (rest := []) ZsC_ok fx hk hz hA hw (c_Work_has l a1 u _ hq3) (cw_V fx.2.2.2.2 a_358 a_359 a_360 a_5 ac_Work_has rfl rfl rfl hd_Work_has ⟨Nat.le_of_ble_eq_true rfl, Nat.le_of_ble_eq_true rfl⟩) (45) rfl rfl rfl rfl hl.1 rfl (Nat.le_of_ble_eq_true rfl) d_CN_fail_5 (Nat.zero_le _) (Nat.zero_le _) (fun r' u' H locs hp hw => ?_)
  cases hp
  refine lv_if_ne (tgt := 13) hx hb d_CN_fail_8 (by decide) (fun hc => ?_) (fun hc => ?_)
  · have h := it_f hc h
    refine lv_aload_n hx hb d_CN_fail_13 rfl (lv_at hl 0 rfl) ?_
    refine ly_getr fx hk hw (0) rfl rfl i_CaseNet 1 (by decide) rfl rfl (List.mem_cons_of_mem _ a_165) d_CN_fail_14 ?_
    refine lv_iload_n hx hb d_CN_fail_17 rfl (lv_at hl 1 rfl) ?_
    obtain ⟨r4, u5, hq6, h⟩ := ck_r h
    refine ly_callVi (As := [.int a1]) (rest := []) ZsC_ok fx hk hz hA hw (c_Work_isOpen l a1 u2 _ hq6) (cw_V fx.2.2.2.2 a_394 a_275 a_276 a_5 ac_Work_isOpen rfl rfl rfl hd_Work_isOpen ⟨Nat.le_of_ble_eq_true rfl, Nat.le_of_ble_eq_true rfl⟩) (45) rfl rfl rfl rfl hl.1 rfl (Nat.le_of_ble_eq_true rfl) d_CN_fail_18 (Nat.zero_le _) (Nat.zero_le _) (fun r' u' H locs hp hw => ?_)
    cases hp
    refine lv_if_ne (tgt := 27) hx hb d_CN_fail_21 (by decide) (fun hc => ?_) (fun hc => ?_)
    · have h := it_f hc h
      refine lv_aload_n hx hb d_CN_fail_27 rfl (lv_at hl 0 rfl) ?_
      refine lv_iload_n hx hb d_CN_fail_28 rfl (lv_at hl 1 rfl) ?_
      obtain ⟨r7, u8, hq9, h⟩ := ck_r h
      refine ly_callVi (As := [.int a1]) (rest := []) ZsC_ok fx hk hz hA hw (c_CN_failOpen l F a1 u5 _ hq9) (cw_V fx.2.2.2.2 a_395 a_397 as_12 a_1 ac_CN_failOpen rfl rfl rfl hd_CN_failOpen ⟨Nat.le_of_ble_eq_true rfl, Nat.le_of_ble_eq_true rfl⟩) (0) rfl rfl rfl rfl hl.1 rfl (Nat.le_of_ble_eq_true rfl) d_CN_fail_29 (Nat.zero_le _) (Nat.zero_le _) (fun r' u' H locs hp hw => ?_)
      cases hp
      refine lv_if_eq (tgt := 39) hx hb d_CN_fail_32 (by decide) (fun hc => ?_) (fun hc => ?_)
      · have h := it_t hc h
        refine lv_iconst (v := 0) hx hb d_CN_fail_39 (by decide) ?_
        exact ly_reti fx hr hlocks hk hw (Option.some.inj h) d_CN_fail_40
      · have h := it_f hc h
        refine lv_iconst (v := 1) hx hb d_CN_fail_35 (by decide) ?_
        refine lv_goto (tgt := 40) hx hb d_CN_fail_36 (by decide) ?_
        exact ly_reti fx hr hlocks hk hw (Option.some.inj h) d_CN_fail_40
    · have h := it_t hc h
      refine lv_bipush (v := -2) hx hb d_CN_fail_24 (by decide) ?_
      exact ly_reti fx hr hlocks hk hw (Option.some.inj h) d_CN_fail_26
  · have h := it_t hc h
    refine lv_iconst (v := -1) hx hb d_CN_fail_11 (by decide) ?_
    exact ly_reti fx hr hlocks hk hw (Option.some.inj h) d_CN_fail_12
set_option maxRecDepth 100000 in
set_option maxHeartbeats 4000000 in
theorem c_CN_isOverdue (l : Launch) (a1 : Int32) (u : St) (res : Int32 × St) (h : sp_CN_isOverdue a1 u = some res) : ly_Mi ZsC clA layC l y_CN_isOverdue w_CN_isOverdue { frames := 0, cells := 0, slots := 0, locals := 0 } (fun ad => [.ref (ad 0), .int a1]) u (fun r1 u1 => (r1, u1) = res) := by
  refine ly_enti (cc := b_CN_isOverdue) (maxL := 3) (ret := (some .boolean)) (by decide) rfl (fun ad => Nat.le_of_ble_eq_true rfl) ?_
  intro p e s m below meth c D ad cA A ls fx hr hlocks hk hA hz hw hl
  have hl : lv_has ls 3 [(0, .ref (ad 0)), (1, .int a1)] := hl
  have hx := fx.1
  have hb := fx.2.1
  unfold sp_CN_isOverdue at h
  refine lv_aload_n hx hb d_CN_isOverdue_0 rfl (lv_at hl 0 rfl) ?_
  refine ly_getr fx hk hw (0) rfl rfl i_CaseNet 0 (by decide) rfl rfl (List.mem_cons_of_mem _ a_164) d_CN_isOverdue_1 ?_
  refine ly_getr fx hk hw (1) rfl rfl i_Net 0 (by decide) rfl rfl (List.mem_cons_of_mem _ a_122) d_CN_isOverdue_4 ?_
  refine lv_aload_n hx hb d_CN_isOverdue_7 rfl (lv_at hl 0 rfl) ?_
  refine ly_getr fx hk hw (0) rfl rfl i_CaseNet 1 (by decide) rfl rfl (List.mem_cons_of_mem _ a_165) d_CN_isOverdue_8 ?_
  refine ly_getr fx hk hw (45) rfl rfl i_WorkList 0 (by decide) rfl rfl (List.mem_cons_of_mem _ a_148) d_CN_isOverdue_11 ?_
  refine lv_iload_n hx hb d_CN_isOverdue_14 rfl (lv_at hl 1 rfl) ?_
  obtain ⟨hi1, h⟩ := it_in h
  refine ly_iald fx hk hw (46) rfl hi1 d_CN_isOverdue_15 ?_
  obtain ⟨hi2, h⟩ := it_in h
  have ht3 := vt_lt hi2
  refine ly_aald fx hk hw (2) rfl hi2 (q1 := 9 + 6 * ((u.1 (46) a1.toNatClampNeg).toNatClampNeg)) rfl d_CN_isOverdue_16 ?_
  refine ly_get fx hk hw (9 + 6 * ((u.1 (46) a1.toNatClampNeg).toNatClampNeg)) (la_T ht3) rfl i_Task 10 (by decide) rfl rfl (List.mem_cons_of_mem _ a_68) d_CN_isOverdue_17 ?_
  refine lv_topi (fun v2_4 ev => ?_)
  have h := nk_r ev h
  refine lv_istore_n (lv' := [(2, .int v2_4), (0, .ref (ad 0)), (1, .int a1)]) hx hb d_CN_isOverdue_20 rfl hl (by decide) rfl (fun ls hl => ?_)
  refine lv_iload_n hx hb d_CN_isOverdue_21 rfl (lv_at hl 0 rfl) ?_
  refine lv_if_le (tgt := 47) hx hb d_CN_isOverdue_22 (by decide) (fun hc => ?_) (fun hc => ?_)
  · have h := it_t hc h
    refine lv_iconst (v := 0) hx hb d_CN_isOverdue_47 (by decide) ?_
    exact ly_retz fx hr hlocks hk hw (Or.inl rfl) (Option.some.inj h) d_CN_isOverdue_48
  · have h := it_f hc h
    refine lv_aload_n hx hb d_CN_isOverdue_25 rfl (lv_at hl 1 rfl) ?_
    refine ly_get fx hk hw (0) rfl rfl i_CaseNet 5 (by decide) rfl rfl (List.mem_cons_of_mem _ a_169) d_CN_isOverdue_26 ?_
    refine lv_aload_n hx hb d_CN_isOverdue_29 rfl (lv_at hl 1 rfl) ?_
    refine ly_getr fx hk hw (0) rfl rfl i_CaseNet 1 (by decide) rfl rfl (List.mem_cons_of_mem _ a_165) d_CN_isOverdue_30 ?_
    refine ly_getr fx hk hw (45) rfl rfl i_WorkList 2 (by decide) rfl rfl (List.mem_cons_of_mem _ a_152) d_CN_isOverdue_33 ?_
    refine lv_iload_n hx hb d_CN_isOverdue_36 rfl (lv_at hl 2 rfl) ?_
    obtain ⟨hi5, h⟩ := it_in h
    refine ly_iald fx hk hw (48) rfl hi5 d_CN_isOverdue_37 ?_
    refine lv_isub hx hb d_CN_isOverdue_38 ?_
    refine lv_iload_n hx hb d_CN_isOverdue_39 rfl (lv_at hl 0 rfl) ?_
    refine lv_icmp_lt (tgt := 47) hx hb d_CN_isOverdue_40 (by decide) (fun hc => ?_) (fun hc => ?_)
    · have h := it_t hc h
      refine lv_iconst (v := 0) hx hb d_CN_isOverdue_47 (by decide) ?_
      exact ly_retz fx hr hlocks hk hw (Or.inl rfl) (Option.some.inj h) d_CN_isOverdue_48
    · have h := it_f hc h
      refine lv_iconst (v := 1) hx hb d_CN_isOverdue_43 (by decide) ?_
      refine lv_goto (tgt := 48) hx hb d_CN_isOverdue_44 (by decide) ?_
      exact ly_retz fx hr hlocks hk hw (Or.inr rfl) (Option.some.inj h) d_CN_isOverdue_48
set_option maxRecDepth 100000 in
set_option maxHeartbeats 4000000 in
theorem wl_CN_tick_22 {p : Program} {l : Launch} {e : Env} {s : State} {m : MethodId} {args : Array Value} {below : List Frame} {meth : Method} {c : Code} {D : va_G} {ad : Nat → Nat} {cA : Nat → ClassId} {A : Nat → Prop} (fx : CallFix p m c b_CN_tick 3 s args w_CN_tick y_CN_tick.cls) (hr : meth.sig.returnType = (some .int)) (hlocks : meth.locks = false) (hk : ly_K D clA layC cA s) (hA : ∀ q, s.heap.size ≤ q → A q) (hz : ZsC A s s.heap) (F : Nat) (v1 : Int32) {k22 : Int32 → St → Option (Int32 × St)} {res : Int32 × St}
    (hX22 : ∀ (v2 : Int32) (u : St) (H : Heap) (locs : List Loc) (ls : Array Slot), k22 v2 u = some res → lv_has ls 3 [(0, .ref (ad 0)), (1, .int v1), (2, .int v2)] → ly_G D clA layC ad cA A s.heap u H locs → W p l e { frames := 5, cells := 0, slots := 0, locals := 107 } s m args below meth c H locs 0 0 (MQ below (va_Qi (fun r1 u1 => (r1, u1) = res) (ly_B D clA layC ad cA A) A) args s 0 0 A) (F0 m 64 ls [])) :
    ∀ (n : Nat) (v2 : Int32) (u : St) (H : Heap) (locs : List Loc) (ls : Array Slot), lp_CN_tick_22 F v1 k22 n v2 u = some res → lv_has ls 3 [(0, .ref (ad 0)), (1, .int v1), (2, .int v2)] → ly_G D clA layC ad cA A s.heap u H locs → W p l e { frames := 5, cells := 0, slots := 0, locals := 107 } s m args below meth c H locs 0 0 (MQ below (va_Qi (fun r1 u1 => (r1, u1) = res) (ly_B D clA layC ad cA A) A) args s 0 0 A) (F0 m 22 ls []) := by
  have hx := fx.1
  have hb := fx.2.1
  intro n
  induction n with
  | zero => intro v2 u H locs ls h; exact nomatch h
  | succ n ih =>
    intro v2 u H locs ls h hl hw
    rw [lp_CN_tick_22] at h
    refine lv_iload_n hx hb d_CN_tick_22 rfl (lv_at hl 2 rfl) ?_
    refine lv_aload_n hx hb d_CN_tick_23 rfl (lv_at hl 0 rfl) ?_
    refine ly_getr fx hk hw (0) rfl rfl i_CaseNet 1 (by decide) rfl rfl (List.mem_cons_of_mem _ a_165) d_CN_tick_24 ?_
    refine ly_get fx hk hw (45) rfl rfl i_WorkList 3 (by decide) rfl rfl (List.mem_cons_of_mem _ a_154) d_CN_tick_27 ?_
    refine lv_icmp_gt (tgt := 64) hx hb d_CN_tick_30 (by decide) (fun hc => ?_) (fun hc => ?_)
    · have h := it_t hc h
      exact hX22 v2 u _ _ _ h (lv_sub hl [0, 1, 2] rfl) hw
    · have h := it_f hc h
      refine lv_aload_n hx hb d_CN_tick_33 rfl (lv_at hl 0 rfl) ?_
      refine ly_getr fx hk hw (0) rfl rfl i_CaseNet 1 (by decide) rfl rfl (List.mem_cons_of_mem _ a_165) d_CN_tick_34 ?_
      refine lv_iload_n hx hb d_CN_tick_37 rfl (lv_at hl 2 rfl) ?_
      obtain ⟨r4, u5, hq6, h⟩ := ck_r h
      refine ly_callVi (As := [.int v2]) (rest := []) ZsC_ok fx hk hz hA hw (c_Work_isOpen l v2 u _ hq6) (cw_V fx.2.2.2.2 a_394 a_275 a_276 a_5 ac_Work_isOpen rfl rfl rfl hd_Work_isOpen ⟨Nat.le_of_ble_eq_true rfl, Nat.le_of_ble_eq_true rfl⟩) (45) rfl rfl rfl rfl hl.1 rfl (Nat.le_of_ble_eq_true rfl) d_CN_tick_38 (Nat.zero_le _) (Nat.zero_le _) (fun r' u' H locs hp hw => ?_)
      cases hp
      refine lv_if_eq (tgt := 58) hx hb d_CN_tick_41 (by decide) (fun hc => ?_) (fun hc => ?_)
      · have h := it_t hc h
        refine lv_iinc (lv' := [(2, .int (v2 + (1 : Int32))), (0, .ref (ad 0)), (1, .int v1)]) (k := 2) hx hb d_CN_tick_58 hl rfl (oi_p1 _) (by decide) rfl (fun ls hl => ?_)
        refine lv_goto (tgt := 22) hx hb d_CN_tick_61 (by decide) ?_
        exact ih (v2 + (1 : Int32)) u5 _ _ _ h (lv_sub hl [1, 2, 0] rfl) hw
      · have h := it_f hc h
        refine lv_aload_n hx hb d_CN_tick_44 rfl (lv_at hl 0 rfl) ?_
        refine lv_iload_n hx hb d_CN_tick_45 rfl (lv_at hl 2 rfl) ?_
        obtain ⟨r7, u8, hq9, h⟩ := ck_r h
        refine ly_callVi (As := [.int v2]) (rest := []) ZsC_ok fx hk hz hA hw (c_CN_isOverdue l v2 u5 _ hq9) (cw_V fx.2.2.2.2 a_403 a_405 as_13 a_1 ac_CN_isOverdue rfl rfl rfl hd_CN_isOverdue ⟨Nat.le_of_ble_eq_true rfl, Nat.le_of_ble_eq_true rfl⟩) (0) rfl rfl rfl rfl hl.1 rfl (Nat.le_of_ble_eq_true rfl) d_CN_tick_46 (Nat.zero_le _) (Nat.zero_le _) (fun r' u' H locs hp hw => ?_)
        cases hp
        refine lv_if_eq (tgt := 58) hx hb d_CN_tick_49 (by decide) (fun hc => ?_) (fun hc => ?_)
        · have h := it_t hc h
          refine lv_iinc (lv' := [(2, .int (v2 + (1 : Int32))), (0, .ref (ad 0)), (1, .int v1)]) (k := 2) hx hb d_CN_tick_58 hl rfl (oi_p1 _) (by decide) rfl (fun ls hl => ?_)
          refine lv_goto (tgt := 22) hx hb d_CN_tick_61 (by decide) ?_
          exact ih (v2 + (1 : Int32)) u8 _ _ _ h (lv_sub hl [1, 2, 0] rfl) hw
        · have h := it_f hc h
          refine lv_aload_n hx hb d_CN_tick_52 rfl (lv_at hl 0 rfl) ?_
          refine lv_iload_n hx hb d_CN_tick_53 rfl (lv_at hl 2 rfl) ?_
          obtain ⟨r10, u11, hq12, h⟩ := ck_r h
          refine ly_callVi (As := [.int v2]) (rest := []) ZsC_ok fx hk hz hA hw (c_CN_failOpen l F v2 u8 _ hq12) (cw_V fx.2.2.2.2 a_395 a_397 as_12 a_1 ac_CN_failOpen rfl rfl rfl hd_CN_failOpen ⟨Nat.le_of_ble_eq_true rfl, Nat.le_of_ble_eq_true rfl⟩) (0) rfl rfl rfl rfl hl.1 rfl (Nat.le_of_ble_eq_true rfl) d_CN_tick_54 (Nat.zero_le _) (Nat.zero_le _) (fun r' u' H locs hp hw => ?_)
          cases hp
          refine lv_pop hx hb d_CN_tick_57 rfl ?_
          refine lv_iinc (lv' := [(2, .int (v2 + (1 : Int32))), (0, .ref (ad 0)), (1, .int v1)]) (k := 2) hx hb d_CN_tick_58 hl rfl (oi_p1 _) (by decide) rfl (fun ls hl => ?_)
          refine lv_goto (tgt := 22) hx hb d_CN_tick_61 (by decide) ?_
          exact ih (v2 + (1 : Int32)) u11 _ _ _ h (lv_sub hl [1, 2, 0] rfl) hw
set_option maxRecDepth 100000 in
set_option maxHeartbeats 4000000 in
theorem c_CN_tick (l : Launch) (F : Nat) (a1 : Int32) (u : St) (res : Int32 × St) (h : sp_CN_tick F a1 u = some res) : ly_Mi ZsC clA layC l y_CN_tick w_CN_tick { frames := 5, cells := 0, slots := 0, locals := 107 } (fun ad => [.ref (ad 0), .int a1]) u (fun r1 u1 => (r1, u1) = res) := by
  refine ly_enti (cc := b_CN_tick) (maxL := 3) (ret := (some .int)) (by decide) rfl (fun ad => Nat.le_of_ble_eq_true rfl) ?_
  intro p e s m below meth c D ad cA A ls fx hr hlocks hk hA hz hw hl
  have hl : lv_has ls 3 [(0, .ref (ad 0)), (1, .int a1)] := hl
  have hx := fx.1
  have hb := fx.2.1
  unfold sp_CN_tick at h
  refine lv_iload_n hx hb d_CN_tick_0 rfl (lv_at hl 1 rfl) ?_
  refine lv_iconst (v := 0) hx hb d_CN_tick_1 (by decide) ?_
  refine lv_bipush (v := 100) hx hb d_CN_tick_2 (by decide) ?_
  obtain ⟨r1, u2, hq3, h⟩ := ck_r h
  refine ly_callSi (As := [.int a1, .int (0 : Int32), .int (100 : Int32)]) (rest := []) ZsC_ok fx hk hz hA hw (c_CN_isBetween l a1 (0 : Int32) (100 : Int32) u _ hq3) (cw_S fx.2.2.2.2 a_187 a_188 a_1 ac_CN_isBetween rfl rfl hd_CN_isBetween ⟨Nat.le_of_ble_eq_true rfl, Nat.le_of_ble_eq_true rfl⟩) rfl rfl hl.1 rfl (Nat.le_of_ble_eq_true rfl) d_CN_tick_4 (Nat.zero_le _) (Nat.zero_le _) (fun r' u' H locs hp hw => ?_)
  cases hp
  refine lv_if_eq (tgt := 20) hx hb d_CN_tick_7 (by decide) (fun hc => ?_) (fun hc => ?_)
  · have h := it_t hc h
    refine lv_iconst (v := 1) hx hb d_CN_tick_20 (by decide) ?_
    refine lv_istore_n (lv' := [(2, .int (1 : Int32)), (0, .ref (ad 0)), (1, .int a1)]) hx hb d_CN_tick_21 rfl hl (by decide) rfl (fun ls hl => ?_)
    refine wl_CN_tick_22 fx hr hlocks hk hA hz F a1 (fun v2_13 u14 H locs ls h hl hw => ?_) _ (1 : Int32) u2 _ _ _ h (lv_sub hl [1, 2, 0] rfl) hw
    refine lv_aload_n hx hb d_CN_tick_64 rfl (lv_at hl 0 rfl) ?_
    refine ly_get fx hk hw (0) rfl rfl i_CaseNet 5 (by decide) rfl rfl (List.mem_cons_of_mem _ a_169) d_CN_tick_65 ?_
    exact ly_reti fx hr hlocks hk hw (Option.some.inj h) d_CN_tick_68
  · have h := it_f hc h
    refine lv_aload_n hx hb d_CN_tick_10 rfl (lv_at hl 0 rfl) ?_
    refine lv_dup hx hb d_CN_tick_11 rfl ?_
    refine ly_get fx hk hw (0) rfl rfl i_CaseNet 5 (by decide) rfl rfl (List.mem_cons_of_mem _ a_169) d_CN_tick_12 ?_
    refine lv_iload_n hx hb d_CN_tick_15 rfl (lv_at hl 1 rfl) ?_
    refine lv_iadd hx hb d_CN_tick_16 ?_
    refine ly_put (v := ((u2.1 (0) 5) + a1)) fx hk hw (0) rfl rfl i_CaseNet t_CaseNet t_CaseNet_ok n_CaseNet 5 (by decide) rfl rfl rfl (List.mem_cons_of_mem _ a_169) rfl rfl d_CN_tick_17 (fun H locs hw => ?_)
    obtain ⟨u15, ev⟩ : ∃ z, z = ly_pi u2 (0) 5 ((u2.1 (0) 5) + a1) := ⟨_, rfl⟩
    rw [← ev] at hw
    have h := nk_r ev h
    refine lv_iconst (v := 1) hx hb d_CN_tick_20 (by decide) ?_
    refine lv_istore_n (lv' := [(2, .int (1 : Int32)), (0, .ref (ad 0)), (1, .int a1)]) hx hb d_CN_tick_21 rfl hl (by decide) rfl (fun ls hl => ?_)
    refine wl_CN_tick_22 fx hr hlocks hk hA hz F a1 (fun v2_16 u17 H locs ls h hl hw => ?_) _ (1 : Int32) u15 _ _ _ h (lv_sub hl [1, 2, 0] rfl) hw
    refine lv_aload_n hx hb d_CN_tick_64 rfl (lv_at hl 0 rfl) ?_
    refine ly_get fx hk hw (0) rfl rfl i_CaseNet 5 (by decide) rfl rfl (List.mem_cons_of_mem _ a_169) d_CN_tick_65 ?_
    exact ly_reti fx hr hlocks hk hw (Option.some.inj h) d_CN_tick_68
set_option maxRecDepth 100000 in
set_option maxHeartbeats 4000000 in
theorem c_CN_set (l : Launch) (a1 : Int32) (a2 : Int32) (u : St) (res : Int32 × St) (h : sp_CN_set a1 a2 u = some res) : ly_Mi ZsC clA layC l y_CN_set w_CN_set { frames := 2, cells := 0, slots := 0, locals := 42 } (fun ad => [.ref (ad 0), .int a1, .int a2]) u (fun r1 u1 => (r1, u1) = res) := by
  refine ly_enti (cc := b_CN_set) (maxL := 3) (ret := (some .boolean)) (by decide) rfl (fun ad => Nat.le_of_ble_eq_true rfl) ?_
  intro p e s m below meth c D ad cA A ls fx hr hlocks hk hA hz hw hl
  have hl : lv_has ls 3 [(0, .ref (ad 0)), (1, .int a1), (2, .int a2)] := hl
  have hx := fx.1
  have hb := fx.2.1
  unfold sp_CN_set at h
  refine lv_iload_n hx hb d_CN_set_0 rfl (lv_at hl 1 rfl) ?_
  obtain ⟨r1, u2, hq3, h⟩ := ck_r h
  refine ly_callSi (As := [.int a1]) (rest := []) ZsC_ok fx hk hz hA hw (c_CN_isVariable l a1 u _ hq3) (cw_S fx.2.2.2.2 a_241 a_242 a_1 ac_CN_isVariable rfl rfl hd_CN_isVariable ⟨Nat.le_of_ble_eq_true rfl, Nat.le_of_ble_eq_true rfl⟩) rfl rfl hl.1 rfl (Nat.le_of_ble_eq_true rfl) d_CN_set_1 (Nat.zero_le _) (Nat.zero_le _) (fun r' u' H locs hp hw => ?_)
  cases hp
  refine lv_if_ne (tgt := 9) hx hb d_CN_set_4 (by decide) (fun hc => ?_) (fun hc => ?_)
  · have h := it_f hc h
    refine lv_aload_n hx hb d_CN_set_9 rfl (lv_at hl 0 rfl) ?_
    refine ly_getr fx hk hw (0) rfl rfl i_CaseNet 2 (by decide) rfl rfl (List.mem_cons_of_mem _ a_166) d_CN_set_10 ?_
    refine lv_iload_n hx hb d_CN_set_13 rfl (lv_at hl 1 rfl) ?_
    refine lv_iload_n hx hb d_CN_set_14 rfl (lv_at hl 2 rfl) ?_
    obtain ⟨hi4, h⟩ := it_in h
    refine ly_iast fx hk hw (49) rfl hi4 d_CN_set_15 (fun H locs hw => ?_)
    obtain ⟨u5, ev⟩ : ∃ z, z = ly_pi u2 (49) a1.toNatClampNeg a2 := ⟨_, rfl⟩
    rw [← ev] at hw
    have h := nk_r ev h
    refine lv_iconst (v := 1) hx hb d_CN_set_16 (by decide) ?_
    exact ly_retz fx hr hlocks hk hw (Or.inr rfl) (Option.some.inj h) d_CN_set_17
  · have h := it_t hc h
    refine lv_iconst (v := 0) hx hb d_CN_set_7 (by decide) ?_
    exact ly_retz fx hr hlocks hk hw (Or.inl rfl) (Option.some.inj h) d_CN_set_8
set_option maxRecDepth 100000 in
set_option maxHeartbeats 4000000 in
theorem c_CN_variable (l : Launch) (a1 : Int32) (u : St) (res : Int32 × St) (h : sp_CN_variable a1 u = some res) : ly_Mi ZsC clA layC l y_CN_variable w_CN_variable { frames := 2, cells := 0, slots := 0, locals := 42 } (fun ad => [.ref (ad 0), .int a1]) u (fun r1 u1 => (r1, u1) = res) := by
  refine ly_enti (cc := b_CN_variable) (maxL := 2) (ret := (some .int)) (by decide) rfl (fun ad => Nat.le_of_ble_eq_true rfl) ?_
  intro p e s m below meth c D ad cA A ls fx hr hlocks hk hA hz hw hl
  have hl : lv_has ls 2 [(0, .ref (ad 0)), (1, .int a1)] := hl
  have hx := fx.1
  have hb := fx.2.1
  unfold sp_CN_variable at h
  refine lv_iload_n hx hb d_CN_variable_0 rfl (lv_at hl 1 rfl) ?_
  obtain ⟨r1, u2, hq3, h⟩ := ck_r h
  refine ly_callSi (As := [.int a1]) (rest := []) ZsC_ok fx hk hz hA hw (c_CN_isVariable l a1 u _ hq3) (cw_S fx.2.2.2.2 a_241 a_242 a_1 ac_CN_isVariable rfl rfl hd_CN_isVariable ⟨Nat.le_of_ble_eq_true rfl, Nat.le_of_ble_eq_true rfl⟩) rfl rfl hl.1 rfl (Nat.le_of_ble_eq_true rfl) d_CN_variable_1 (Nat.zero_le _) (Nat.zero_le _) (fun r' u' H locs hp hw => ?_)
  cases hp
  refine lv_if_eq (tgt := 16) hx hb d_CN_variable_4 (by decide) (fun hc => ?_) (fun hc => ?_)
  · have h := it_t hc h
    refine lv_iconst (v := 0) hx hb d_CN_variable_16 (by decide) ?_
    exact ly_reti fx hr hlocks hk hw (Option.some.inj h) d_CN_variable_17
  · have h := it_f hc h
    refine lv_aload_n hx hb d_CN_variable_7 rfl (lv_at hl 0 rfl) ?_
    refine ly_getr fx hk hw (0) rfl rfl i_CaseNet 2 (by decide) rfl rfl (List.mem_cons_of_mem _ a_166) d_CN_variable_8 ?_
    refine lv_iload_n hx hb d_CN_variable_11 rfl (lv_at hl 1 rfl) ?_
    obtain ⟨hi4, h⟩ := it_in h
    refine ly_iald fx hk hw (49) rfl hi4 d_CN_variable_12 ?_
    refine lv_goto (tgt := 17) hx hb d_CN_variable_13 (by decide) ?_
    exact ly_reti fx hr hlocks hk hw (Option.some.inj h) d_CN_variable_17
set_option maxRecDepth 100000 in
set_option maxHeartbeats 4000000 in
theorem c_CN_marking (l : Launch) (u : St) (res : Int32 × St) (h : sp_CN_marking u = some res) : ly_Mi ZsC clA layC l y_CN_marking w_CN_marking { frames := 0, cells := 0, slots := 0, locals := 0 } (fun ad => [.ref (ad 0)]) u (fun r1 u1 => (r1, u1) = res) := by
  refine ly_enti (cc := b_CN_marking) (maxL := 1) (ret := (some .int)) (by decide) rfl (fun ad => Nat.le_of_ble_eq_true rfl) ?_
  intro p e s m below meth c D ad cA A ls fx hr hlocks hk hA hz hw hl
  have hl : lv_has ls 1 [(0, .ref (ad 0))] := hl
  have hx := fx.1
  have hb := fx.2.1
  unfold sp_CN_marking at h
  refine lv_aload_n hx hb d_CN_marking_0 rfl (lv_at hl 0 rfl) ?_
  refine ly_get fx hk hw (0) rfl rfl i_CaseNet 4 (by decide) rfl rfl (List.mem_cons_of_mem _ a_168) d_CN_marking_1 ?_
  exact ly_reti fx hr hlocks hk hw (Option.some.inj h) d_CN_marking_4
set_option maxRecDepth 100000 in
set_option maxHeartbeats 4000000 in
theorem c_CN_item (l : Launch) (a1 : Int32) (a2 : Int32) (u : St) (res : Int32 × St) (h : sp_CN_item a1 a2 u = some res) : ly_Mi ZsC clA layC l y_CN_item w_CN_item { frames := 1, cells := 0, slots := 0, locals := 21 } (fun ad => [.ref (ad 0), .int a1, .int a2]) u (fun r1 u1 => (r1, u1) = res) := by
  refine ly_enti (cc := b_CN_item) (maxL := 3) (ret := (some .int)) (by decide) rfl (fun ad => Nat.le_of_ble_eq_true rfl) ?_
  intro p e s m below meth c D ad cA A ls fx hr hlocks hk hA hz hw hl
  have hl : lv_has ls 3 [(0, .ref (ad 0)), (1, .int a1), (2, .int a2)] := hl
  have hx := fx.1
  have hb := fx.2.1
  unfold sp_CN_item at h
  refine lv_aload_n hx hb d_CN_item_0 rfl (lv_at hl 0 rfl) ?_
  refine ly_getr fx hk hw (0) rfl rfl i_CaseNet 1 (by decide) rfl rfl (List.mem_cons_of_mem _ a_165) d_CN_item_1 ?_
  refine lv_iload_n hx hb d_CN_item_4 rfl (lv_at hl 1 rfl) ?_
  obtain ⟨r1, u2, hq3, h⟩ := ck_r h
  refine ly_callVi (As := [.int a1]) (rest := []) ZsC_ok fx hk hz hA hw (c_Work_has l a1 u _ hq3) (cw_V fx.2.2.2.2 a_358 a_359 a_360 a_5 ac_Work_has rfl rfl rfl hd_Work_has ⟨Nat.le_of_ble_eq_true rfl, Nat.le_of_ble_eq_true rfl⟩) (45) rfl rfl rfl rfl hl.1 rfl (Nat.le_of_ble_eq_true rfl) d_CN_item_5 (Nat.zero_le _) (Nat.zero_le _) (fun r' u' H locs hp hw => ?_)
  cases hp
  refine lv_if_ne (tgt := 13) hx hb d_CN_item_8 (by decide) (fun hc => ?_) (fun hc => ?_)
  · have h := it_f hc h
    refine lv_iload_n hx hb d_CN_item_13 rfl (lv_at hl 2 rfl) ?_
    by_cases hc5 : a2 = (0 : Int32)
    · have h := it_t hc5 h
      refine lv_tableIn (off := 26) (tgt := 40) hx hb d_CN_item_14 (by rw [hc5]; decide) (by rw [hc5]; decide) (by rw [hc5]; decide) (by decide) ?_
      refine lv_aload_n hx hb d_CN_item_40 rfl (lv_at hl 0 rfl) ?_
      refine ly_getr fx hk hw (0) rfl rfl i_CaseNet 1 (by decide) rfl rfl (List.mem_cons_of_mem _ a_165) d_CN_item_41 ?_
      refine ly_getr fx hk hw (45) rfl rfl i_WorkList 0 (by decide) rfl rfl (List.mem_cons_of_mem _ a_148) d_CN_item_44 ?_
      refine lv_iload_n hx hb d_CN_item_47 rfl (lv_at hl 1 rfl) ?_
      obtain ⟨hi4, h⟩ := it_in h
      refine ly_iald fx hk hw (46) rfl hi4 d_CN_item_48 ?_
      exact ly_reti fx hr hlocks hk hw (Option.some.inj h) d_CN_item_49
    have h := it_f hc5 h
    by_cases hc7 : a2 = (1 : Int32)
    · have h := it_t hc7 h
      refine lv_tableIn (off := 36) (tgt := 50) hx hb d_CN_item_14 (by rw [hc7]; decide) (by rw [hc7]; decide) (by rw [hc7]; decide) (by decide) ?_
      refine lv_aload_n hx hb d_CN_item_50 rfl (lv_at hl 0 rfl) ?_
      refine ly_getr fx hk hw (0) rfl rfl i_CaseNet 1 (by decide) rfl rfl (List.mem_cons_of_mem _ a_165) d_CN_item_51 ?_
      refine ly_getr fx hk hw (45) rfl rfl i_WorkList 1 (by decide) rfl rfl (List.mem_cons_of_mem _ a_150) d_CN_item_54 ?_
      refine lv_iload_n hx hb d_CN_item_57 rfl (lv_at hl 1 rfl) ?_
      obtain ⟨hi6, h⟩ := it_in h
      refine ly_iald fx hk hw (47) rfl hi6 d_CN_item_58 ?_
      exact ly_reti fx hr hlocks hk hw (Option.some.inj h) d_CN_item_59
    have h := it_f hc7 h
    by_cases hc9 : a2 = (2 : Int32)
    · have h := it_t hc9 h
      refine lv_tableIn (off := 46) (tgt := 60) hx hb d_CN_item_14 (by rw [hc9]; decide) (by rw [hc9]; decide) (by rw [hc9]; decide) (by decide) ?_
      refine lv_aload_n hx hb d_CN_item_60 rfl (lv_at hl 0 rfl) ?_
      refine ly_getr fx hk hw (0) rfl rfl i_CaseNet 1 (by decide) rfl rfl (List.mem_cons_of_mem _ a_165) d_CN_item_61 ?_
      refine ly_getr fx hk hw (45) rfl rfl i_WorkList 2 (by decide) rfl rfl (List.mem_cons_of_mem _ a_152) d_CN_item_64 ?_
      refine lv_iload_n hx hb d_CN_item_67 rfl (lv_at hl 1 rfl) ?_
      obtain ⟨hi8, h⟩ := it_in h
      refine ly_iald fx hk hw (48) rfl hi8 d_CN_item_68 ?_
      exact ly_reti fx hr hlocks hk hw (Option.some.inj h) d_CN_item_69
    have h := it_f hc9 h
    refine lv_tableOut (tgt := 70) hx hb d_CN_item_14 (ts_o3 hc5 hc7 hc9) (by decide) ?_
    refine lv_iconst (v := -1) hx hb d_CN_item_70 (by decide) ?_
    exact ly_reti fx hr hlocks hk hw (Option.some.inj h) d_CN_item_71
  · have h := it_t hc h
    refine lv_iconst (v := -1) hx hb d_CN_item_11 (by decide) ?_
    exact ly_reti fx hr hlocks hk hw (Option.some.inj h) d_CN_item_12
set_option maxRecDepth 100000 in
set_option maxHeartbeats 4000000 in
theorem c_CN_covers (l : Launch) (F : Nat) (a1 : Int32) (a2 : Int32) (a3 : Int32) (u : St) (res : Int32 × St) (h : sp_CN_covers F a1 a2 a3 u = some res) : ly_Mi ZsC clA layC l y_CN_covers w_CN_covers { frames := 4, cells := 0, slots := 0, locals := 97 } (fun ad => [.ref (ad 0), .int a1, .int a2, .int a3]) u (fun r1 u1 => (r1, u1) = res) := by
  refine ly_enti (cc := b_CN_covers) (maxL := 4) (ret := (some .int)) (by decide) rfl (fun ad => Nat.le_of_ble_eq_true rfl) ?_
  intro p e s m below meth c D ad cA A ls fx hr hlocks hk hA hz hw hl
  have hl : lv_has ls 4 [(0, .ref (ad 0)), (1, .int a1), (2, .int a2), (3, .int a3)] := hl
  have hx := fx.1
  have hb := fx.2.1
  unfold sp_CN_covers at h
  refine lv_iload_n hx hb d_CN_covers_0 rfl (lv_at hl 1 rfl) ?_
  obtain ⟨r1, u2, hq3, h⟩ := ck_r h
  refine ly_callSi (As := [.int a1]) (rest := []) ZsC_ok fx hk hz hA hw (c_CN_isMaskOfPlaces l a1 u _ hq3) (cw_S fx.2.2.2.2 a_234 a_235 a_1 ac_CN_isMaskOfPlaces rfl rfl hd_CN_isMaskOfPlaces ⟨Nat.le_of_ble_eq_true rfl, Nat.le_of_ble_eq_true rfl⟩) rfl rfl hl.1 rfl (Nat.le_of_ble_eq_true rfl) d_CN_covers_1 (Nat.zero_le _) (Nat.zero_le _) (fun r' u' H locs hp hw => ?_)
  cases hp
  refine lv_if_eq (tgt := 14) hx hb d_CN_covers_4 (by decide) (fun hc => ?_) (fun hc => ?_)
  · have h := it_t hc h
    refine lv_iconst (v := -1) hx hb d_CN_covers_14 (by decide) ?_
    exact ly_reti fx hr hlocks hk hw (Option.some.inj h) d_CN_covers_15
  · have h := it_f hc h
    refine lv_iload_n hx hb d_CN_covers_7 rfl (lv_at hl 2 rfl) ?_
    obtain ⟨r4, u5, hq6, h⟩ := ck_r h
    refine ly_callSi (As := [.int a2]) (rest := []) ZsC_ok fx hk hz hA hw (c_CN_isMaskOfPlaces l a2 u2 _ hq6) (cw_S fx.2.2.2.2 a_234 a_235 a_1 ac_CN_isMaskOfPlaces rfl rfl hd_CN_isMaskOfPlaces ⟨Nat.le_of_ble_eq_true rfl, Nat.le_of_ble_eq_true rfl⟩) rfl rfl hl.1 rfl (Nat.le_of_ble_eq_true rfl) d_CN_covers_8 (Nat.zero_le _) (Nat.zero_le _) (fun r' u' H locs hp hw => ?_)
    cases hp
    refine lv_if_ne (tgt := 16) hx hb d_CN_covers_11 (by decide) (fun hc => ?_) (fun hc => ?_)
    · have h := it_f hc h
      refine lv_iload_n hx hb d_CN_covers_16 rfl (lv_at hl 3 rfl) ?_
      refine lv_iconst (v := -1) hx hb d_CN_covers_17 (by decide) ?_
      refine lv_iconst (v := 5) hx hb d_CN_covers_18 (by decide) ?_
      obtain ⟨r7, u8, hq9, h⟩ := ck_r h
      refine ly_callSi (As := [.int a3, .int (-1 : Int32), .int (5 : Int32)]) (rest := []) ZsC_ok fx hk hz hA hw (c_CN_isBetween l a3 (-1 : Int32) (5 : Int32) u5 _ hq9) (cw_S fx.2.2.2.2 a_187 a_188 a_1 ac_CN_isBetween rfl rfl hd_CN_isBetween ⟨Nat.le_of_ble_eq_true rfl, Nat.le_of_ble_eq_true rfl⟩) rfl rfl hl.1 rfl (Nat.le_of_ble_eq_true rfl) d_CN_covers_19 (Nat.zero_le _) (Nat.zero_le _) (fun r' u' H locs hp hw => ?_)
      cases hp
      refine lv_if_ne (tgt := 27) hx hb d_CN_covers_22 (by decide) (fun hc => ?_) (fun hc => ?_)
      · have h := it_f hc h
        refine lv_aload_n hx hb d_CN_covers_27 rfl (lv_at hl 0 rfl) ?_
        refine ly_getr fx hk hw (0) rfl rfl i_CaseNet 0 (by decide) rfl rfl (List.mem_cons_of_mem _ a_164) d_CN_covers_28 ?_
        refine lv_iload_n hx hb d_CN_covers_31 rfl (lv_at hl 2 rfl) ?_
        refine lv_iload_n hx hb d_CN_covers_32 rfl (lv_at hl 1 rfl) ?_
        refine lv_iload_n hx hb d_CN_covers_33 rfl (lv_at hl 3 rfl) ?_
        obtain ⟨r10, u11, hq12, h⟩ := ck_r h
        refine ly_callVi (As := [.int a2, .int a1, .int a3]) (rest := []) ZsC_ok fx hk hz hA hw (c_Net_findCovering l F a2 a1 a3 u8 _ hq12) (cw_V fx.2.2.2.2 a_290 a_291 a_292 a_2 ac_Net_findCovering rfl rfl rfl hd_Net_findCovering ⟨Nat.le_of_ble_eq_true rfl, Nat.le_of_ble_eq_true rfl⟩) (1) rfl rfl rfl rfl hl.1 rfl (Nat.le_of_ble_eq_true rfl) d_CN_covers_34 (Nat.zero_le _) (Nat.zero_le _) (fun r' u' H locs hp hw => ?_)
        cases hp
        refine lv_if_eq (tgt := 44) hx hb d_CN_covers_37 (by decide) (fun hc => ?_) (fun hc => ?_)
        · have h := it_t hc h
          refine lv_iconst (v := 0) hx hb d_CN_covers_44 (by decide) ?_
          exact ly_reti fx hr hlocks hk hw (Option.some.inj h) d_CN_covers_45
        · have h := it_f hc h
          refine lv_iconst (v := 1) hx hb d_CN_covers_40 (by decide) ?_
          refine lv_goto (tgt := 45) hx hb d_CN_covers_41 (by decide) ?_
          exact ly_reti fx hr hlocks hk hw (Option.some.inj h) d_CN_covers_45
      · have h := it_t hc h
        refine lv_iconst (v := -1) hx hb d_CN_covers_25 (by decide) ?_
        exact ly_reti fx hr hlocks hk hw (Option.some.inj h) d_CN_covers_26
    · have h := it_t hc h
      refine lv_iconst (v := -1) hx hb d_CN_covers_14 (by decide) ?_
      exact ly_reti fx hr hlocks hk hw (Option.some.inj h) d_CN_covers_15
set_option maxRecDepth 100000 in
set_option maxHeartbeats 4000000 in
theorem c_CN_verdict (l : Launch) (F : Nat) (u : St) (res : Int32 × St) (h : sp_CN_verdict F u = some res) : ly_Mi ZsC clA layC l y_CN_verdict w_CN_verdict { frames := 5, cells := 0, slots := 0, locals := 118 } (fun ad => [.ref (ad 0)]) u (fun r1 u1 => (r1, u1) = res) := by
  refine ly_enti (cc := b_CN_verdict) (maxL := 1) (ret := (some .int)) (by decide) rfl (fun ad => Nat.le_of_ble_eq_true rfl) ?_
  intro p e s m below meth c D ad cA A ls fx hr hlocks hk hA hz hw hl
  have hl : lv_has ls 1 [(0, .ref (ad 0))] := hl
  have hx := fx.1
  have hb := fx.2.1
  unfold sp_CN_verdict at h
  refine lv_aload_n hx hb d_CN_verdict_0 rfl (lv_at hl 0 rfl) ?_
  refine ly_getr fx hk hw (0) rfl rfl i_CaseNet 0 (by decide) rfl rfl (List.mem_cons_of_mem _ a_164) d_CN_verdict_1 ?_
  obtain ⟨r1, u2, hq3, h⟩ := ck_r h
  refine ly_callVi (As := []) (rest := []) ZsC_ok fx hk hz hA hw (c_Net_judge l F u _ hq3) (cw_V fx.2.2.2.2 a_431 a_432 a_433 a_2 ac_Net_judge rfl rfl rfl hd_Net_judge ⟨Nat.le_of_ble_eq_true rfl, Nat.le_of_ble_eq_true rfl⟩) (1) rfl rfl rfl rfl hl.1 rfl (Nat.le_of_ble_eq_true rfl) d_CN_verdict_4 (Nat.zero_le _) (Nat.zero_le _) (fun r' u' H locs hp hw => ?_)
  cases hp
  exact ly_reti fx hr hlocks hk hw (Option.some.inj h) d_CN_verdict_7
