set_option maxRecDepth 100000 in
set_option maxHeartbeats 8000000 in
theorem whole_open {p : Program} {e : Env} {s : State} {m : MethodId} {below : List Frame} {meth : Method} {c : Code} (l : Launch) {b L : Nat} {xs : Nat → Int32} (hL : L ≤ 3072) (C0 : lw_At p s m meth c b L xs) {RR : St → St → Prop} {F : Nat} (R0 : RR uC0 uM0) (HS : RS_all RR F) : W p l e room_1 s m #[Value.ref b] below meth c s.heap [] 0 0 (lw_Z below #[Value.ref b] s) (entryFrame m ([Value.ref b] : List Value).toArray 4) := by
  obtain ⟨hx, hb, hr, hml, hown, htb, hX, hbl, hlocks, hgv⟩ := C0
  have hts : ∀ w ∈ ((Jvm.Cond.initialized "CaseNetLaw") :: wAll), w.before #[Value.ref b] s = true := by
    intro w hw
    have hw2 : w ∈ wAll := (List.mem_cons.mp hw).elim (fun e => e ▸ a_0) id
    exact htb w (List.mem_filter.mp hw2).1
  have fx : CallFix p m c b_Law_law 4 s #[Value.ref b] ((Jvm.Cond.initialized "CaseNetLaw") :: wAll) R_law := ⟨hx, hb, hml, hown, hts⟩
  obtain ⟨d0, i0, k0⟩ := u_known (C := R_CaseNet) (T := F_CaseNet) (N := 6) (n := 6) hts i_CaseNet (hts _ (List.mem_cons_of_mem _ a_11))
  obtain ⟨d1, i1, k1⟩ := u_known (C := R_Net) (T := F_Net) (N := 6) (n := 6) hts i_Net (hts _ (List.mem_cons_of_mem _ a_19))
  obtain ⟨d2, i2, k2⟩ := u_known (C := R_Task) (T := F_Task) (N := 19) (n := 19) hts i_Task (hts _ (List.mem_cons_of_mem _ a_40))
  obtain ⟨d3, i3, k3⟩ := u_known (C := R_WorkList) (T := F_WorkList) (N := 4) (n := 4) hts i_WorkList (hts _ (List.mem_cons_of_mem _ a_142))
  obtain ⟨d4, i4, k4⟩ := u_known (C := R_MaskSet) (T := F_MaskSet) (N := 2) (n := 2) hts i_MaskSet (hts _ (List.mem_cons_of_mem _ a_27))
  obtain ⟨d5, i5, k5⟩ := u_known (C := R_Model) (T := F_Model) (N := 28) (n := 28) hts i_Model (hts _ (List.mem_cons_of_mem _ a_462))
  obtain ⟨D, hK⟩ : ∃ D : va_G, va_K D clA [] s := by
    refine ⟨(fun k => match k with | 0 => d0 | 1 => d1 | 2 => d2 | 3 => d3 | 4 => d4 | _ => d5, fun k => match k with | 0 => i0 | 1 => i1 | 2 => i2 | 3 => i3 | 4 => i4 | _ => i5), fun k q hq => ?_, fun k q hq => nomatch hq⟩
    exact (match k, hq with
      | 0, hq => (Option.some.inj hq) ▸ k0
      | 1, hq => (Option.some.inj hq) ▸ k1
      | 2, hq => (Option.some.inj hq) ▸ k2
      | 3, hq => (Option.some.inj hq) ▸ k3
      | 4, hq => (Option.some.inj hq) ▸ k4
      | 5, hq => (Option.some.inj hq) ▸ k5
      | n + 6, hq => nomatch hq)
  have hz : kt_Zn s := ⟨va_Nw.of rfl (htb _ (List.mem_append_right _ (List.mem_of_getElem? (i := 28) (by decide +kernel)))), va_Nw.of rfl (htb _ (List.mem_append_right _ (List.mem_of_getElem? (i := 143) (by decide +kernel)))), va_AO.of (htb _ (List.mem_append_right _ (List.mem_of_getElem? (i := 25) (by decide +kernel))))⟩
  have hA : ∀ q, s.heap.size ≤ q → (fun q => s.heap.size ≤ q) q := fun q h => h
  have hA' : ∀ a : Nat, a < s.heap.size → ¬ (fun q => s.heap.size ≤ q) a := fun a h1 h2 => absurd h1 (Nat.not_lt.mpr h2)
  have hfl := flat_of_before _ hgv
  have hZC : ZsC (fun q => s.heap.size ≤ q) s s.heap := by
    obtain ⟨t, ht, hT⟩ := va_Tof (tm := (Jvm.Term.static "CaseNet$MaskSet" "HAVING" "[J")) (ty := .long) (N := 6) (f := hv_V) (A := fun q => s.heap.size ≤ q) (by decide) (hfl (Jvm.Cond.arrayOf (Jvm.Term.static "CaseNet$MaskSet" "HAVING" "[J") .long) (by decide +kernel)) (va_eqt (hfl (Jvm.Cond.eq (Jvm.Term.length (Jvm.Term.static "CaseNet$MaskSet" "HAVING" "[J")) (Jvm.Term.int 6)) (by decide +kernel))) (fun j hj => (match j, hj with
      | 0, _ => va_eqtl (hfl (Jvm.Cond.eq (Jvm.Term.elem (Jvm.Term.static "CaseNet$MaskSet" "HAVING" "[J") (Jvm.Term.int 0)) (Jvm.Term.long (-6148914691236517206))) (by decide +kernel))
      | 1, _ => va_eqtl (hfl (Jvm.Cond.eq (Jvm.Term.elem (Jvm.Term.static "CaseNet$MaskSet" "HAVING" "[J") (Jvm.Term.int 1)) (Jvm.Term.long (-3689348814741910324))) (by decide +kernel))
      | 2, _ => va_eqtl (hfl (Jvm.Cond.eq (Jvm.Term.elem (Jvm.Term.static "CaseNet$MaskSet" "HAVING" "[J") (Jvm.Term.int 2)) (Jvm.Term.long (-1085102592571150096))) (by decide +kernel))
      | 3, _ => va_eqtl (hfl (Jvm.Cond.eq (Jvm.Term.elem (Jvm.Term.static "CaseNet$MaskSet" "HAVING" "[J") (Jvm.Term.int 3)) (Jvm.Term.long (-71777214294589696))) (by decide +kernel))
      | 4, _ => va_eqtl (hfl (Jvm.Cond.eq (Jvm.Term.elem (Jvm.Term.static "CaseNet$MaskSet" "HAVING" "[J") (Jvm.Term.int 4)) (Jvm.Term.long (-281470681808896))) (by decide +kernel))
      | 5, _ => va_eqtl (hfl (Jvm.Cond.eq (Jvm.Term.elem (Jvm.Term.static "CaseNet$MaskSet" "HAVING" "[J") (Jvm.Term.int 5)) (Jvm.Term.long (-4294967296))) (by decide +kernel))
      )) hA'
    exact ⟨⟨t, va_Zref (htb _ (List.mem_append_right _ (List.mem_of_getElem? (i := 315) (by decide +kernel)))) (hts _ (List.mem_cons_of_mem _ a_3)) ht hA', hT⟩, va_Nw.of rfl (htb _ (List.mem_append_right _ (List.mem_of_getElem? (i := 233) (by decide +kernel))))⟩
  have hP : va_P D clA [] s.heap := fun k q h => nomatch h
  have hD : va_D (fun q => s.heap.size ≤ q) [] := ⟨(fun i j p q h => nomatch h), (fun k q h => nomatch h)⟩
  have hS : va_S (fun q => s.heap.size ≤ q) s.heap s.heap [] := va_S.rf
  rw [lg_entry_eq]
  have hl := lv_entry ([.ref b]) (n := 4) (Nat.le_of_ble_eq_true rfl)
  generalize (lg_sl ([.ref b]) ++ List.replicate (4 - (lg_sl ([.ref b])).length) Slot.unset).toArray = ls at hl ⊢
  have hl : lv_has ls 4 [(0, .ref b)] := hl
  refine va_new (ci := 0) (fs := [.null, .null, .null, .int 0, .int 0, .int 0]) (C := R_CaseNet) (T := F_CaseNet) (N := 6) hx hb hts i_CaseNet t_CaseNet t_CaseNet_ok hown (hts _ (List.mem_cons_of_mem _ a_10)) (hts _ (List.mem_cons_of_mem _ a_11)) (hts _ (List.mem_cons_of_mem _ a_1)) hK hP hD hS hA rfl df_CaseNet (Nat.le_of_ble_eq_true rfl) (Nat.le_of_ble_eq_true rfl) d_Law_law_0 (fun qC H hP hD hS => ?_)
  refine W.widen (k := 1) (n := 6) (by omega) (by omega) ?_
  refine lv_dup hx hb d_Law_law_3 rfl ?_
  refine kt_callI (pre := []) (w0 := [(qC, .inr (0, [.null, .null, .null, .int 0, .int 0, .int 0]))]) (As := []) (rest := [.ref qC]) (tys := []) fx hK hz hA hP hD hS (c_CN_init l qC) (cw_I hts a_12 a_13 a_1 ac_CN_init rfl rfl rfl hd_CN_init ⟨Nat.le_of_ble_eq_true rfl, Nat.le_of_ble_eq_true rfl⟩) rfl hl.1 rfl (Nat.le_of_ble_eq_true rfl) d_Law_law_4 ⟨Nat.le_of_ble_eq_true rfl, Nat.le_of_ble_eq_true rfl⟩ (fun u H locs hp hP hD hKC hS => ?_)
  refine W.widen (k := 50) (n := 1301) (by omega) (by omega) ?_
  obtain ⟨cq1, cq2, cq3, cq4, cq5, cq6, cq7, cq8, cq9, cq10, cq11, cq12, cq13, cq14, cq15, cq16, cq17, cq18, cq19, cq20, cq21, cq22, cq23, cq24, cq25, cq26, cq27, cq28, cq29, cq30, cq31, cq32, cq33, cq34, cq35, cq36, cq37, cq38, cq39, cq40, cq41, cq42, cq43, cq44, cq79, cq80, cq81, cq82, cq86, ccA45, ccA46, ccA47, ccA48, ccA49, ccA50, ccA51, ccA52, ccA53, ccA54, ccA55, ccA56, ccA57, ccA58, ccA59, ccA60, ccA61, ccA62, ccA63, ccA64, ccA65, ccA66, ccA67, ccA68, ccA69, ccA70, ccA71, ccA72, ccA73, ccA74, ccA75, ccA76, ccA77, ccA78, ccA83, ccA84, ccA85, ccA86, rfl⟩ := hp
  obtain ⟨hP, hD⟩ := cv_C (pre := []) hP hD
  have hkC := ck_C hKC
  rw [List.nil_append] at hP hD
  generalize had : adC qC cq1 cq2 cq3 cq4 cq5 cq6 cq7 cq8 cq9 cq10 cq11 cq12 cq13 cq14 cq15 cq16 cq17 cq18 cq19 cq20 cq21 cq22 cq23 cq24 cq25 cq26 cq27 cq28 cq29 cq30 cq31 cq32 cq33 cq34 cq35 cq36 cq37 cq38 cq39 cq40 cq41 cq42 cq43 cq44 cq79 cq80 cq81 cq82 cq86 = adC' at hP hD
  have h0C : adC' 0 = qC := by rw [← had]; rfl
  generalize caC ccA45 ccA46 ccA47 ccA48 ccA49 ccA50 ccA51 ccA52 ccA53 ccA54 ccA55 ccA56 ccA57 ccA58 ccA59 ccA60 ccA61 ccA62 ccA63 ccA64 ccA65 ccA66 ccA67 ccA68 ccA69 ccA70 ccA71 ccA72 ccA73 ccA74 ccA75 ccA76 ccA77 ccA78 ccA83 ccA84 ccA85 ccA86 = cAC at hP hD hkC
  refine lv_astore_n (lv' := [(1, .ref qC), (0, .ref b)]) hx hb d_Law_law_7 rfl hl (by decide) rfl (fun ls hl => ?_)
  refine va_new (ci := 5) (fs := [.null, .null, .null, .null, .null, .null, .null, .null, .null, .null, .null, .null, .null, .null, .null, .int 0, .int 0, .int 0, .null, .int 0, .null, .null, .null, .null, .null, .null, .int 0, .null]) (C := R_Model) (T := F_Model) (N := 28) hx hb hts i_Model t_Model t_Model_ok hown (hts _ (List.mem_cons_of_mem _ a_461)) (hts _ (List.mem_cons_of_mem _ a_462)) (hts _ (List.mem_cons_of_mem _ a_6)) hK hP hD hS hA rfl df_Model (Nat.le_of_ble_eq_true rfl) (Nat.le_of_ble_eq_true rfl) d_Law_law_8 (fun qM H hP hD hS => ?_)
  refine W.widen (k := 51) (n := 1329) (by omega) (by omega) ?_
  refine lv_dup hx hb d_Law_law_11 rfl ?_
  refine kt_callI (pre := ly_W layC adC' cAC uC0) (w0 := [(qM, .inr (5, [.null, .null, .null, .null, .null, .null, .null, .null, .null, .null, .null, .null, .null, .null, .null, .int 0, .int 0, .int 0, .null, .int 0, .null, .null, .null, .null, .null, .null, .int 0, .null]))]) (As := []) (rest := [.ref qM]) (tys := []) fx hK hz hA hP hD hS (c_Md_init l qM) (cw_I hts a_463 a_464 a_6 ac_Md_init rfl rfl rfl hd_Md_init ⟨Nat.le_of_ble_eq_true rfl, Nat.le_of_ble_eq_true rfl⟩) rfl hl.1 rfl (Nat.le_of_ble_eq_true rfl) d_Law_law_12 ⟨Nat.le_of_ble_eq_true rfl, Nat.le_of_ble_eq_true rfl⟩ (fun u H locs hp hP hD hKM hS => ?_)
  refine W.widen (k := 74) (n := 18658) (by omega) (by omega) ?_
  obtain ⟨mq1, mq2, mq3, mq4, mq5, mq6, mq7, mq8, mq9, mq10, mq11, mq12, mq13, mq14, mq15, mq16, mq17, mq18, mq19, mq20, mq21, mq22, mq23, mcA1, mcA2, mcA3, mcA4, mcA5, mcA6, mcA7, mcA8, mcA9, mcA10, mcA11, mcA12, mcA13, mcA14, mcA15, mcA16, mcA17, mcA18, mcA19, mcA20, mcA21, mcA22, mcA23, rfl⟩ := hp
  obtain ⟨hP, hD⟩ := cv_M hP hD
  have hkM := ck_M hKM
  generalize had2 : adM qM mq1 mq2 mq3 mq4 mq5 mq6 mq7 mq8 mq9 mq10 mq11 mq12 mq13 mq14 mq15 mq16 mq17 mq18 mq19 mq20 mq21 mq22 mq23 = adM' at hP hD
  have h0M : adM' 0 = qM := by rw [← had2]; rfl
  generalize caM mcA1 mcA2 mcA3 mcA4 mcA5 mcA6 mcA7 mcA8 mcA9 mcA10 mcA11 mcA12 mcA13 mcA14 mcA15 mcA16 mcA17 mcA18 mcA19 mcA20 mcA21 mcA22 mcA23 = cAM at hP hD hkM
  refine lv_astore_n (lv' := [(2, .ref qM), (1, .ref qC), (0, .ref b)]) hx hb d_Law_law_15 rfl hl (by decide) rfl (fun ls hl => ?_)
  refine lv_iconst (v := 0) hx hb d_Law_law_16 (by decide) ?_
  refine lv_istore_n (lv' := [(3, .int 0), (2, .ref qM), (1, .ref qC), (0, .ref b)]) hx hb d_Law_law_17 rfl hl (by decide) rfl (fun ls hl => ?_)
  have hl := lv_sub hl [3, 2, 1, 0] rfl
  rw [← h0C, ← h0M] at hl
  exact law_loop fx hr hlocks hkC hkM hA (fun q h => h) hZC hX hbl hL HS (L + 1) 0 (by omega) (by omega) uC0 uM0 H _ ls R0 hP hD hS hl
