theorem rr_clk {uC uM uC' uM' : St} (h : RR uC uM) (c : ∀ k, k ≠ 0 → uC'.1 k = uC.1 k) (c0 : ∀ j, j ≠ 5 → uC'.1 0 j = uC.1 0 j) (m : ∀ k, k ≠ 0 → uM'.1 k = uM.1 k) (m0 : ∀ j, j ≠ 17 → uM'.1 0 j = uM.1 0 j) (e : uM'.1 0 17 = uC'.1 0 5) : RR uC' uM' := by
  obtain ⟨df, jo, sp, is, os, rg, nn, th, vv, dd, fi, gv, on, p, mm, tt, ss, hS, hI, hT, ⟨hW, hWm, hD⟩, hV⟩ := h
  obtain ⟨S1, S2, S3, S4, S5, S6, S7, S8, S9, S10⟩ := hS
  refine ⟨df, jo, sp, is, os, rg, nn, th, vv, dd, fi, gv, on, p, mm, tt, ss, ⟨?_, ?_, ?_, ?_, S5, e, fun i hi => ?_, ?_, ?_, S10⟩, rr_I_fr hI (fun k _ _ => c k (by omega)) (fun k _ _ => m k (by omega)), rr_T_fr hT (fun k _ _ => c k (by omega)) (fun k _ _ _ _ _ _ => m k (by omega)), ⟨nw_fr2 hW (fun k _ _ => c k (by omega)), md_fr2 hWm (fun k _ _ => m k (by omega)), hD⟩, hV⟩
  · rw [c0 3 (by omega)]; exact S1
  · rw [m0 15 (by omega)]; exact S2
  · rw [c0 4 (by omega)]; exact S3
  · rw [m0 16 (by omega)]; exact S4
  · rw [c 49 (by omega), m 16 (by omega)]; exact S7 i hi
  · rw [c 45 (by omega)]; exact S8
  · rw [m0 19 (by omega)]; exact S9
theorem tk_loop {F : Nat} (hF : 100 < F) (a : Int32) : ∀ (n i : Nat) (uC uM : St), 1 ≤ i → i ≤ 61 → 62 - i < n → RR uC uM → ∃ zc zm uC' uM', (∀ k, lp_CN_tick_22 F a k n (nI i) uC = k zc uC') ∧ (∀ k, lp_Md_tick_26 F a k n (nI i) uM = k zm uM') ∧ RR uC' uM' := by
  intro n
  induction n with
  | zero => intro i uC uM _ _ h; omega
  | succ n ih =>
    intro i uC uM hi1 hi hn hR
    have hR' := hR
    obtain ⟨df, jo, sp, is, os, rg, nn, th, vv, dd, fi, gv, on, p, mm, tt, ss, hS, hI, hT, hW, hV⟩ := hR
    have hB : rr_B uC uM df jo sp is os rg nn th vv dd fi gv on p mm tt ss := ⟨hS, hI, hT, hW⟩
    have hmm := hS.2.2.2.2.2.2.2.2.2
    have hm1 := hS.2.2.2.2.2.2.2.1
    have hm2 := hS.2.2.2.2.2.2.2.2.1
    by_cases hc : mm < i
    · refine ⟨nI i, nI i, uC, uM, fun k => ?_, fun k => ?_, hR'⟩
      · rw [lp_CN_tick_22, hm1, if_pos (nI_lt hc (by omega))]
      · rw [lp_Md_tick_26, hm2, if_pos (nI_lt hc (by omega))]
    · have him : i ≤ mm := by omega
      have n1 : ¬ (1 : Int32) = 0 := by decide
      obtain ⟨⟨i1, i2, i3⟩, ⟨s1, s2, s3, s4⟩, i4⟩ := hI i hi1 him
      have hib : ib (nI i) 61 = true := ib_nI (by omega) (by omega)
      have hcl : (nI i).toNatClampNeg = i := nI_clamp (by omega)
      have hibt : ib (nI (tt i)) 6 = true := ib_nI i3 (by omega)
      have hclt : (nI (tt i)).toNatClampNeg = tt i := nI_clamp (by omega)
      have hdC : ∀ k, lp_CN_tick_22 F a k (n + 1) (nI i) uC = cl_k (some ((if ss i ≤ 2 then 1 else 0 : Int32), uC)) (fun r4 u5 => (if r4 = 0 then (lp_CN_tick_22 F a k n (nI (i + 1)) u5) else (cl_k (sp_CN_isOverdue (nI i) u5) (fun r7 u8 => (if r7 = 0 then (lp_CN_tick_22 F a k n (nI (i + 1)) u8) else (cl_k (sp_CN_failOpen F (nI i) u8) (fun r10 u11 => (lp_CN_tick_22 F a k n (nI (i + 1)) u11)))))))) := fun k => by
        conv => lhs; rw [lp_CN_tick_22]
        rw [hm1, if_neg (nI_nlt him (by omega)), op_C (by omega) s3 s4 s1, nI_1]
      have hdM : ∀ k, lp_Md_tick_26 F a k (n + 1) (nI i) uM = if (2 : Int32) < nI (ss i) then lp_Md_tick_26 F a k n (nI (i + 1)) uM else if uM.1 15 (tt i) ≤ 0 then lp_Md_tick_26 F a k n (nI (i + 1)) uM else if uM.1 0 17 - uM.1 19 i < uM.1 15 (tt i) then lp_Md_tick_26 F a k n (nI (i + 1)) uM else cl_k (sp_Md_failed F (nI i) uM) (fun r7 u8 => lp_Md_tick_26 F a k n (nI (i + 1)) u8) := fun k => by
        conv => lhs; rw [lp_Md_tick_26]
        simp only [nm_k, hib, hcl, ↓reduceIte]
        rw [hm2, if_neg (nI_nlt him (by omega)), i2, if_pos hibt, hclt, s2, nI_1]
      have skip : (∀ k, lp_CN_tick_22 F a k (n + 1) (nI i) uC = lp_CN_tick_22 F a k n (nI (i + 1)) uC) → (∀ k, lp_Md_tick_26 F a k (n + 1) (nI i) uM = lp_Md_tick_26 F a k n (nI (i + 1)) uM) → ∃ zc zm uC' uM', (∀ k, lp_CN_tick_22 F a k (n + 1) (nI i) uC = k zc uC') ∧ (∀ k, lp_Md_tick_26 F a k (n + 1) (nI i) uM = k zm uM') ∧ RR uC' uM' := fun h1 h2 => by
        obtain ⟨zc, zm, uC', uM', g1, g2, g3⟩ := ih (i + 1) uC uM (by omega) (by omega) (by omega) hR'
        exact ⟨zc, zm, uC', uM', fun k => by rw [h1 k, g1 k], fun k => by rw [h2 k, g2 k], g3⟩
      by_cases ho : ss i ≤ 2
      · obtain ⟨r1, r2, r3⟩ := hV.2.2 i hi1 him ho
        obtain ⟨hd, -⟩ := hV.2.1 (tt i) i3 r1
        obtain ⟨-, -, -, -, ⟨d1, d2, d3⟩, -⟩ := (hT (tt i) i3).2 hd
        have n2 : ¬ (2 : Int32) < nI (ss i) := nI_nlt (a := 2) ho (by omega)
        have EO : sp_CN_isOverdue (nI i) uC = if nI (dd (tt i)) ≤ 0 then some ((0 : Int32), uC) else if uC.1 0 5 - uC.1 48 i < nI (dd (tt i)) then some ((0 : Int32), uC) else some ((1 : Int32), uC) := by
          unfold sp_CN_isOverdue
          simp only [nm_k, hib, hcl, ↓reduceIte]
          rw [i1, if_pos hibt, hclt, d1]
        by_cases c1 : nI (dd (tt i)) ≤ 0
        · refine skip (fun k => ?_) (fun k => ?_)
          · rw [hdC k, cl_some, if_pos ho, if_neg n1, EO, if_pos c1, cl_some, if_pos rfl]
          · rw [hdM k, if_neg n2, d2, if_pos c1]
        · by_cases c2 : uC.1 0 5 - uC.1 48 i < nI (dd (tt i))
          · refine skip (fun k => ?_) (fun k => ?_)
            · rw [hdC k, cl_some, if_pos ho, if_neg n1, EO, if_neg c1, if_pos c2, cl_some, if_pos rfl]
            · rw [hdM k, if_neg n2, d2, if_neg c1, hS.2.2.2.2.2.1, i4, if_pos c2]
          · obtain ⟨r, uC1, uM1, q1, q2, q3, q4⟩ := fl_same hF hB hV hi1 him ho
            obtain ⟨zc, zm, uC', uM', g1, g2, g3⟩ := ih (i + 1) uC1 uM1 (by omega) (by omega) (by omega) q4
            refine ⟨zc, zm, uC', uM', fun k => ?_, fun k => ?_, g3⟩
            · rw [hdC k, cl_some, if_pos ho, if_neg n1, EO, if_neg c1, if_neg c2, cl_some, if_neg n1, q1, cl_some, g1]
            · rw [hdM k, if_neg n2, d2, if_neg c1, hS.2.2.2.2.2.1, i4, if_neg c2, q2, cl_some, g2]
      · refine skip (fun k => ?_) (fun k => ?_)
        · rw [hdC k, cl_some, if_neg ho, if_pos rfl]
        · rw [hdM k, if_pos (show (2 : Int32) < nI (ss i) from nI_lt (a := 2) (by omega) (by omega))]
theorem rr_now {uC uM : St} (h : RR uC uM) : uM.1 0 17 = uC.1 0 5 := by
  obtain ⟨df, jo, sp, is, os, rg, nn, th, vv, dd, fi, gv, on, p, mm, tt, ss, hS, hI, hT, hW, hV⟩ := h
  exact hS.2.2.2.2.2.1
theorem rs_tick {F : Nat} (hF : 100 < F) : RS_tick RR F := by
  intro uC uM h a
  have n1 : ¬ (1 : Int32) = 0 := by decide
  have hnow := rr_now h
  have fin : ∀ uC1 uM1, RR uC1 uM1 → ∃ (r : Int32) (uC' uM' : St), lp_CN_tick_22 F a (fun (v2_13 : Int32) (u14 : St) => (some ((u14.1 (0) 5), u14))) F (1 : Int32) uC1 = some (r, uC') ∧ lp_Md_tick_26 F a (fun (v2_10 : Int32) (u11 : St) => (some ((u11.1 (0) 17), u11))) F (1 : Int32) uM1 = some (r, uM') ∧ RR uC' uM' := fun uC1 uM1 h1 => by
    obtain ⟨zc, zm, uC', uM', g1, g2, g3⟩ := tk_loop hF a F 1 uC1 uM1 (by omega) (by omega) (by omega) h1
    refine ⟨uC'.1 0 5, uC', uM', g1 _, ?_, g3⟩
    rw [show (1 : Int32) = nI 1 from rfl, g2, rr_now g3]
  unfold sp_CN_tick sp_Md_tick
  rw [bw_ca, cl_some]
  by_cases c1 : a < 0
  · rw [if_neg (show ¬ (¬ a < 0 ∧ ¬ (100 : Int32) < a) from fun h => h.1 c1), if_pos (show (0 : Int32) = 0 from rfl), if_pos c1]
    exact fin _ _ (rr_clk h (fun _ _ => rfl) (fun _ _ => rfl) (fun k hk => pi_p hk) (fun j hj => pi_ne (Or.inr hj)) (by rw [pi_at, Int32.add_zero]; exact hnow))
  · rw [if_neg c1]
    by_cases c2 : (100 : Int32) < a
    · rw [if_neg (show ¬ (¬ a < 0 ∧ ¬ (100 : Int32) < a) from fun h => h.2 c2), if_pos (show (0 : Int32) = 0 from rfl), if_pos c2]
      exact fin _ _ (rr_clk h (fun _ _ => rfl) (fun _ _ => rfl) (fun k hk => pi_p hk) (fun j hj => pi_ne (Or.inr hj)) (by rw [pi_at, Int32.add_zero]; exact hnow))
    · rw [if_pos (show ¬ a < 0 ∧ ¬ (100 : Int32) < a from ⟨c1, c2⟩), if_neg n1, if_neg c2]
      exact fin _ _ (rr_clk h (fun k hk => pi_p hk) (fun j hj => pi_ne (Or.inr hj)) (fun k hk => pi_p hk) (fun j hj => pi_ne (Or.inr hj)) (by rw [pi_at, pi_at, hnow]))
