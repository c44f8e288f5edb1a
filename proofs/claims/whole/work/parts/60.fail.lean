section FAIL
variable {df : Nat → Bool} {jo sp is os rg nn th vv dd fi : Nat → Nat} {gv : Nat → Nat → Nat} {on : Bool} {p mm : Nat} {tt ss : Nat → Nat} {F : Nat} {uC uM : St}
theorem rr_mk (h : rr_B uC uM df jo sp is os rg nn th vv dd fi gv on p mm tt ss) (hV : rr_V df nn th fi on p mm tt ss) : RR uC uM := ⟨df, jo, sp, is, os, rg, nn, th, vv, dd, fi, gv, on, p, mm, tt, ss, h.1, h.2.1, h.2.2.1, h.2.2.2, hV⟩
theorem sn_same (hF : 100 < F) {t : Nat} (ht : t < 6) (h : rr_B uC uM df jo sp is os rg nn th vv dd fi gv on p mm tt ss) (hV : rr_V df nn th fi on p mm tt ss) (hr : p.testBit (8 + t) = true) : ∃ c, c < 100 ∧ sp_Md_inState F (nI t) 1 2 uM = some (nI c, uM) ∧ ((c ≠ 0 ∧ sp_CN_stopIfNoneIsOpen F t uC = some (0, uC)) ∨ (c = 0 ∧ ∃ uC' uM', sp_CN_stopIfNoneIsOpen F t uC = some (1, uC') ∧ sp_Md_stop F (nI t) uM = some (0, uM') ∧ RR uC' uM')) := by
  obtain ⟨hd, b1, b2, b3, b4, -⟩ := hV.2.1 t ht hr
  have h' := h
  obtain ⟨hS, hI, hT, hW, hWm, hD⟩ := h
  have hmm := hS.2.2.2.2.2.2.2.2.2
  obtain ⟨⟨f1, f2, -⟩, hT2⟩ := hT t ht
  obtain ⟨-, ⟨n1, -, -, n4⟩, -⟩ := hT2 hd
  have e1 := ins_M (F := F) (lo := 1) (hi := 2) hF hmm b1 ht (by omega) (by omega) b2 b3 b4 f2 hS.2.2.2.2.2.2.2.2.1 (fun j q1 q2 => ⟨(hI j q1 q2).1.2.1, (hI j q1 q2).1.2.2⟩) (fun j q1 q2 => ⟨(hI j q1 q2).2.1.2.1, (hI j q1 q2).2.1.2.2.2⟩)
  have hle := cn_le (fun i => decide (1 ≤ ss i ∧ ss i ≤ 2)) (fi t) (nn t)
  refine ⟨_, by omega, e1, ?_⟩
  obtain ⟨r, k1, k2⟩ := ao_C (F := F) (a := fi t) (b := nn t) (u := uC) hmm b1 b2 (fun j q1 q2 => ⟨(hI j q1 q2).2.1.1, (hI j q1 q2).2.1.2.2⟩) F 0 (by omega) (by omega) (fun i g1 g2 => by omega)
  have E : sp_Work_isAnyOpen F (nI (fi t)) (nI (nn t)) uC = some (r, uC) := k1
  rcases k2 with ⟨rfl, i, i1, i2, i3⟩ | ⟨rfl, hno⟩
  · refine Or.inl ⟨fun e => ?_, ?_⟩
    · have := (cn_0 (nn t)).mp e i i1 i2
      have hi1 := (hI i (by omega) (by omega)).2.1.2.2.1
      exact absurd ⟨hi1, i3⟩ (of_decide_eq_false this)
    · unfold sp_CN_stopIfNoneIsOpen
      rw [f1, n1, E, cl_some, if_neg (show ¬ (1 : Int32) = 0 from by decide)]
  · refine Or.inr ⟨(cn_0 (nn t)).mpr (fun i i1 i2 => decide_eq_false (fun h => hno i i1 i2 h.2)), ?_⟩
    obtain ⟨uC', uM', s1, s2, s3⟩ := st_same hF ht h' (rr_VX hV) hr
    refine ⟨uC', uM', ?_, s2, rr_mk s3 (rv_stop (rr_VX hV))⟩
    unfold sp_CN_stopIfNoneIsOpen
    rw [f1, n1, E, cl_some, if_pos (show (0 : Int32) = 0 from rfl), s1, cl_some]
/-- an open item fails -/
theorem fl_same (hF : 100 < F) (h : rr_B uC uM df jo sp is os rg nn th vv dd fi gv on p mm tt ss) (hV : rr_V df nn th fi on p mm tt ss) {j : Nat} (j1 : 1 ≤ j) (j2 : j ≤ mm) (j3 : ss j ≤ 2) : ∃ r uC' uM', sp_CN_failOpen F (nI j) uC = some (r, uC') ∧ sp_Md_failed F (nI j) uM = some (r, uM') ∧ (r = 0 ∨ r = 1) ∧ RR uC' uM' := by
  have hmm := h.1.2.2.2.2.2.2.2.2.2
  obtain ⟨⟨i1, i2, i3⟩, ⟨s1, s2, s3, s4⟩, i4⟩ := h.2.1 j j1 j2
  obtain ⟨r1, r2, r3⟩ := hV.2.2 j j1 j2 j3
  have hB : rr_B (ly_pi uC 47 j 4) (ly_pi uM 18 j 4) df jo sp is os rg nn th vv dd fi gv on p mm tt (va_up ss j 4) := rr_B_s h _ (fun k hk => pi_p hk) (fun k hk => pi_p hk) (fun i g1 g2 => by
    by_cases e : i = j
    · subst e; rw [pi_at, va_up_self]; rfl
    · rw [pi_ne (Or.inr e), va_up_ne _ _ e]; exact (h.2.1 i g1 g2).2.1.1) (fun i g1 g2 => by
    by_cases e : i = j
    · subst e; rw [pi_at, va_up_self]; rfl
    · rw [pi_ne (Or.inr e), va_up_ne _ _ e]; exact (h.2.1 i g1 g2).2.1.2.1) (fun i g1 g2 => by
    by_cases e : i = j
    · subst e; rw [va_up_self]; omega
    · rw [va_up_ne _ _ e]; exact (h.2.1 i g1 g2).2.1.2.2)
  have hV2 : rr_V df nn th fi on p mm tt (va_up ss j 4) := by
    refine ⟨hV.1, fun t ht hr => ?_, fun i g1 g2 g3 => ?_⟩
    · obtain ⟨b1, b2, b3, b4, b5, b6⟩ := hV.2.1 t ht hr
      refine ⟨b1, b2, b3, b4, b5, ?_⟩
      rw [ct_eq (nn t) (fun i _ _ => ?_)]
      · exact b6
      · by_cases e : i = j
        · subst e; rw [va_up_self]; omega
        · rw [va_up_ne _ _ e]
    · by_cases e : i = j
      · subst e; rw [va_up_self] at g3; omega
      · rw [va_up_ne _ _ e] at g3; exact hV.2.2 i g1 g2 g3
  obtain ⟨c, hc, e1, e2⟩ := sn_same hF i3 hB hV2 r1
  have hib : ib (nI j) 61 = true := ib_nI (by omega) (by omega)
  have hcl : (nI j).toNatClampNeg = j := nI_clamp (by omega)
  have hibt : ib (nI (tt j)) 6 = true := ib_nI i3 (by omega)
  have hclt : (nI (tt j)).toNatClampNeg = tt j := nI_clamp (by omega)
  have EC : sp_CN_failOpen F (nI j) uC = cl_k (sp_CN_stopIfNoneIsOpen F (tt j) (ly_pi uC 47 j 4)) (fun r6 u7 => (if r6 = 0 ∨ r6 = 1 then some (r6, u7) else none)) := by
    unfold sp_CN_failOpen
    simp only [nm_k, hib, hcl, ↓reduceIte]
    rw [pi_p (q := 47) (k := 46) (by omega), i1, if_pos hibt, hclt]
  have EM : sp_Md_failed F (nI j) uM = cl_k (sp_Md_inState F (nI (tt j)) 1 2 (ly_pi uM 18 j 4)) (fun r5 u6 => (if r5 ≤ 0 then (cl_k (sp_Md_stop F (nI (tt j)) u6) (fun r8 u9 => (some ((1 : Int32), u9)))) else (some ((0 : Int32), u6)))) := by
    unfold sp_Md_failed
    simp only [nm_k, hib, hcl, ↓reduceIte]
    rw [i2]
  rw [EC, EM, e1, cl_some]
  rcases e2 with ⟨c0, q1⟩ | ⟨c0, uC', uM', q1, q2, q3⟩
  · refine ⟨0, _, _, ?_, ?_, Or.inl rfl, rr_mk hB hV2⟩
    · rw [q1, cl_some, if_pos (Or.inl rfl)]
    · rw [if_neg (show ¬ nI c ≤ (0 : Int32) from (fun h => absurd (show nI c ≤ nI 0 from h) (nI_ge (by omega) (by omega))))]
  · refine ⟨1, uC', uM', ?_, ?_, Or.inr rfl, q3⟩
    · rw [q1, cl_some, if_pos (Or.inr rfl)]
    · rw [c0, if_pos (show nI 0 ≤ (0 : Int32) from by decide), q2, cl_some]
end FAIL
theorem rs_fail {F : Nat} (hF : 100 < F) : RS_fail RR F := by
  intro uC uM h a
  have h' := h
  obtain ⟨df, jo, sp, is, os, rg, nn, th, vv, dd, fi, gv, on, p, mm, tt, ss, hS, hI, hT, hW, hV⟩ := h
  have hB : rr_B uC uM df jo sp is os rg nn th vv dd fi gv on p mm tt ss := ⟨hS, hI, hT, hW⟩
  have hmm := hS.2.2.2.2.2.2.2.2.2
  rcases it_ca hS a with ⟨j, j1, j2, rfl, e1, e2⟩ | ⟨e1, e2⟩
  · obtain ⟨⟨i1, i2, i3⟩, ⟨s1, s2, s3, s4⟩, i4⟩ := hI j j1 j2
    have n1 : ¬ (1 : Int32) = 0 := by decide
    unfold sp_CN_fail sp_Md_fail
    rw [e1, cl_some, if_neg n1, e2, cl_some, if_neg n1, op_C (by omega) s3 s4 s1, cl_some, if_pos (ib_nI (by omega) (by omega)), nI_clamp (by omega), s2]
    by_cases ho : ss j ≤ 2
    · obtain ⟨r, uC', uM', g1, g2, g3, g4⟩ := fl_same hF hB hV j1 j2 ho
      refine ⟨r, uC', uM', ?_, ?_, g4⟩
      · rw [if_pos ho, if_neg n1, g1, cl_some]
        rcases g3 with rfl | rfl
        · rw [if_pos rfl]
        · rw [if_neg n1]
      · rw [if_pos (show nI (ss j) ≤ (2 : Int32) from nI_le (b := 2) ho (by omega)), g2, cl_some]
    · refine ⟨-2, uC, uM, ?_, ?_, h'⟩
      · rw [if_neg ho, if_pos rfl]
      · rw [if_neg (show ¬ nI (ss j) ≤ (2 : Int32) from nI_ge (a := 2) (by omega) (by omega))]
  · refine ⟨-1, uC, uM, ?_, ?_, h'⟩
    · unfold sp_CN_fail; rw [e1, cl_some, if_pos rfl]
    · unfold sp_Md_fail; rw [e2, cl_some, if_pos rfl]
