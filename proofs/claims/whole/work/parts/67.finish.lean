theorem ct_up {ss : Nat → Nat} {a j : Nat} : ∀ n, ct_n (va_up ss j 3) a n ≤ ct_n ss a n + 1
  | 0 => by unfold ct_n; omega
  | n + 1 => by
    unfold ct_n
    by_cases e : a + n = j
    · rw [ct_eq (ss := ss) n (fun i h1 h2 => by rw [va_up_ne _ _ (by omega)])]
      split <;> split <;> omega
    · rw [va_up_ne _ _ e]
      have := ct_up (ss := ss) (a := a) (j := j) n
      omega
section FIN
variable {df : Nat → Bool} {jo sp is os rg nn th vv dd fi : Nat → Nat} {gv : Nat → Nat → Nat} {on : Bool} {p mm : Nat} {tt ss : Nat → Nat} {F : Nat} {uC uM : St}
theorem rr_B_v (h : rr_B uC uM df jo sp is os rg nn th vv dd fi gv on p mm tt ss) (j : Nat) (v : Int32) : rr_B (ly_pi uC 49 j v) (ly_pi uM 16 j v) df jo sp is os rg nn th vv dd fi gv on p mm tt ss := by
  obtain ⟨hS, hI, hT, hW, hWm, hD⟩ := h
  refine ⟨?_, rr_I_fr hI (fun k _ _ => pi_p (by omega)) (fun k _ _ => pi_p (by omega)), rr_T_fr hT (fun k _ _ => pi_p (by omega)) (fun k _ _ h _ _ _ => pi_p h), nw_fr2 hW (fun k _ _ => pi_p (by omega)), md_fr2 hWm (fun k _ _ => pi_p (by omega)), hD⟩
  unfold rr_S at hS ⊢
  rw [pi_p (q := 49) (k := 0) (by omega), pi_p (q := 49) (k := 45) (by omega), pi_p (q := 16) (k := 0) (by omega)]
  refine ⟨hS.1, hS.2.1, hS.2.2.1, hS.2.2.2.1, hS.2.2.2.2.1, hS.2.2.2.2.2.1, fun i hi => ?_, hS.2.2.2.2.2.2.2⟩
  by_cases hij : i = j
  · subst hij; rw [pi_at, pi_at]
  · rw [pi_ne (Or.inr hij), pi_ne (Or.inr hij)]; exact hS.2.2.2.2.2.2.1 i hi
end FIN
theorem rs_finish {F : Nat} (hF : 100 < F) : RS_finish RR F := by
  intro uC uM h a v
  have h' := h
  obtain ⟨df, jo, sp, is, os, rg, nn, th, vv, dd, fi, gv, on, p, mm, tt, ss, hS, hI, hT, hW, hV⟩ := h
  have hB : rr_B uC uM df jo sp is os rg nn th vv dd fi gv on p mm tt ss := ⟨hS, hI, hT, hW⟩
  have hmm := hS.2.2.2.2.2.2.2.2.2
  have n1 : ¬ (1 : Int32) = 0 := by decide
  rcases it_ca hS a with ⟨j, j1, j2, rfl, e1, e2⟩ | ⟨e1, e2⟩
  · obtain ⟨⟨i1, i2, i3⟩, ⟨s1, s2, s3, s4⟩, i4⟩ := hI j j1 j2
    have hib : ib (nI j) 61 = true := ib_nI (by omega) (by omega)
    have hcl : (nI j).toNatClampNeg = j := nI_clamp (by omega)
    have hibt : ib (nI (tt j)) 6 = true := ib_nI i3 (by omega)
    have hclt : (nI (tt j)).toNatClampNeg = tt j := nI_clamp (by omega)
    by_cases hs2 : ss j = 2
    · obtain ⟨r1, r2, r3⟩ := hV.2.2 j j1 j2 (by omega)
      obtain ⟨hd, b1, b2, b3, b4, b5⟩ := hV.2.1 (tt j) i3 r1
      obtain ⟨⟨f1, f2, f3⟩, hT2⟩ := hT (tt j) i3
      obtain ⟨-, ⟨nc, nm, nn1, nn4⟩, ⟨tc, tm, th1, th2⟩, ⟨vc, vm, v4⟩, -⟩ := hT2 hd
      have hibv : ib (nI (vv (tt j))) 4 = true := ib_nI v4 (by omega)
      have hclv : (nI (vv (tt j))).toNatClampNeg = vv (tt j) := nI_clamp (by omega)
      -- the item completed, the variable set
      have hB1 : rr_B (ly_pi uC 47 j 3) (ly_pi uM 18 j 3) df jo sp is os rg nn th vv dd fi gv on p mm tt (va_up ss j 3) := rr_B_s hB _ (fun k hk => pi_p hk) (fun k hk => pi_p hk) (fun i g1 g2 => by
        by_cases e : i = j
        · subst e; rw [pi_at, va_up_self]; rfl
        · rw [pi_ne (Or.inr e), va_up_ne _ _ e]; exact (hI i g1 g2).2.1.1) (fun i g1 g2 => by
        by_cases e : i = j
        · subst e; rw [pi_at, va_up_self]; rfl
        · rw [pi_ne (Or.inr e), va_up_ne _ _ e]; exact (hI i g1 g2).2.1.2.1) (fun i g1 g2 => by
        by_cases e : i = j
        · subst e; rw [va_up_self]; omega
        · rw [va_up_ne _ _ e]; exact (hI i g1 g2).2.1.2.2)
      have hB2 := rr_B_v hB1 (vv (tt j)) v
      have hX : rr_X (tt j) df nn th fi on p mm tt (va_up ss j 3) := by
        refine ⟨hV.1, fun s hs hr => ?_, fun i g1 g2 g3 => ?_⟩
        · obtain ⟨a1, a2, a3, a4, a5, a6⟩ := hV.2.1 s hs hr
          refine ⟨a1, a2, a3, a4, a5, fun hne => ?_⟩
          rw [ct_eq (ss := ss) (nn s) (fun i g1 g2 => by
            have e : i ≠ j := fun e => by subst e; exact hne (a4 i g1 g2).symm
            rw [va_up_ne _ _ e])]
          exact a6
        · by_cases e : i = j
          · subst e; rw [va_up_self] at g3; omega
          · rw [va_up_ne _ _ e] at g3; exact hV.2.2 i g1 g2 g3
      obtain ⟨c, hc⟩ : ∃ c, c = ct_n (va_up ss j 3) (fi (tt j)) (nn (tt j)) := ⟨_, rfl⟩
      have hcu : c ≤ th (tt j) := by
        have := ct_up (ss := ss) (a := fi (tt j)) (j := j) (nn (tt j))
        omega
      have hB2' := hB2
      obtain ⟨hS2, hI2, hT22, hW2⟩ := hB2'
      have k1 := cc_C (F := F) (a := fi (tt j)) (b := nn (tt j)) (ss := va_up ss j 3) (u := ly_pi (ly_pi uC 47 j 3) 49 (vv (tt j)) v) hmm b1 b2 (fun i g1 g2 => ⟨(hI2 i g1 g2).2.1.1, (hI2 i g1 g2).2.1.2.2.2⟩) (fun (v3_2 : Int32) (v4_3 : Int32) (u4 : St) => (some (v3_2, u4))) F 0 (by omega) (by omega)
      rw [← hc] at k1
      have EC1 : sp_Work_countCompleted F (nI (fi (tt j))) (nI (nn (tt j))) (ly_pi (ly_pi uC 47 j 3) 49 (vv (tt j)) v) = some (nI c, ly_pi (ly_pi uC 47 j 3) 49 (vv (tt j)) v) := k1
      have EM1 := ins_M (F := F) (t := tt j) (lo := 3) (hi := 3) hF hmm b1 i3 (by omega) (by omega) b2 b3 b4 ((hT22 (tt j) i3).1.2.1) hS2.2.2.2.2.2.2.2.2.1 (fun i q1 q2 => ⟨(hI2 i q1 q2).1.2.1, (hI2 i q1 q2).1.2.2⟩) (fun i q1 q2 => ⟨(hI2 i q1 q2).2.1.2.1, (hI2 i q1 q2).2.1.2.2.2⟩)
      have hcc : cn_n (fun i => decide (3 ≤ va_up ss j 3 i ∧ va_up ss j 3 i ≤ 3)) (fi (tt j)) (nn (tt j)) = c := by
        rw [hc, ct_cn]
        refine cn_eq _ (fun i _ _ => ?_)
        by_cases e : va_up ss j 3 i = 3
        · rw [decide_eq_true e, decide_eq_true (by omega)]
        · rw [decide_eq_false e, decide_eq_false (by omega)]
      rw [hcc] at EM1
      have EM1 : sp_Md_inState F (nI (tt j)) (3 : Int32) (3 : Int32) (ly_pi (ly_pi uM 18 j 3) 16 (vv (tt j)) v) = some (nI c, ly_pi (ly_pi uM 18 j 3) 16 (vv (tt j)) v) := EM1
      have cq : ∀ x, x ≠ 47 → x ≠ 49 → (ly_pi (ly_pi uC 47 j 3) 49 (vv (tt j)) v).1 x = uC.1 x := fun x h1 h2 => by rw [pi_p h2, pi_p h1]
      have mq : ∀ x, x ≠ 18 → x ≠ 16 → (ly_pi (ly_pi uM 18 j 3) 16 (vv (tt j)) v).1 x = uM.1 x := fun x h1 h2 => by rw [pi_p h2, pi_p h1]
      have HC : sp_CN_finish F (nI j) v uC = if nI c < nI (th (tt j)) then cl_k (sp_CN_stopIfNoneIsOpen F (tt j) (ly_pi (ly_pi uC 47 j 3) 49 (vv (tt j)) v)) (fun r15 u16 => (some ((0 : Int32), u16))) else cl_k (sp_CN_end F (tt j) (ly_pi (ly_pi uC 47 j 3) 49 (vv (tt j)) v)) (fun r18 u19 => (some ((1 : Int32), u19))) := by
        unfold sp_CN_finish
        rw [e1, cl_some, if_neg n1, if_pos hib, hcl, s1, if_pos (show nI (ss j) = (2 : Int32) from by rw [hs2]; rfl), if_pos hib, i1, if_pos hibt, hclt, if_pos hib]
        simp only [nm_k]
        rw [pi_p (q := 47) (k := 9 + 6 * tt j) (by omega), vc, if_pos hibv, hclv, cq (9 + 6 * tt j) (by omega) (by omega), f1, nc, EC1, cl_some, cq (9 + 6 * tt j) (by omega) (by omega), tc]
      have HM : sp_Md_finish F (nI j) v uM = if nI c = nI (th (tt j)) then (cl_k (sp_Md_end F (nI (tt j)) (ly_pi (ly_pi uM 18 j 3) 16 (vv (tt j)) v)) (fun r22 u23 => (some ((1 : Int32), u23)))) else (cl_k (sp_Md_inState F (nI (tt j)) (1 : Int32) (2 : Int32) (ly_pi (ly_pi uM 18 j 3) 16 (vv (tt j)) v)) (fun r16 u17 => (if r16 = 0 then (cl_k (sp_Md_stop F (nI (tt j)) u17) (fun r19 u20 => (some ((0 : Int32), u20)))) else (some ((0 : Int32), u17))))) := by
        unfold sp_Md_finish
        rw [e2, cl_some, if_neg n1, if_pos hib, hcl, s2, if_pos (show nI (ss j) = (2 : Int32) from by rw [hs2]; rfl), if_pos hib, i2]
        simp only [nm_k]
        rw [if_pos hib, if_pos hibt, hclt, pi_p (q := 18) (k := 14) (by omega), vm, if_pos hibv, hclv, EM1, cl_some, if_pos hibt, mq 13 (by omega) (by omega), tm]
      rw [HC, HM]
      by_cases hlt : c < th (tt j)
      · have hV2 : rr_V df nn th fi on p mm tt (va_up ss j 3) := by
          refine ⟨hX.1, fun s hs hr => ?_, hX.2.2⟩
          obtain ⟨a1, a2, a3, a4, a5, a6⟩ := hX.2.1 s hs hr
          refine ⟨a1, a2, a3, a4, a5, ?_⟩
          by_cases e : s = tt j
          · rw [e, ← hc]; exact hlt
          · exact a6 e
        rw [if_pos (nI_lt hlt (by omega)), if_neg (fun e => by have := (nI_eq (by omega) (by omega)).mp e; omega)]
        obtain ⟨c2, hc2, q1, q2⟩ := sn_same hF i3 hB2 hV2 r1
        rw [q1, cl_some]
        rcases q2 with ⟨c0, q3⟩ | ⟨c0, uC', uM', q3, q4, q5⟩
        · rw [q3, cl_some, if_neg (fun e => c0 ((nI_z (by omega)).mp e))]
          exact ⟨0, _, _, rfl, rfl, rr_mk hB2 hV2⟩
        · rw [q3, cl_some, if_pos ((nI_z (by omega)).mpr c0), q4, cl_some]
          exact ⟨0, _, _, rfl, rfl, q5⟩
      · have hce : c = th (tt j) := by omega
        rw [if_neg (nI_nlt (by omega) (by omega)), if_pos (by rw [hce])]
        obtain ⟨uC', uM', q1, q2, q3⟩ := end_same hF i3 hB2 hX r1
        rw [q1, cl_some, q2, cl_some]
        exact ⟨1, _, _, rfl, rfl, q3⟩
    · refine ⟨-2, uC, uM, ?_, ?_, h'⟩
      · unfold sp_CN_finish
        rw [e1, cl_some, if_neg n1, if_pos hib, hcl, s1, if_neg (show ¬ nI (ss j) = (2 : Int32) from fun e => hs2 ((nI_eq (b := 2) (by omega) (by omega)).mp e))]
      · unfold sp_Md_finish
        rw [e2, cl_some, if_neg n1, if_pos hib, hcl, s2, if_neg (show ¬ nI (ss j) = (2 : Int32) from fun e => hs2 ((nI_eq (b := 2) (by omega) (by omega)).mp e))]
  · refine ⟨-1, uC, uM, ?_, ?_, h'⟩
    · unfold sp_CN_finish; rw [e1, cl_some, if_pos rfl]
    · unfold sp_Md_finish; rw [e2, cl_some, if_pos rfl]
