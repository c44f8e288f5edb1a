theorem rs_item {F : Nat} : RS_item RR F := by
  intro uC uM h a b
  have h' := h
  obtain ⟨df, jo, sp, is, os, rg, nn, th, vv, dd, fi, gv, on, p, mm, tt, ss, hS, hI, hT, ⟨hW, hWm, hD⟩, hV⟩ := h
  have hmm := hS.2.2.2.2.2.2.2.2.2
  rcases it_ca hS a with ⟨j, j1, j2, rfl, e1, e2⟩ | ⟨e1, e2⟩
  · obtain ⟨⟨i1, i2, i3⟩, ⟨s1, s2, s3, s4⟩, i4⟩ := hI j j1 j2
    have n1 : ¬ (1 : Int32) = 0 := by decide
    by_cases b0 : b = 0
    · subst b0
      refine ⟨nI (tt j), uC, uM, ?_, ?_, h'⟩
      · unfold sp_CN_item
        rw [e1, cl_some, if_neg n1, if_pos rfl, if_pos (ib_nI (by omega) (by omega)), nI_clamp (by omega), i1]
      · unfold sp_Md_item
        rw [e2, cl_some, if_neg n1, if_neg (by decide), if_pos (by decide), if_pos rfl, if_pos (ib_nI (by omega) (by omega)), nI_clamp (by omega), i2]
    · by_cases b1 : b = 1
      · subst b1
        refine ⟨nI (ss j), uC, uM, ?_, ?_, h'⟩
        · unfold sp_CN_item
          rw [e1, cl_some, if_neg n1, if_neg (show ¬ (1 : Int32) = (0 : Int32) from n1), if_pos rfl, if_pos (ib_nI (by omega) (by omega)), nI_clamp (by omega), s1]
        · unfold sp_Md_item
          rw [e2, cl_some, if_neg n1, if_neg (show ¬ (1 : Int32) < 0 from by decide), if_pos (show (1 : Int32) ≤ 2 from by decide), if_neg n1, if_pos rfl, if_pos (ib_nI (by omega) (by omega)), nI_clamp (by omega), s2]
      · by_cases b2 : b = 2
        · subst b2
          refine ⟨uC.1 48 j, uC, uM, ?_, ?_, h'⟩
          · unfold sp_CN_item
            rw [e1, cl_some, if_neg n1, if_neg (show ¬ (2 : Int32) = (0 : Int32) from by decide), if_neg (show ¬ (2 : Int32) = (1 : Int32) from by decide), if_pos rfl, if_pos (ib_nI (by omega) (by omega)), nI_clamp (by omega)]
          · unfold sp_Md_item
            rw [e2, cl_some, if_neg n1, if_neg (show ¬ (2 : Int32) < 0 from by decide), if_pos (show (2 : Int32) ≤ 2 from by decide), if_neg (show ¬ (2 : Int32) = 0 from by decide), if_neg (show ¬ (2 : Int32) = (1 : Int32) from by decide), if_pos (ib_nI (by omega) (by omega)), nI_clamp (by omega), i4]
        · refine ⟨-1, uC, uM, ?_, ?_, h'⟩
          · unfold sp_CN_item
            rw [e1, cl_some, if_neg n1, if_neg b0, if_neg b1, if_neg b2]
          · unfold sp_Md_item
            rw [e2, cl_some, if_neg n1]
            by_cases c1 : b < 0
            · rw [if_pos c1]
            · rw [if_neg c1, if_neg]
              intro c2
              obtain ⟨k, hk, e⟩ := nI_of2 (M := 2) (n := 2) (by decide) c1 c2
              subst e
              rcases (show k = 0 ∨ k = 1 ∨ k = 2 by omega) with rfl | rfl | rfl
              · exact b0 rfl
              · exact b1 rfl
              · exact b2 rfl
  · refine ⟨-1, uC, uM, ?_, ?_, h'⟩
    · unfold sp_CN_item; rw [e1, cl_some, if_pos rfl]
    · unfold sp_Md_item; rw [e2, cl_some, if_pos rfl]
/-- a task's number: both sides know alike whether it is defined -/
theorem df_ca {uC uM : St} {df : Nat → Bool} {jo sp is os rg : Nat → Nat} (hW : cn_W df jo sp is os rg uC) (hWm : md_W df jo sp is os rg uM) (a : Int32) : (∃ t, t < 6 ∧ a = nI t ∧ df t = true ∧ sp_Net_isDefined a uC = some (1, uC) ∧ sp_Md_isDefined a uM = some (1, uM)) ∨ (sp_Net_isDefined a uC = some (0, uC) ∧ sp_Md_isDefined a uM = some (0, uM)) := by
  have n1 : ¬ (1 : Int32) = 0 := by decide
  unfold sp_Net_isDefined sp_Md_isDefined sp_CN_isBetween sp_Md_isTask
  by_cases c1 : a < 0
  · exact Or.inr ⟨by rw [if_pos c1, cl_some, if_pos rfl], by rw [if_pos c1, cl_some, if_pos rfl]⟩
  · by_cases c2 : (5 : Int32) < a
    · exact Or.inr ⟨by rw [if_neg c1, if_pos c2, cl_some, if_pos rfl], by rw [if_neg c1, if_pos c2, cl_some, if_pos rfl]⟩
    · obtain ⟨t, ht, e⟩ := nI_of2 (M := 5) (n := 5) (by decide) c1 (i_nlt c2)
      subst e
      have h1 := (hW t (by omega)).2.1
      have h2 := (hWm t (by omega)).1
      by_cases hd : df t = true
      · rw [if_pos hd] at h1 h2
        refine Or.inl ⟨t, by omega, rfl, hd, ?_, ?_⟩
        · rw [if_neg c1, if_neg c2, cl_some, if_neg n1, if_pos (ib_nI (by omega) (by omega)), nI_clamp (by omega), h1, if_neg n1]
        · rw [if_neg c1, if_neg c2, cl_some, if_neg n1, if_pos (ib_nI (by omega) (by omega)), nI_clamp (by omega), h2, if_neg n1]
      · rw [if_neg hd] at h1 h2
        refine Or.inr ⟨?_, ?_⟩
        · rw [if_neg c1, if_neg c2, cl_some, if_neg n1, if_pos (ib_nI (by omega) (by omega)), nI_clamp (by omega), h1, if_pos rfl]
        · rw [if_neg c1, if_neg c2, cl_some, if_neg n1, if_pos (ib_nI (by omega) (by omega)), nI_clamp (by omega), h2, if_pos rfl]
theorem rs_launch {F : Nat} (hF : 20 < F) : RS_launch RR F := by
  intro uC uM h
  have h' := h
  obtain ⟨df, jo, sp, is, os, rg, nn, th, vv, dd, fi, gv, on, p, mm, tt, ss, hS, hI, hT, ⟨hW, hWm, hD⟩, hV⟩ := h
  obtain ⟨S1, S2, S3, S4, S5, S6, S7, S8, S9, S10⟩ := hS
  unfold sp_CN_launch sp_Md_launch
  rw [S1, S2]
  cases on with
  | true =>
    rw [if_neg (show ¬ b_2 true = 0 from by decide), if_neg (show ¬ b_2 true = 0 from by decide)]
    exact ⟨0, uC, uM, rfl, rfl, h'⟩
  | false =>
    rw [if_pos (show b_2 false = 0 from rfl), if_pos (show b_2 false = 0 from rfl)]
    obtain ⟨D, d1, d2, d3⟩ := dt_all (F := F) hF hW
    obtain ⟨a, a1, a2⟩ := md_any (F := F) (df := df) hF (fun t ht => (hWm t ht).1)
    rw [d1, a1, cl_some, cl_some]
    have hp : p = 0 := hV.1 rfl
    cases a with
    | false =>
      have hD0 : D = 0 := Nat.eq_of_testBit_eq (fun i => by
        rw [Nat.zero_testBit]
        cases hx : D.testBit i with
        | false => rfl
        | true => obtain ⟨q1, q2⟩ := (d3 i).mp hx; exact absurd (a2.mpr ⟨i, q1, q2⟩) (by decide))
      rw [if_pos ((nI_z (by omega)).mpr hD0), if_neg (show ¬ (false = true) from by decide), if_pos rfl]
      exact ⟨0, uC, uM, rfl, rfl, h'⟩
    | true =>
      have hD0 : ¬ D = 0 := fun e => by
        obtain ⟨t, q1, q2⟩ := a2.mp rfl
        have := (d3 t).mpr ⟨q1, q2⟩
        rw [e, Nat.zero_testBit] at this
        cases this
      rw [if_neg (fun e => hD0 ((nI_z (by omega)).mp e)), if_pos (show true = true from rfl), if_neg (show ¬ (1 : Int32) = 0 from by decide)]
      subst hp
      refine ⟨1, ly_pi (ly_pi uC 0 3 1) 0 4 1, ly_pi (ly_pi uM 0 15 1) 0 16 1, rfl, rfl, df, jo, sp, is, os, rg, nn, th, vv, dd, fi, gv, true, 1, mm, tt, ss, ⟨?_, ?_, ?_, ?_, by omega, ?_, fun i hi => ?_, ?_, ?_, S10⟩, rr_I_fr hI (fun k _ _ => ?_) (fun k _ _ => ?_), rr_T_fr hT (fun k _ _ => ?_) (fun k _ _ _ _ _ _ => ?_), ⟨nw_fr2 hW (fun k _ _ => ?_), md_fr2 hWm (fun k _ _ => ?_), hD⟩, (fun h => nomatch h), fun t ht hr => ?_, fun i h1 h2 h3 => ?_⟩
      · rw [pi_ne (Or.inr (by omega)), pi_at]; rfl
      · rw [pi_ne (Or.inr (by omega)), pi_at]; rfl
      · rw [pi_at]; rfl
      · rw [pi_at]; rfl
      · rw [pi_ne (Or.inr (by omega)), pi_ne (Or.inr (by omega)), pi_ne (Or.inr (by omega)), pi_ne (Or.inr (by omega))]; exact S6
      · rw [pi_p (by omega), pi_p (by omega), pi_p (by omega), pi_p (by omega)]; exact S7 i hi
      · rw [pi_p (by omega), pi_p (by omega)]; exact S8
      · rw [pi_ne (Or.inr (by omega)), pi_ne (Or.inr (by omega))]; exact S9
      · rw [pi_p (by omega), pi_p (by omega)]
      · rw [pi_p (by omega), pi_p (by omega)]
      · rw [pi_p (by omega), pi_p (by omega)]
      · rw [pi_p (by omega), pi_p (by omega)]
      · rw [pi_p (by omega), pi_p (by omega)]
      · rw [pi_p (by omega), pi_p (by omega)]
      · exfalso
        rw [show (1 : Nat) = 2 ^ 0 from rfl, Nat.testBit_two_pow, decide_eq_true_eq] at hr
        omega
      · exfalso
        have := (hV.2.2 i h1 h2 h3).1
        rw [Nat.zero_testBit] at this
        cases this
