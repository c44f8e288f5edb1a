theorem i_nlt {a b : Int32} (h : ¬ a < b) : b ≤ a := by
  rw [Int32.lt_iff_toInt_lt] at h
  rw [Int32.le_iff_toInt_le]
  omega
theorem i_nle {a b : Int32} (h : ¬ a ≤ b) : b < a := by
  rw [Int32.le_iff_toInt_le] at h
  rw [Int32.lt_iff_toInt_lt]
  omega
theorem i_ltle {a b : Int32} (h : a < b) : ¬ b ≤ a := by
  rw [Int32.lt_iff_toInt_lt] at h
  rw [Int32.le_iff_toInt_le]
  omega
theorem i_lent {a b : Int32} (h : a ≤ b) : ¬ b < a := fun h2 => i_ltle h2 h
theorem us_14 {n : Nat} (hn : n < 2 ^ 32) : (((nI n).toUInt32 >>> ((14 : Int32).toUInt32 &&& Int32.toUInt32 31)).toInt32) = 0 ↔ n < 16384 := by
  rw [pk_ushrN hn (14 : Int32) 14 (by decide)]
  constructor
  · intro h
    have hd : n / 2 ^ 14 < 2 ^ 31 := by omega
    have := (nI_z hd).mp h
    omega
  · intro h
    rw [show n / 2 ^ 14 = 0 by omega]; rfl
theorem pl_ca (a : Int32) (uC uM : St) : (∃ m, m < 16384 ∧ a = nI m ∧ sp_CN_isMaskOfPlaces a uC = some (1, uC) ∧ sp_Md_isPlaces a uM = some (1, uM)) ∨ (sp_CN_isMaskOfPlaces a uC = some (0, uC) ∧ sp_Md_isPlaces a uM = some (0, uM)) := by
  obtain ⟨n, hn, rfl⟩ := wb_of32 a
  unfold sp_CN_isMaskOfPlaces sp_Md_isPlaces
  by_cases h : n < 16384
  · refine Or.inl ⟨n, h, rfl, ?_, ?_⟩
    · rw [if_pos ((us_14 hn).mpr h)]
    · rw [if_neg (nI_pos (by omega)), if_neg (show ¬ (16384 : Int32) ≤ nI n from nI_ge (b := 16384) h (by omega))]
  · refine Or.inr ⟨?_, ?_⟩
    · rw [if_neg (fun e => h ((us_14 hn).mp e))]
    · by_cases h0 : nI n < 0
      · rw [if_pos h0]
      · rw [if_neg h0, if_pos]
        obtain ⟨j, hj, e⟩ := nI_of h0
        have : n = j := by
          have := congrArg (fun z : Int32 => z.toBitVec.toNat) e
          simp only [pk_tn hn, pk_tn (show j < 2 ^ 32 by omega)] at this
          exact this
        subst this
        exact nI_le (a := 16384) (by omega) hj
theorem rs_marking {F : Nat} : RS_marking RR F := by
  intro uC uM h
  have h' := h
  obtain ⟨df, jo, sp, is, os, rg, nn, th, vv, dd, fi, gv, on, p, mm, tt, ss, hS, hI, hT, hW, hV⟩ := h
  exact ⟨nI p, uC, uM, by unfold sp_CN_marking; rw [hS.2.2.1], by unfold sp_Md_marking; rw [hS.2.2.2.1], h'⟩
theorem vr_ca (a : Int32) (u : St) : (∃ j, j < 4 ∧ a = nI j ∧ sp_CN_isVariable a u = some (1, u)) ∨ ((a < 0 ∨ (3 : Int32) < a) ∧ sp_CN_isVariable a u = some (0, u)) := by
  unfold sp_CN_isVariable sp_CN_isBetween
  by_cases h0 : a < 0
  · refine Or.inr ⟨Or.inl h0, ?_⟩
    rw [if_pos h0, cl_some, if_pos (Or.inl rfl)]
  · by_cases h3 : (3 : Int32) < a
    · refine Or.inr ⟨Or.inr h3, ?_⟩
      rw [if_neg h0, if_pos h3, cl_some, if_pos (Or.inl rfl)]
    · obtain ⟨j, hj, e⟩ := nI_of2 (M := 3) (n := 3) (by decide) h0 (i_nlt h3)
      refine Or.inl ⟨j, by omega, e, ?_⟩
      rw [if_neg h0, if_neg h3, cl_some, if_pos (Or.inr rfl)]
theorem rs_variable {F : Nat} : RS_variable RR F := by
  intro uC uM h a
  have h' := h
  obtain ⟨df, jo, sp, is, os, rg, nn, th, vv, dd, fi, gv, on, p, mm, tt, ss, hS, hI, hT, hW, hV⟩ := h
  unfold sp_CN_variable sp_Md_variable
  rcases vr_ca a uC with ⟨j, hj, rfl, e⟩ | ⟨hb, e⟩
  · refine ⟨uC.1 49 j, uC, uM, ?_, ?_, h'⟩
    · rw [e, cl_some, if_neg (by decide), if_pos (ib_nI hj (by omega)), nI_clamp (by omega)]
    · rw [if_neg (nI_pos (by omega)), if_neg (show ¬ (3 : Int32) < nI j from nI_nlt (a := 3) (by omega) (by omega)), if_pos (ib_nI hj (by omega)), nI_clamp (by omega), hS.2.2.2.2.2.2.1 j hj]
  · refine ⟨0, uC, uM, by rw [e, cl_some, if_pos rfl], ?_, h'⟩
    by_cases h0 : a < 0
    · rw [if_pos h0]
    · rw [if_neg h0, if_pos (hb.elim (fun h => absurd h h0) id)]
theorem rs_covers {F : Nat} (hF : 16500 < F) : RS_covers RR F := by
  intro uC uM h a b c
  have h' := h
  obtain ⟨df, jo, sp, is, os, rg, nn, th, vv, dd, fi, gv, on, p, mm, tt, ss, hS, hI, hT, ⟨hW, hWm, hD⟩, hV⟩ := h
  unfold sp_CN_covers sp_Md_covers
  rcases pl_ca a uC uM with ⟨m1, l1, rfl, c1, d1⟩ | ⟨c1, d1⟩
  · rw [c1, cl_some, if_neg (by decide), d1, cl_some, if_neg (by decide)]
    rcases pl_ca b uC uM with ⟨m2, l2, rfl, c2, d2⟩ | ⟨c2, d2⟩
    · rw [c2, cl_some, if_neg (by decide), d2, cl_some, if_neg (by decide)]
      unfold sp_CN_isBetween
      by_cases h1 : c < (-1 : Int32)
      · rw [if_pos h1, cl_some, if_pos rfl, if_pos h1]
        exact ⟨-1, uC, uM, rfl, rfl, h'⟩
      · rw [if_neg h1, if_neg h1]
        by_cases h2 : (5 : Int32) < c
        · rw [if_pos h2, cl_some, if_pos rfl, if_neg (i_ltle h2)]
          exact ⟨-1, uC, uM, rfl, rfl, h'⟩
        · rw [if_neg h2, cl_some, if_neg (by decide), if_pos (i_nlt h2)]
          obtain ⟨r, uC', uM', e1, e2, e3, e4, e5⟩ := cov_same hF hD hW hWm l1 l2 c
          rw [e1, cl_some, e2, cl_some]
          have hR := rr_fr h' (fr_n_s e3) (fun k j a b => e4.1 k j a b)
          rcases e5 with rfl | rfl
          · rw [if_pos rfl, if_pos rfl]
            exact ⟨0, uC', uM', rfl, rfl, hR⟩
          · rw [if_neg (by decide), if_neg (by decide)]
            exact ⟨1, uC', uM', rfl, rfl, hR⟩
    · rw [c2, cl_some, if_pos rfl, d2, cl_some, if_pos rfl]
      exact ⟨-1, uC, uM, rfl, rfl, h'⟩
  · rw [c1, cl_some, if_pos rfl, d1, cl_some, if_pos rfl]
    exact ⟨-1, uC, uM, rfl, rfl, h'⟩
