theorem en_loop {F : Nat} (hF : 16500 < F) : ∀ (n i D : Nat) (uC uM : St), i ≤ 6 → 6 - i < n → RR uC uM → ∃ D' zc zm uC' uM', (∀ k, lp_CN_enabled_4 F k n (nI D) (nI i) uC = k (nI D') zc uC') ∧ (∀ k, lp_Md_enabled_4 F k n (nI D) (nI i) uM = k (nI D') zm uM') ∧ RR uC' uM' := by
  intro n
  induction n with
  | zero => intro i D uC uM _ h; omega
  | succ n ih =>
    intro i D uC uM hi hn hR
    by_cases hc : i = 6
    · subst hc
      refine ⟨D, nI 6, nI 6, uC, uM, fun k => ?_, fun k => ?_, hR⟩
      · rw [lp_CN_enabled_4, if_pos (show (6 : Int32) ≤ nI 6 from by decide)]
      · rw [lp_Md_enabled_4, if_pos (show (6 : Int32) ≤ nI 6 from by decide)]
    · have hR' := hR
      obtain ⟨df, jo, sp, is, os, rg, nn, th, vv, dd, fi, gv, on, p, mm, tt, ss, hS, hI, hT, ⟨hW, hWm, hD⟩, hV⟩ := hR
      obtain ⟨r, uC1, uM1, e1, e2, e3, e4, e5⟩ := en_same hF hW hWm hD (t := i) (fun hd => ⟨((hT i (by omega)).2 hd).1.1, ((hT i (by omega)).2 hd).1.2.2.1⟩) (by omega) hS.2.2.2.2.1 hS.1 hS.2.1 hS.2.2.1 hS.2.2.2.1
      have hR1 := rr_fr hR' (fr_n_s e3) (fun k j a b => e4.1 k j a b)
      have n1 : ¬ (1 : Int32) = 0 := by decide
      have step : ∃ D1, (∀ k, lp_CN_enabled_4 F k (n + 1) (nI D) (nI i) uC = lp_CN_enabled_4 F k n (nI D1) (nI (i + 1)) uC1) ∧ ∀ k, lp_Md_enabled_4 F k (n + 1) (nI D) (nI i) uM = lp_Md_enabled_4 F k n (nI D1) (nI (i + 1)) uM1 := by
        rcases e5 with rfl | ⟨rfl, _⟩
        · refine ⟨D, fun k => ?_, fun k => ?_⟩
          · conv => lhs; rw [lp_CN_enabled_4]
            rw [if_neg (show ¬ (6 : Int32) ≤ nI i from nI_ge (b := 6) (by omega) (by omega)), e1, cl_some, if_pos rfl, nI_1]
          · conv => lhs; rw [lp_Md_enabled_4]
            rw [if_neg (show ¬ (6 : Int32) ≤ nI i from nI_ge (b := 6) (by omega) (by omega)), e2, cl_some, if_pos rfl, nI_1]
            simp only [nm_k]
            rw [show (0 : Int32) = nI 0 from rfl, nx_or, Nat.or_zero]
        · refine ⟨D ||| 2 ^ i, fun k => ?_, fun k => ?_⟩
          · conv => lhs; rw [lp_CN_enabled_4]
            rw [if_neg (show ¬ (6 : Int32) ≤ nI i from nI_ge (b := 6) (by omega) (by omega)), e1, cl_some, if_neg n1, nI_1]
            simp only [nm_k]
            rw [sh_one (by omega), nx_or]
          · conv => lhs; rw [lp_Md_enabled_4]
            rw [if_neg (show ¬ (6 : Int32) ≤ nI i from nI_ge (b := 6) (by omega) (by omega)), e2, cl_some, if_neg n1, nI_1]
            simp only [nm_k]
            rw [sh_one (by omega), nx_or]
      obtain ⟨D1, s1, s2⟩ := step
      obtain ⟨D', zc, zm, uC', uM', g1, g2, g3⟩ := ih (i + 1) D1 uC1 uM1 (by omega) (by omega) hR1
      exact ⟨D', zc, zm, uC', uM', fun k => by rw [s1 k]; exact g1 k, fun k => by rw [s2 k]; exact g2 k, g3⟩
theorem rs_enabled {F : Nat} (hF : 16500 < F) : RS_enabled RR F := by
  intro uC uM h
  obtain ⟨D', zc, zm, uC', uM', g1, g2, g3⟩ := en_loop hF F 0 0 uC uM (by omega) (by omega) h
  exact ⟨nI D', uC', uM', g1 (fun (v1_5 : Int32) (v2_6 : Int32) (u7 : St) => (some (v1_5, u7))), g2 (fun (v1_6 : Int32) (v2_7 : Int32) (u8 : St) => (some (v1_6, u8))), g3⟩
