theorem rs_region {F : Nat} : RS_region RR F := by
  intro uC uM h a b
  have h' := h
  obtain ⟨df, jo, sp, is, os, rg, nn, th, vv, dd, fi, gv, on, p, mm, tt, ss, hS, hI, hT, ⟨hW, hWm, hD⟩, hV⟩ := h
  have n1 : ¬ (1 : Int32) = 0 := by decide
  obtain ⟨S1, S2, S3, S4, S5, S6, S7, S8, S9, S10⟩ := hS
  unfold sp_CN_region sp_Md_region
  rw [S1, S2]
  cases on with
  | true =>
    rw [if_neg (show ¬ b_2 true = 0 from by decide), if_neg (show ¬ b_2 true = 0 from by decide)]
    exact ⟨0, uC, uM, rfl, rfl, h'⟩
  | false =>
    rw [if_pos (show b_2 false = 0 from rfl), if_pos (show b_2 false = 0 from rfl)]
    rcases df_ca hW hWm a with ⟨t, ht, rfl, hd, e1, e2⟩ | ⟨e1, e2⟩
    · rw [e1, e2, cl_some, cl_some, if_neg n1, if_neg n1]
      rcases pl_ca b uC uM with ⟨m, l1, rfl, c1, d1⟩ | ⟨c1, d1⟩
      · rw [c1, d1, cl_some, cl_some, if_neg n1, if_neg n1, if_pos (ib_nI ht (by omega)), if_pos (ib_nI ht (by omega)), nI_clamp (by omega)]
        refine ⟨1, ly_pi uC (9 + 6 * t) 6 (nI m), ly_pi uM 8 t (nI m), rfl, rfl, df, jo, sp, is, os, va_up rg t m, nn, th, vv, dd, fi, gv, false, p, mm, tt, ss, ?_, rr_I_fr hI (fun k _ _ => pi_p (by omega)) (fun k _ _ => pi_p (by omega)), fun s hs => ?_, ⟨fun s hs => ?_, fun s hs => ?_, fun s hs hds => ?_⟩, hV⟩
        · unfold rr_S
          rw [pi_p (q := 9 + 6 * t) (k := 0) (by omega), pi_p (q := 9 + 6 * t) (k := 45) (by omega), pi_p (q := 9 + 6 * t) (k := 49) (by omega), pi_p (q := 8) (k := 0) (by omega), pi_p (q := 8) (k := 16) (by omega)]
          exact ⟨S1, S2, S3, S4, S5, S6, S7, S8, S9, S10⟩
        · have c6 : ∀ j, j ≠ 6 → (ly_pi uC (9 + 6 * t) 6 (nI m)).1 (9 + 6 * s) j = uC.1 (9 + 6 * s) j := fun j hj => pi_ne (Or.inr hj)
          rw [c6 11 (by omega), c6 2 (by omega), c6 3 (by omega), c6 4 (by omega), c6 5 (by omega), c6 7 (by omega), c6 8 (by omega), c6 9 (by omega), c6 10 (by omega), pi_p (q := 9 + 6 * t) (k := 9 + 6 * s + 3) (by omega), pi_p (q := 9 + 6 * t) (k := 9 + 6 * s + 4) (by omega), pi_p (q := 9 + 6 * t) (k := 9 + 6 * s + 5) (by omega), pi_p (q := 8) (k := 20) (by omega), pi_p (q := 8) (k := 12) (by omega), pi_p (q := 8) (k := 13) (by omega), pi_p (q := 8) (k := 14) (by omega), pi_p (q := 8) (k := 15) (by omega), pi_p (q := 8) (k := 9) (by omega), pi_p (q := 8) (k := 10) (by omega), pi_p (q := 8) (k := 11) (by omega)]
          exact hT s hs
        · have c6 : ∀ j, j ≠ 6 → (ly_pi uC (9 + 6 * t) 6 (nI m)).1 (9 + 6 * s) j = uC.1 (9 + 6 * s) j := fun j hj => pi_ne (Or.inr hj)
          rw [c6 0 (by omega), c6 1 (by omega), c6 14 (by omega), c6 15 (by omega), pi_p (q := 9 + 6 * t) (k := 9 + 6 * s + 1) (by omega), pi_p (q := 9 + 6 * t) (k := 9 + 6 * s + 2) (by omega)]
          obtain ⟨b1, b2, b3⟩ := hW s hs
          refine ⟨b1, b2, fun hds => ?_⟩
          obtain ⟨b4, b5, b6⟩ := b3 hds
          refine ⟨?_, b5, b6⟩
          by_cases e : s = t
          · subst e; rw [pi_at, va_up_self]; exact ⟨rfl, l1⟩
          · rw [pi_p (by omega), va_up_ne _ _ e]; exact b4
        · rw [pi_p (q := 8) (k := 1) (by omega), pi_p (q := 8) (k := 2) (by omega), pi_p (q := 8) (k := 3) (by omega), pi_p (q := 8) (k := 4) (by omega), pi_p (q := 8) (k := 5) (by omega), pi_p (q := 8) (k := 6) (by omega), pi_p (q := 8) (k := 7) (by omega)]
          obtain ⟨b1, b2⟩ := hWm s hs
          refine ⟨b1, fun hds => ?_⟩
          obtain ⟨w2, w3, w4, w5, w6, w7, w8⟩ := b2 hds
          refine ⟨w2, w3, w4, w5, w6, w7, ?_⟩
          by_cases e : s = t
          · subst e; rw [pi_at, va_up_self]
          · rw [pi_ne (Or.inr e), va_up_ne _ _ e]; exact w8
        · obtain ⟨b1, b2, b3, b4, b5⟩ := hD s hs hds
          refine ⟨b1, b2, b3, b4, ?_⟩
          by_cases e : s = t
          · subst e; rw [va_up_self]; exact l1
          · rw [va_up_ne _ _ e]; exact b5
      · rw [c1, d1, cl_some, cl_some, if_pos rfl, if_pos rfl]
        exact ⟨0, uC, uM, rfl, rfl, h'⟩
    · rw [e1, e2, cl_some, cl_some, if_pos rfl, if_pos rfl]
      exact ⟨0, uC, uM, rfl, rfl, h'⟩
