theorem rs_guard {F : Nat} : RS_guard RR F := by
  intro uC uM h a a2 a3 a4 a5
  have h' := h
  obtain ⟨df, jo, sp, is, os, rg, nn, th, vv, dd, fi, gv, on, p, mm, tt, ss, hS, hI, hT, ⟨hW, hWm, hD⟩, hV⟩ := h
  obtain ⟨S1, S2, S3, S4, S5, S6, S7, S8, S9, S10⟩ := hS
  cases on with
  | true =>
    refine ⟨0, uC, uM, ?_, ?_, h'⟩
    · unfold sp_CN_guard; rw [S1, if_neg (show ¬ b_2 true = 0 from by decide)]
    · unfold sp_Md_guard; rw [S2, if_neg (show ¬ b_2 true = 0 from by decide)]
  | false =>
    rcases df_ca hW hWm a with ⟨t, ht, rfl, hd, e1, e2⟩ | ⟨e1, e2⟩
    · have ho1 := ((hT t ht).2 hd).1.2.2.2
      have ho2 := ((hWm t ht).2 hd).2.2.2.1
      have hos := (hD t ht hd).2.2.2.1.1
      rcases gd_C ht ho1 a2 a3 a4 a5 S1 e1 with ⟨c, hc, ec, k, E1⟩ | ⟨k, E1⟩ <;> rcases gd_M ht hos ho2 a2 a3 a4 a5 S2 e2 with ⟨c', hc', ec', k', E2⟩ | ⟨k', E2⟩
      · have ecc : c' = c := by
          rw [ec] at ec'
          exact ((nI_eq (by omega) (by omega)).mp ec').symm
        subst ecc
        obtain ⟨v, lv, ev⟩ := nI_of2 (M := 3) (n := 3) (by decide) k.1.1 (i_nlt k.1.2)
        have cO : ∀ q, q ≠ 9 + 6 * t + 3 → q ≠ 9 + 6 * t + 4 → q ≠ 9 + 6 * t + 5 → (ly_pi (ly_pi (ly_pi uC (9 + 6 * t + 3) c' a3) (9 + 6 * t + 4) c' a4) (9 + 6 * t + 5) c' a5).1 q = uC.1 q := fun q h1 h2 h3 => by
          rw [pi_p h3, pi_p h2, pi_p h1]
        have mO : ∀ q, q ≠ 9 → q ≠ 10 → q ≠ 11 → (ly_pi (ly_pi (ly_pi uM 9 (8 * t + c') a3) 10 (8 * t + c') a4) 11 (8 * t + c') a5).1 q = uM.1 q := fun q h1 h2 h3 => by
          rw [pi_p h3, pi_p h2, pi_p h1]
        refine ⟨1, _, _, E1, E2, df, jo, sp, is, os, rg, nn, th, vv, dd, fi, fun s x => if s = t ∧ x = c' then v else gv s x, false, p, mm, tt, ss, ?_, rr_I_fr hI (fun q _ _ => cO q (by omega) (by omega) (by omega)) (fun q _ _ => mO q (by omega) (by omega) (by omega)), fun s hs => ?_, ⟨fun s hs => ?_, md_fr2 hWm (fun q _ _ => mO q (by omega) (by omega) (by omega)), hD⟩, hV⟩
        · unfold rr_S
          rw [cO 0 (by omega) (by omega) (by omega), cO 45 (by omega) (by omega) (by omega), cO 49 (by omega) (by omega) (by omega), mO 0 (by omega) (by omega) (by omega), mO 16 (by omega) (by omega) (by omega)]
          exact ⟨S1, S2, S3, S4, S5, S6, S7, S8, S9, S10⟩
        · rw [cO (9 + 6 * s) (by omega) (by omega) (by omega), mO 20 (by omega) (by omega) (by omega), mO 12 (by omega) (by omega) (by omega), mO 13 (by omega) (by omega) (by omega), mO 14 (by omega) (by omega) (by omega), mO 15 (by omega) (by omega) (by omega)]
          obtain ⟨b1, b2⟩ := hT s hs
          refine ⟨b1, fun hds => ?_⟩
          obtain ⟨d1, d2, d3, d4, d5, d6⟩ := b2 hds
          refine ⟨d1, d2, d3, d4, d5, fun x hx => ?_⟩
          by_cases e : s = t ∧ x = c'
          · obtain ⟨rfl, rfl⟩ := e
            simp only [and_self, if_true]
            refine ⟨⟨?_, ?_, by omega⟩, ?_, ?_⟩
            · rw [pi_p (by omega), pi_p (by omega), pi_at]; exact ev
            · rw [pi_p (by omega), pi_p (by omega), pi_at]; exact ev
            · rw [pi_p (q := 11) (by omega), pi_at, pi_p (q := 9 + 6 * s + 5) (by omega), pi_at]
            · rw [pi_at, pi_at]
          · have hx' : s ≠ t ∨ x ≠ c' := by
              by_cases e1 : s = t
              · exact Or.inr (fun e2 => e ⟨e1, e2⟩)
              · exact Or.inl e1
            have cA : ∀ q, (q = 3 ∨ q = 4 ∨ q = 5) → (ly_pi (ly_pi (ly_pi uC (9 + 6 * t + 3) c' a3) (9 + 6 * t + 4) c' a4) (9 + 6 * t + 5) c' a5).1 (9 + 6 * s + q) x = uC.1 (9 + 6 * s + q) x := fun q hq => by
              have f : ∀ r, (r = 3 ∨ r = 4 ∨ r = 5) → (9 + 6 * s + q ≠ 9 + 6 * t + r ∨ x ≠ c') := fun r hr => hx'.elim (fun h => Or.inl (by omega)) Or.inr
              rw [pi_ne (f 5 (by omega)), pi_ne (f 4 (by omega)), pi_ne (f 3 (by omega))]
            have mA : ∀ q, (ly_pi (ly_pi (ly_pi uM 9 (8 * t + c') a3) 10 (8 * t + c') a4) 11 (8 * t + c') a5).1 q (8 * s + x) = uM.1 q (8 * s + x) := fun q => by
              have f : 8 * s + x ≠ 8 * t + c' := by omega
              rw [pi_ne (Or.inr f), pi_ne (Or.inr f), pi_ne (Or.inr f)]
            simp only [if_neg e]
            rw [cA 3 (by omega), cA 4 (by omega), cA 5 (by omega), mA 9, mA 10, mA 11]
            exact d6 x hx
        · rw [cO (9 + 6 * s) (by omega) (by omega) (by omega), cO (9 + 6 * s + 1) (by omega) (by omega) (by omega), cO (9 + 6 * s + 2) (by omega) (by omega) (by omega)]
          exact hW s hs
      · exact absurd k k'
      · exact absurd k' k
      · exact ⟨0, uC, uM, E1, E2, h'⟩
    · refine ⟨0, uC, uM, ?_, ?_, h'⟩
      · unfold sp_CN_guard; rw [S1, if_pos (show b_2 false = 0 from rfl), e1, cl_some, if_pos rfl]
      · unfold sp_Md_guard; rw [S2, if_pos (show b_2 false = 0 from rfl), e2, cl_some, if_pos rfl]
