/-- with no case on nothing runs and nothing is open: numbers of items may change -/
theorem rr_V0 {df : Nat → Bool} {nn th fi nn' th' fi' : Nat → Nat} {df' : Nat → Bool} {p mm : Nat} {tt ss : Nat → Nat} (h : rr_V df nn th fi false p mm tt ss) : rr_V df' nn' th' fi' false p mm tt ss := by
  have hp : p = 0 := h.1 rfl
  subst hp
  refine ⟨fun _ => rfl, fun t _ hr => ?_, fun i h1 h2 h3 => ?_⟩
  · rw [Nat.zero_testBit] at hr; cases hr
  · have := (h.2.2 i h1 h2 h3).1
    rw [Nat.zero_testBit] at this
    cases this
theorem rs_items {F : Nat} : RS_items RR F := by
  intro uC uM h a a2 a3 a4 a5
  have h' := h
  obtain ⟨df, jo, sp, is, os, rg, nn, th, vv, dd, fi, gv, on, p, mm, tt, ss, hS, hI, hT, ⟨hW, hWm, hD⟩, hV⟩ := h
  obtain ⟨S1, S2, S3, S4, S5, S6, S7, S8, S9, S10⟩ := hS
  cases on with
  | true =>
    refine ⟨0, uC, uM, ?_, ?_, h'⟩
    · unfold sp_CN_items; rw [S1, if_neg (show ¬ b_2 true = 0 from by decide)]
    · unfold sp_Md_items; rw [S2, if_neg (show ¬ b_2 true = 0 from by decide)]
  | false =>
    rcases df_ca hW hWm a with ⟨t, ht, rfl, hd, e1, e2⟩ | ⟨e1, e2⟩
    · rcases it_C ht a2 a3 a4 a5 S1 e1 with ⟨k, E1⟩ | ⟨k, E1⟩ <;> rcases it_M ht a2 a3 a4 a5 S2 e2 with ⟨k', E2⟩ | ⟨k', E2⟩
      · obtain ⟨⟨q1, q2⟩, ⟨q3, q4⟩, ⟨q5, q6⟩, q7, q8⟩ := k
        have p2 : ¬ a2 < 0 := fun h => q3 (by
          rw [Int32.lt_iff_toInt_lt] at h ⊢
          rw [show (0 : Int32).toInt = 0 from by decide] at h
          rw [show (1 : Int32).toInt = 1 from by decide]
          omega)
        have p3 : ¬ a3 < 0 := fun h => q5 (by
          rw [Int32.lt_iff_toInt_lt] at h ⊢
          rw [show (0 : Int32).toInt = 0 from by decide] at h
          rw [show (1 : Int32).toInt = 1 from by decide]
          omega)
        obtain ⟨v4, l4, rfl⟩ := nI_of2 (M := 3) (n := 3) (by decide) q1 (i_nlt q2)
        obtain ⟨v2, l2, rfl⟩ := nI_of2 (M := 4) (n := 4) (by decide) p2 (i_nlt q4)
        obtain ⟨v5, l5, rfl⟩ := nI_of2 (M := 100) (n := 100) (by decide) q7 (i_nlt q8)
        obtain ⟨v3, l3, rfl⟩ := nI_of2 (M := nI v2) (n := v2) (nI_toInt (by omega)) p3 (i_nlt q6)
        have g2 : 1 ≤ v2 := by
          rcases Nat.lt_or_ge v2 1 with h | h
          · exact absurd (nI_lt (b := 1) h (by omega)) q3
          · exact h
        have g3 : 1 ≤ v3 := by
          rcases Nat.lt_or_ge v3 1 with h | h
          · exact absurd (nI_lt (b := 1) h (by omega)) q5
          · exact h
        refine ⟨1, _, _, E1, E2, df, jo, sp, is, os, rg, va_up nn t v2, va_up th t v3, va_up vv t v4, va_up dd t v5, fi, gv, false, p, mm, tt, ss, ?_, rr_I_fr hI (fun k _ _ => ?_) (fun k _ _ => ?_), fun s hs => ?_, ⟨fun s hs => ?_, md_fr2 hWm (fun k _ _ => ?_), hD⟩, rr_V0 hV⟩
        · unfold rr_S
          have c0 : ∀ k, (k < 9 ∨ 44 < k) → (ly_pi (ly_pi (ly_pi (ly_pi uC (9 + 6 * t) 7 (nI v2)) (9 + 6 * t) 8 (nI v3)) (9 + 6 * t) 9 (nI v4)) (9 + 6 * t) 10 (nI v5)).1 k = uC.1 k := fun k hk => by
            rw [pi_p (by omega), pi_p (by omega), pi_p (by omega), pi_p (by omega)]
          have m0 : ∀ k, (k < 12 ∨ 15 < k) → (ly_pi (ly_pi (ly_pi (ly_pi uM 12 t (nI v2)) 13 t (nI v3)) 14 t (nI v4)) 15 t (nI v5)).1 k = uM.1 k := fun k hk => by
            rw [pi_p (by omega), pi_p (by omega), pi_p (by omega), pi_p (by omega)]
          rw [c0 0 (by omega), c0 45 (by omega), c0 49 (by omega), m0 0 (by omega), m0 16 (by omega)]
          exact ⟨S1, S2, S3, S4, S5, S6, S7, S8, S9, S10⟩
        · rw [pi_p (by omega), pi_p (by omega), pi_p (by omega), pi_p (by omega)]
        · rw [pi_p (by omega), pi_p (by omega), pi_p (by omega), pi_p (by omega)]
        · have c0 : ∀ k, (∀ s, k ≠ 9 + 6 * s) → (ly_pi (ly_pi (ly_pi (ly_pi uC (9 + 6 * t) 7 (nI v2)) (9 + 6 * t) 8 (nI v3)) (9 + 6 * t) 9 (nI v4)) (9 + 6 * t) 10 (nI v5)).1 k = uC.1 k := fun k hk => by
            rw [pi_p (hk t), pi_p (hk t), pi_p (hk t), pi_p (hk t)]
          have cj : ∀ j, j ≠ 7 → j ≠ 8 → j ≠ 9 → j ≠ 10 → (ly_pi (ly_pi (ly_pi (ly_pi uC (9 + 6 * t) 7 (nI v2)) (9 + 6 * t) 8 (nI v3)) (9 + 6 * t) 9 (nI v4)) (9 + 6 * t) 10 (nI v5)).1 (9 + 6 * s) j = uC.1 (9 + 6 * s) j := fun j h1 h2 h3 h4 => by
            rw [pi_ne (Or.inr h4), pi_ne (Or.inr h3), pi_ne (Or.inr h2), pi_ne (Or.inr h1)]
          have m0 : ∀ k, (k < 12 ∨ 15 < k) → (ly_pi (ly_pi (ly_pi (ly_pi uM 12 t (nI v2)) 13 t (nI v3)) 14 t (nI v4)) 15 t (nI v5)).1 k = uM.1 k := fun k hk => by
            rw [pi_p (by omega), pi_p (by omega), pi_p (by omega), pi_p (by omega)]
          rw [cj 11 (by omega) (by omega) (by omega) (by omega), cj 2 (by omega) (by omega) (by omega) (by omega), cj 3 (by omega) (by omega) (by omega) (by omega), cj 4 (by omega) (by omega) (by omega) (by omega), cj 5 (by omega) (by omega) (by omega) (by omega), c0 (9 + 6 * s + 3) (by omega), c0 (9 + 6 * s + 4) (by omega), c0 (9 + 6 * s + 5) (by omega), m0 20 (by omega), m0 9 (by omega), m0 10 (by omega), m0 11 (by omega)]
          obtain ⟨b1, b2⟩ := hT s hs
          refine ⟨b1, fun hds => ?_⟩
          obtain ⟨d1, d2, d3, d4, d5, d6⟩ := b2 hds
          by_cases e : s = t
          · subst e
            simp only [va_up_self]
            refine ⟨d1, ⟨?_, ?_, g2, l2⟩, ⟨?_, ?_, g3, l3⟩, ⟨?_, ?_, by omega⟩, ⟨?_, ?_, l5⟩, d6⟩
            · rw [pi_ne (Or.inr (by omega)), pi_ne (Or.inr (by omega)), pi_ne (Or.inr (by omega)), pi_at]
            · rw [pi_p (by omega), pi_p (by omega), pi_p (by omega), pi_at]
            · rw [pi_ne (Or.inr (by omega)), pi_ne (Or.inr (by omega)), pi_at]
            · rw [pi_p (by omega), pi_p (by omega), pi_at]
            · rw [pi_ne (Or.inr (by omega)), pi_at]
            · rw [pi_p (by omega), pi_at]
            · rw [pi_at]
            · rw [pi_at]
          · have cs : (ly_pi (ly_pi (ly_pi (ly_pi uC (9 + 6 * t) 7 (nI v2)) (9 + 6 * t) 8 (nI v3)) (9 + 6 * t) 9 (nI v4)) (9 + 6 * t) 10 (nI v5)).1 (9 + 6 * s) = uC.1 (9 + 6 * s) := by
              rw [pi_p (by omega), pi_p (by omega), pi_p (by omega), pi_p (by omega)]
            have ms : ∀ k, (ly_pi (ly_pi (ly_pi (ly_pi uM 12 t (nI v2)) 13 t (nI v3)) 14 t (nI v4)) 15 t (nI v5)).1 k s = uM.1 k s := fun k => by
              rw [pi_ne (Or.inr e), pi_ne (Or.inr e), pi_ne (Or.inr e), pi_ne (Or.inr e)]
            rw [cs, ms 12, ms 13, ms 14, ms 15, va_up_ne _ _ e, va_up_ne _ _ e, va_up_ne _ _ e, va_up_ne _ _ e]
            exact ⟨d1, d2, d3, d4, d5, d6⟩
        · have cj : ∀ j, j ≠ 7 → j ≠ 8 → j ≠ 9 → j ≠ 10 → (ly_pi (ly_pi (ly_pi (ly_pi uC (9 + 6 * t) 7 (nI v2)) (9 + 6 * t) 8 (nI v3)) (9 + 6 * t) 9 (nI v4)) (9 + 6 * t) 10 (nI v5)).1 (9 + 6 * s) j = uC.1 (9 + 6 * s) j := fun j h1 h2 h3 h4 => by
            rw [pi_ne (Or.inr h4), pi_ne (Or.inr h3), pi_ne (Or.inr h2), pi_ne (Or.inr h1)]
          rw [cj 0 (by omega) (by omega) (by omega) (by omega), cj 1 (by omega) (by omega) (by omega) (by omega), cj 6 (by omega) (by omega) (by omega) (by omega), cj 14 (by omega) (by omega) (by omega) (by omega), cj 15 (by omega) (by omega) (by omega) (by omega)]
          have c0 : ∀ k, (∀ s, k ≠ 9 + 6 * s) → (ly_pi (ly_pi (ly_pi (ly_pi uC (9 + 6 * t) 7 (nI v2)) (9 + 6 * t) 8 (nI v3)) (9 + 6 * t) 9 (nI v4)) (9 + 6 * t) 10 (nI v5)).1 k = uC.1 k := fun k hk => by
            rw [pi_p (hk t), pi_p (hk t), pi_p (hk t), pi_p (hk t)]
          rw [c0 (9 + 6 * s + 1) (by omega), c0 (9 + 6 * s + 2) (by omega)]
          exact hW s hs
        · rw [pi_p (by omega), pi_p (by omega), pi_p (by omega), pi_p (by omega)]
      · exact absurd k k'
      · exact absurd k' k
      · exact ⟨0, uC, uM, E1, E2, h'⟩
    · refine ⟨0, uC, uM, ?_, ?_, h'⟩
      · unfold sp_CN_items; rw [S1, if_pos (show b_2 false = 0 from rfl), e1, cl_some, if_pos rfl]
      · unfold sp_Md_items; rw [S2, if_pos (show b_2 false = 0 from rfl), e2, cl_some, if_pos rfl]
