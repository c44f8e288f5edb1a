def wm_s (ss tt : Nat → Nat) (t lo : Nat) : Nat → Nat := fun j => if lo ≤ j ∧ tt j = t ∧ ss j ≤ 2 then 5 else ss j
theorem wd_M {F t mm : Nat} {tt : Nat → Nat} (hmm : mm ≤ 60) (ht : t < 6) : ∀ (n i : Nat) (u : St) (ss : Nat → Nat), 1 ≤ i → i ≤ mm + 1 → mm + 1 - i < n → u.1 0 19 = nI mm → (∀ j, 1 ≤ j → j ≤ mm → u.1 17 j = nI (tt j) ∧ tt j < 6) → (∀ j, 1 ≤ j → j ≤ mm → u.1 18 j = nI (ss j) ∧ 1 ≤ ss j ∧ ss j ≤ 5) → ∃ z u', (∀ k, lp_Md_stop_7 F (nI t) k n (nI i) u = k z u') ∧ (∀ k, k ≠ 18 → u'.1 k = u.1 k) ∧ u'.2 = u.2 ∧ ∀ j, 1 ≤ j → j ≤ mm → u'.1 18 j = nI (wm_s ss tt t i j) := by
  intro n
  induction n with
  | zero => intro i u ss _ _ h; omega
  | succ n ih =>
    intro i u ss h1 hi hn hu ht17 hs
    by_cases hc : i = mm + 1
    · subst hc
      refine ⟨nI (mm + 1), u, fun k => ?_, fun _ _ => rfl, rfl, fun j g1 g2 => ?_⟩
      · rw [lp_Md_stop_7, hu, if_pos (nI_lt (by omega) (by omega))]
      · unfold wm_s
        rw [if_neg (by omega)]
        exact (hs j g1 g2).1
    · obtain ⟨e, l1, l5⟩ := hs i h1 (by omega)
      obtain ⟨e17, lt⟩ := ht17 i h1 (by omega)
      have head : ∀ k, lp_Md_stop_7 F (nI t) k (n + 1) (nI i) u = if tt i = t ∧ ss i ≤ 2 then lp_Md_stop_7 F (nI t) k n (nI (i + 1)) (ly_pi u 18 i 5) else lp_Md_stop_7 F (nI t) k n (nI (i + 1)) u := fun k => by
        conv => lhs; rw [lp_Md_stop_7]
        rw [hu, if_neg (nI_nlt (by omega) (by omega)), if_neg (nI_nle (by omega) (by omega)), if_pos (ib_nI (by omega) (by omega)), nI_clamp (by omega), e17, nI_1]
        by_cases et : tt i = t
        · rw [if_pos (by rw [et]), if_pos (ib_nI (by omega) (by omega)), e]
          by_cases ho : ss i ≤ 2
          · rw [if_neg (show ¬ (2 : Int32) < nI (ss i) from nI_nlt (a := 2) ho (by omega)), if_pos (ib_nI (by omega) (by omega)), if_pos ⟨et, ho⟩]; rfl
          · rw [if_pos (show (2 : Int32) < nI (ss i) from nI_lt (a := 2) (by omega) (by omega)), if_neg (fun h => ho h.2)]
        · rw [if_neg (fun h => et ((nI_eq (by omega) (by omega)).mp h)), if_neg (fun h => et h.1)]
      by_cases hx : tt i = t ∧ ss i ≤ 2
      · obtain ⟨z, u', g1, g2, g3, g4⟩ := ih (i + 1) (ly_pi u 18 i 5) (va_up ss i 5) (by omega) (by omega) (by omega) (by rw [pi_p (by omega)]; exact hu) (by rw [pi_p (by omega)]; exact ht17) (fun j q1 q2 => by
          by_cases ej : j = i
          · subst ej; rw [pi_at, va_up_self]; exact ⟨rfl, by omega, by omega⟩
          · rw [pi_ne (Or.inr ej), va_up_ne _ _ ej]; exact hs j q1 q2)
        refine ⟨z, u', fun k => by rw [head k, if_pos hx]; exact g1 k, fun k hk => by rw [g2 k hk, pi_p hk], g3, fun j q1 q2 => ?_⟩
        rw [g4 j q1 q2]
        unfold wm_s
        by_cases ej : j = i
        · subst ej
          rw [va_up_self, if_neg (by omega), if_pos ⟨Nat.le_refl _, hx.1, hx.2⟩]
        · rw [va_up_ne _ _ ej]
          by_cases hy : i ≤ j ∧ tt j = t ∧ ss j ≤ 2
          · rw [if_pos hy, if_pos ⟨by omega, hy.2⟩]
          · rw [if_neg hy, if_neg (fun h => hy ⟨by omega, h.2⟩)]
      · obtain ⟨z, u', g1, g2, g3, g4⟩ := ih (i + 1) u ss (by omega) (by omega) (by omega) hu ht17 hs
        refine ⟨z, u', fun k => by rw [head k, if_neg hx]; exact g1 k, g2, g3, fun j q1 q2 => ?_⟩
        rw [g4 j q1 q2]
        unfold wm_s
        by_cases ej : j = i
        · subst ej
          rw [if_neg (by omega), if_neg (fun h => hx h.2)]
        · by_cases hy : i ≤ j ∧ tt j = t ∧ ss j ≤ 2
          · rw [if_pos hy, if_pos ⟨by omega, hy.2⟩]
          · rw [if_neg hy, if_neg (fun h => hy ⟨by omega, h.2⟩)]
