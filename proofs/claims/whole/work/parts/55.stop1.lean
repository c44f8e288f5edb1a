/-- open items of a stretch are withdrawn -/
def wd_s (ss : Nat → Nat) (lo hi : Nat) : Nat → Nat := fun j => if lo ≤ j ∧ j < hi ∧ ss j ≤ 2 then 5 else ss j
theorem op_C {u : St} {ss j : Nat} (hj : j ≤ 60) (h1 : 1 ≤ ss) (h5 : ss ≤ 5) (hu : u.1 47 j = nI ss) : sp_Work_isOpen (nI j) u = some (if ss ≤ 2 then 1 else 0, u) := by
  unfold sp_Work_isOpen
  rw [if_pos (ib_nI (by omega) (by omega)), nI_clamp (by omega), hu]
  by_cases e1 : ss = 1
  · rw [if_pos ((nI_o (by omega)).mpr e1), if_pos (by omega)]
  · rw [if_neg (fun e => e1 ((nI_o (by omega)).mp e)), if_pos (ib_nI (by omega) (by omega))]
    by_cases e2 : ss = 2
    · rw [if_pos (show nI ss = (2 : Int32) from by rw [e2]; rfl), if_pos (by omega)]
    · rw [if_neg (show ¬ nI ss = (2 : Int32) from fun e => e2 ((nI_eq (b := 2) (by omega) (by omega)).mp e)), if_neg (by omega)]
theorem wd_C {F a b mm : Nat} (hmm : mm ≤ 60) (hab : a + b ≤ mm + 1) : ∀ (n i : Nat) (u : St) (ss : Nat → Nat), 1 ≤ i → i ≤ a + b → a + b - i < n → (∀ j, 1 ≤ j → j ≤ mm → u.1 47 j = nI (ss j) ∧ 1 ≤ ss j ∧ ss j ≤ 5) → ∃ z u', (∀ k, lp_Work_withdrawOpen_2 F (nI a) (nI b) k n (nI i) u = k z u') ∧ (∀ k, k ≠ 47 → u'.1 k = u.1 k) ∧ u'.2 = u.2 ∧ ∀ j, 1 ≤ j → j ≤ mm → u'.1 47 j = nI (wd_s ss i (a + b) j) := by
  intro n
  induction n with
  | zero => intro i u ss _ _ h; omega
  | succ n ih =>
    intro i u ss h1 hi hn hs
    by_cases hc : i = a + b
    · subst hc
      refine ⟨nI (a + b), u, fun k => ?_, fun _ _ => rfl, rfl, fun j g1 g2 => ?_⟩
      · rw [lp_Work_withdrawOpen_2, nI_add, if_pos (nI_le (Nat.le_refl _) (by omega))]
      · unfold wd_s
        rw [if_neg (by omega)]
        exact (hs j g1 g2).1
    · obtain ⟨e, l1, l5⟩ := hs i h1 (by omega)
      by_cases ho : ss i ≤ 2
      · obtain ⟨z, u', g1, g2, g3, g4⟩ := ih (i + 1) (ly_pi u 47 i 5) (va_up ss i 5) (by omega) (by omega) (by omega) (fun j q1 q2 => by
          by_cases ej : j = i
          · subst ej; rw [pi_at, va_up_self]; exact ⟨rfl, by omega, by omega⟩
          · rw [pi_ne (Or.inr ej), va_up_ne _ _ ej]; exact hs j q1 q2)
        refine ⟨z, u', fun k => ?_, fun k hk => by rw [g2 k hk, pi_p hk], g3, fun j q1 q2 => ?_⟩
        · conv => lhs; rw [lp_Work_withdrawOpen_2]
          rw [nI_add, if_neg (nI_ge (by omega) (by omega)), op_C (by omega) l1 l5 e, if_pos ho, cl_some, if_neg (show ¬ (1 : Int32) = 0 from by decide), if_pos (ib_nI (by omega) (by omega)), nI_clamp (by omega), nI_1]
          exact g1 k
        · rw [g4 j q1 q2]
          unfold wd_s
          by_cases ej : j = i
          · subst ej
            rw [va_up_self, if_neg (by omega), if_pos (by omega)]
          · rw [va_up_ne _ _ ej]
            by_cases hx : i ≤ j ∧ j < a + b ∧ ss j ≤ 2
            · rw [if_pos hx, if_pos (by omega)]
            · rw [if_neg hx, if_neg (by omega)]
      · obtain ⟨z, u', g1, g2, g3, g4⟩ := ih (i + 1) u ss (by omega) (by omega) (by omega) hs
        refine ⟨z, u', fun k => ?_, g2, g3, fun j q1 q2 => ?_⟩
        · conv => lhs; rw [lp_Work_withdrawOpen_2]
          rw [nI_add, if_neg (nI_ge (by omega) (by omega)), op_C (by omega) l1 l5 e, if_neg ho, cl_some, if_pos rfl, nI_1]
          exact g1 k
        · rw [g4 j q1 q2]
          unfold wd_s
          by_cases ej : j = i
          · subst ej
            rw [if_neg (by omega), if_neg (by omega)]
          · by_cases hx : i ≤ j ∧ j < a + b ∧ ss j ≤ 2
            · rw [if_pos hx, if_pos (by omega)]
            · rw [if_neg hx, if_neg (by omega)]
