section FIRE
variable {df : Nat → Bool} {jo sp is os rg nn th vv dd fi : Nat → Nat} {gv : Nat → Nat → Nat} {on : Bool} {p mm : Nat} {tt ss : Nat → Nat} {F : Nat} {uC uM : St}
theorem rr_B_fr {uC' uM' : St} (h : rr_B uC uM df jo sp is os rg nn th vv dd fi gv on p mm tt ss) (hC : fr_s uC uC') (hM : fr_m uM uM') : rr_B uC' uM' df jo sp is os rg nn th vv dd fi gv on p mm tt ss := by
  obtain ⟨hS, hI, hT, hW, hWm, hD⟩ := h
  have c9 : ∀ k, k ≠ 3 → k ≠ 7 → uC'.1 k = uC.1 k := fun k h1 h2 => hC.1 k h1 h2
  have m0 : ∀ j, j ≠ 26 → uM'.1 0 j = uM.1 0 j := fun j hj => hM.1 0 j (by omega) (Or.inr hj)
  have m1 : ∀ k, k ≠ 22 → k ≠ 0 → uM'.1 k = uM.1 k := fun k h1 h2 => funext (fun j => hM.1 k j h1 (Or.inl h2))
  refine ⟨?_, rr_I_fr hI (fun k _ _ => c9 k (by omega) (by omega)) (fun k _ _ => m1 k (by omega) (by omega)), rr_T_fr hT (fun k _ _ => c9 k (by omega) (by omega)) (fun k _ _ _ _ _ _ => m1 k (by omega) (by omega)), nw_fr2 hW (fun k _ _ => c9 k (by omega) (by omega)), md_fr2 hWm (fun k _ _ => m1 k (by omega) (by omega)), hD⟩
  unfold rr_S at hS ⊢
  rw [c9 0 (by omega) (by omega), c9 45 (by omega) (by omega), c9 49 (by omega) (by omega), m0 15 (by omega), m0 16 (by omega), m0 17 (by omega), m0 19 (by omega), m1 16 (by omega) (by omega)]
  exact hS
end FIRE
/-- the lowest bit -/
def lw_n (x : Nat) : Nat := (nI x &&& (-(nI x))).toNatClampNeg
theorem lw_all : ∀ x, x < 256 → nI x &&& (-(nI x)) = nI (lw_n x) ∧ lw_n x < 256 := by decide +kernel
theorem of_C {F t a b : Nat} {clk : Int32} (hab : a + b ≤ 61) : ∀ (n i : Nat) (u : St), a ≤ i → i ≤ a + b → a + b - i < n → ∃ z u', (∀ k, lp_Work_offer_12 F (nI t) (nI b) clk (nI a) k n (nI i) u = k z u') ∧ (∀ k, k ≠ 46 → k ≠ 47 → k ≠ 48 → u'.1 k = u.1 k) ∧ (∀ j, u'.1 46 j = if i ≤ j ∧ j < a + b then nI t else u.1 46 j) ∧ (∀ j, u'.1 47 j = if i ≤ j ∧ j < a + b then 1 else u.1 47 j) ∧ ∀ j, u'.1 48 j = if i ≤ j ∧ j < a + b then clk else u.1 48 j := by
  intro n
  induction n with
  | zero => intro i u _ _ h; omega
  | succ n ih =>
    intro i u hi1 hi hn
    by_cases hc : i = a + b
    · subst hc
      refine ⟨nI (a + b), u, fun k => ?_, fun _ _ _ _ => rfl, fun j => ?_, fun j => ?_, fun j => ?_⟩
      · rw [lp_Work_offer_12, nI_add, if_pos (nI_le (Nat.le_refl _) (by omega))]
      · rw [if_neg (by omega)]
      · rw [if_neg (by omega)]
      · rw [if_neg (by omega)]
    · obtain ⟨z, u', g1, g2, g3, g4, g5⟩ := ih (i + 1) (ly_pi (ly_pi (ly_pi u 46 i (nI t)) 47 i 1) 48 i clk) (by omega) (by omega) (by omega)
      refine ⟨z, u', fun k => ?_, fun k h1 h2 h3 => ?_, fun j => ?_, fun j => ?_, fun j => ?_⟩
      · conv => lhs; rw [lp_Work_offer_12]
        have hib : ib (nI i) 61 = true := ib_nI (by omega) (by omega)
        have hcl : (nI i).toNatClampNeg = i := nI_clamp (by omega)
        simp only [nm_k, hib, hcl, ↓reduceIte]
        rw [nI_add, if_neg (nI_ge (by omega) (by omega)), nI_1]
        exact g1 k
      · rw [g2 k h1 h2 h3, pi_p h3, pi_p h2, pi_p h1]
      · rw [g3 j]
        by_cases ej : j = i
        · subst ej
          rw [if_neg (by omega), if_pos (by omega), pi_p (by omega), pi_p (by omega), pi_at]
        · rw [pi_ne (Or.inr ej), pi_ne (Or.inr ej), pi_ne (Or.inr ej)]
          by_cases hx : i ≤ j ∧ j < a + b
          · rw [if_pos hx, if_pos (by omega)]
          · rw [if_neg hx, if_neg (by omega)]
      · rw [g4 j]
        by_cases ej : j = i
        · subst ej
          rw [if_neg (by omega), if_pos (by omega), pi_p (by omega), pi_at]
        · rw [pi_ne (Or.inr ej), pi_ne (Or.inr ej), pi_ne (Or.inr ej)]
          by_cases hx : i ≤ j ∧ j < a + b
          · rw [if_pos hx, if_pos (by omega)]
          · rw [if_neg hx, if_neg (by omega)]
      · rw [g5 j]
        by_cases ej : j = i
        · subst ej
          rw [if_neg (by omega), if_pos (by omega), pi_at]
        · rw [pi_ne (Or.inr ej), pi_ne (Or.inr ej), pi_ne (Or.inr ej)]
          by_cases hx : i ≤ j ∧ j < a + b
          · rw [if_pos hx, if_pos (by omega)]
          · rw [if_neg hx, if_neg (by omega)]
theorem of_M {F t mm b : Nat} {v2 : Int32} (ht : t < 6) (hab : mm + b ≤ 60) : ∀ (n d : Nat) (u : St), d ≤ b → b - d < n → u.1 12 t = nI b → u.1 0 19 = nI (mm + d) → ∃ z u', (∀ k, lp_Md_fire_110 F (nI t) v2 k n (nI d) u = k z u') ∧ (∀ k, k ≠ 0 → k ≠ 17 → k ≠ 18 → k ≠ 19 → u'.1 k = u.1 k) ∧ (∀ j, j ≠ 19 → u'.1 0 j = u.1 0 j) ∧ u'.1 0 19 = nI (mm + b) ∧ (∀ j, u'.1 17 j = if mm + d < j ∧ j ≤ mm + b then nI t else u.1 17 j) ∧ (∀ j, u'.1 18 j = if mm + d < j ∧ j ≤ mm + b then 1 else u.1 18 j) ∧ ∀ j, u'.1 19 j = if mm + d < j ∧ j ≤ mm + b then u.1 0 17 else u.1 19 j := by
  intro n
  induction n with
  | zero => intro d u _ h; omega
  | succ n ih =>
    intro d u hd hn h12 h19
    have hibt : ib (nI t) 6 = true := ib_nI ht (by omega)
    have hclt : (nI t).toNatClampNeg = t := nI_clamp (by omega)
    by_cases hc : d = b
    · subst hc
      refine ⟨nI d, u, fun k => ?_, fun _ _ _ _ _ => rfl, fun _ _ => rfl, h19, fun j => ?_, fun j => ?_, fun j => ?_⟩
      · rw [lp_Md_fire_110, if_pos hibt, hclt, h12, if_pos (nI_le (Nat.le_refl _) (by omega))]
      · rw [if_neg (by omega)]
      · rw [if_neg (by omega)]
      · rw [if_neg (by omega)]
    · have hw : (ly_pi u 0 19 (nI (mm + (d + 1)))).1 0 19 = nI (mm + (d + 1)) := pi_at _ _ _ _
      obtain ⟨z, u', g1, g2, g3, g4, g5, g6, g7⟩ := ih (d + 1) (ly_pi (ly_pi (ly_pi (ly_pi u 0 19 (nI (mm + (d + 1)))) 17 (mm + (d + 1)) (nI t)) 18 (mm + (d + 1)) 1) 19 (mm + (d + 1)) (u.1 0 17)) (by omega) (by omega) (by rw [pi_p (by omega), pi_p (by omega), pi_p (by omega), pi_p (by omega)]; exact h12) (by rw [pi_p (by omega), pi_p (by omega), pi_p (by omega), pi_at])
      refine ⟨z, u', fun k => ?_, fun k h1 h2 h3 h4 => ?_, fun j hj => ?_, g4, fun j => ?_, fun j => ?_, fun j => ?_⟩
      · conv => lhs; rw [lp_Md_fire_110]
        rw [if_pos hibt, hclt, h12, if_neg (nI_ge (by omega) (by omega)), h19, nI_1]
        simp only [nm_k]
        have hib : ib (nI (mm + (d + 1))) 61 = true := ib_nI (by omega) (by omega)
        have hcl : (nI (mm + (d + 1))).toNatClampNeg = mm + (d + 1) := nI_clamp (by omega)
        rw [nI_1, show mm + d + 1 = mm + (d + 1) from rfl, hw, if_pos hib, hcl]
        rw [pi_p (q := 17) (k := 0) (by omega), hw, if_pos hib, hcl]
        rw [pi_p (q := 18) (k := 0) (by omega), pi_p (q := 17) (k := 0) (by omega), hw, if_pos hib, hcl, pi_ne (q := 0) (j := 19) (q2 := 0) (j2 := 17) (Or.inr (by omega))]
        exact g1 k
      · rw [g2 k h1 h2 h3 h4, pi_p h4, pi_p h3, pi_p h2, pi_p h1]
      · rw [g3 j hj, pi_p (by omega), pi_p (by omega), pi_p (by omega), pi_ne (Or.inr hj)]
      · rw [g5 j]
        by_cases ej : j = mm + (d + 1)
        · subst ej
          rw [if_neg (by omega), if_pos (by omega), pi_p (by omega), pi_p (by omega), pi_at]
        · rw [pi_ne (Or.inr ej), pi_ne (Or.inr ej), pi_ne (Or.inr ej), pi_p (by omega)]
          by_cases hx : mm + d < j ∧ j ≤ mm + b
          · rw [if_pos hx, if_pos (by omega)]
          · rw [if_neg hx, if_neg (by omega)]
      · rw [g6 j]
        by_cases ej : j = mm + (d + 1)
        · subst ej
          rw [if_neg (by omega), if_pos (by omega), pi_p (by omega), pi_at]
        · rw [pi_ne (Or.inr ej), pi_ne (Or.inr ej), pi_ne (Or.inr ej), pi_p (by omega)]
          by_cases hx : mm + d < j ∧ j ≤ mm + b
          · rw [if_pos hx, if_pos (by omega)]
          · rw [if_neg hx, if_neg (by omega)]
      · rw [g7 j, pi_p (q := 19) (k := 0) (by omega), pi_p (q := 18) (k := 0) (by omega), pi_p (q := 17) (k := 0) (by omega), pi_ne (q := 0) (j := 19) (q2 := 0) (j2 := 17) (Or.inr (by omega))]
        by_cases ej : j = mm + (d + 1)
        · subst ej
          rw [if_neg (by omega), if_pos (by omega), pi_at]
        · rw [pi_ne (Or.inr ej), pi_ne (Or.inr ej), pi_ne (Or.inr ej), pi_p (by omega)]
          by_cases hx : mm + d < j ∧ j ≤ mm + b
          · rw [if_pos hx, if_pos (by omega)]
          · rw [if_neg hx, if_neg (by omega)]
