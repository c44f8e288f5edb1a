section DEF
variable {F t : Nat}
theorem gd_L {v1 v2 v3 v4 : Int32} (ht : t < 6) : ∀ (n i : Nat) (u : St), i ≤ 8 → 8 - i < n → ∃ z u', (∀ k, lp_Task_define_42 F t v1 v2 v3 v4 k n (nI i) u = k z u') ∧ (∀ q, q ≠ 9 + 6 * t + 3 → q ≠ 9 + 6 * t + 4 → q ≠ 9 + 6 * t + 5 → u'.1 q = u.1 q) ∧ ∀ c, c < 8 → (u'.1 (9 + 6 * t + 3) c = if i ≤ c then 0 else u.1 (9 + 6 * t + 3) c) ∧ (u'.1 (9 + 6 * t + 4) c = if i ≤ c then -2147483648 else u.1 (9 + 6 * t + 4) c) ∧ (u'.1 (9 + 6 * t + 5) c = if i ≤ c then 2147483647 else u.1 (9 + 6 * t + 5) c) := by
  intro n
  induction n with
  | zero => intro i u _ h; omega
  | succ n ih =>
    intro i u hi hn
    by_cases hc : i = 8
    · subst hc
      refine ⟨nI 8, u, fun k => ?_, fun _ _ _ _ => rfl, fun c hc => ⟨?_, ?_, ?_⟩⟩
      · rw [lp_Task_define_42, if_pos (show (8 : Int32) ≤ nI 8 from by decide)]
      · rw [if_neg (by omega)]
      · rw [if_neg (by omega)]
      · rw [if_neg (by omega)]
    · obtain ⟨z, u', g1, g2, g3⟩ := ih (i + 1) (ly_pi (ly_pi (ly_pi u (9 + 6 * t + 3) i 0) (9 + 6 * t + 4) i (-2147483648)) (9 + 6 * t + 5) i 2147483647) (by omega) (by omega)
      refine ⟨z, u', fun k => ?_, fun q h1 h2 h3 => by rw [g2 q h1 h2 h3, pi_p h3, pi_p h2, pi_p h1], fun c hc => ?_⟩
      · conv => lhs; rw [lp_Task_define_42]
        have hib : ib (nI i) 8 = true := ib_nI (by omega) (by omega)
        have hcl : (nI i).toNatClampNeg = i := nI_clamp (by omega)
        unfold sp_Task_putGuard
        simp only [nm_k, hib, hcl, ↓reduceIte]
        rw [if_neg (show ¬ (8 : Int32) ≤ nI i from nI_ge (b := 8) (by omega) (by omega)), cl_some, nI_1]
        exact g1 k
      · obtain ⟨a1, a2, a3⟩ := g3 c hc
        rw [a1, a2, a3]
        by_cases e : c = i
        · subst e
          have p1 : ¬ c + 1 ≤ c := by omega
          simp only [if_neg p1, if_pos (Nat.le_refl c)]
          refine ⟨?_, ?_, pi_at _ _ _ _⟩
          · rw [pi_p (by omega), pi_p (by omega), pi_at]
          · rw [pi_p (by omega), pi_at]
        · have pe : ∀ q, (ly_pi (ly_pi (ly_pi u (9 + 6 * t + 3) i 0) (9 + 6 * t + 4) i (-2147483648)) (9 + 6 * t + 5) i 2147483647).1 q c = u.1 q c := fun q => by
            rw [pi_ne (Or.inr e), pi_ne (Or.inr e), pi_ne (Or.inr e)]
          rw [pe, pe, pe]
          by_cases hx : i ≤ c
          · have p1 : i + 1 ≤ c := by omega
            simp only [if_pos hx, if_pos p1, and_self]
          · have p1 : ¬ i + 1 ≤ c := by omega
            simp only [if_neg hx, if_neg p1, and_self]
/-- what define makes of the state -/
def df_C (t j s x y : Nat) (u u' : St) : Prop := (∀ q, (q < 9 + 6 * t ∨ 9 + 6 * t + 5 < q) → u'.1 q = u.1 q) ∧ (u'.1 (9 + 6 * t) 0 = u.1 (9 + 6 * t) 0 ∧ u'.1 (9 + 6 * t) 11 = u.1 (9 + 6 * t) 11) ∧ (u'.1 (9 + 6 * t) 1 = 1 ∧ u'.1 (9 + 6 * t) 2 = nI j ∧ u'.1 (9 + 6 * t) 3 = nI s ∧ u'.1 (9 + 6 * t) 4 = nI x ∧ u'.1 (9 + 6 * t) 5 = nI y ∧ u'.1 (9 + 6 * t) 6 = nI 0) ∧ (u'.1 (9 + 6 * t) 7 = nI 1 ∧ u'.1 (9 + 6 * t) 8 = nI 1 ∧ u'.1 (9 + 6 * t) 9 = nI 0 ∧ u'.1 (9 + 6 * t) 10 = nI 0) ∧ (∀ c, c < 8 → u'.1 (9 + 6 * t + 3) c = nI 0 ∧ u'.1 (9 + 6 * t + 4) c = -2147483648 ∧ u'.1 (9 + 6 * t + 5) c = 2147483647) ∧ (u'.1 (9 + 6 * t) 14 = nI (ls_n (if j = 0 then 0 else 1) x).length ∧ ∀ e, e < (ls_n (if j = 0 then 0 else 1) x).length → u'.1 (9 + 6 * t + 1) e = nI ((ls_n (if j = 0 then 0 else 1) x).getD e 0)) ∧ (u'.1 (9 + 6 * t) 15 = nI (ls_n s y).length ∧ ∀ e, e < (ls_n s y).length → u'.1 (9 + 6 * t + 2) e = nI ((ls_n s y).getD e 0))
theorem df_all {j s x y : Nat} (hF : 300 < F) (ht : t < 6) (hj : j < 3) (hs : s < 3) (hx : x < 256) (hy : y < 256) (gx : go_n x = true) (gy : go_n y = true) (u : St) : ∃ u', sp_Task_define F t (nI j) (nI s) (nI x) (nI y) u = some (0, u') ∧ df_C t j s x y u u' := by
  obtain ⟨uA, hA⟩ : ∃ uA, uA = ly_pi (ly_pi (ly_pi (ly_pi (ly_pi (ly_pi (ly_pi (ly_pi (ly_pi (ly_pi u (9 + 6 * t) 1 1) (9 + 6 * t) 2 (nI j)) (9 + 6 * t) 3 (nI s)) (9 + 6 * t) 4 (nI x)) (9 + 6 * t) 5 (nI y)) (9 + 6 * t) 6 0) (9 + 6 * t) 7 1) (9 + 6 * t) 8 1) (9 + 6 * t) 9 0) (9 + 6 * t) 10 0 := ⟨_, rfl⟩
  have aq : ∀ q, q ≠ 9 + 6 * t → uA.1 q = u.1 q := fun q hq => by
    rw [hA, pi_p hq, pi_p hq, pi_p hq, pi_p hq, pi_p hq, pi_p hq, pi_p hq, pi_p hq, pi_p hq, pi_p hq]
  have a0 : uA.1 (9 + 6 * t) 0 = u.1 (9 + 6 * t) 0 := by rw [hA]; repeat rw [pi_ne (Or.inr (by omega))]
  have a11 : uA.1 (9 + 6 * t) 11 = u.1 (9 + 6 * t) 11 := by rw [hA]; repeat rw [pi_ne (Or.inr (by omega))]
  have a1 : uA.1 (9 + 6 * t) 1 = 1 := by rw [hA]; (repeat rw [pi_ne (Or.inr (by omega))]); exact pi_at _ _ _ _
  have a2 : uA.1 (9 + 6 * t) 2 = nI j := by rw [hA]; (repeat rw [pi_ne (Or.inr (by omega))]); exact pi_at _ _ _ _
  have a3 : uA.1 (9 + 6 * t) 3 = nI s := by rw [hA]; (repeat rw [pi_ne (Or.inr (by omega))]); exact pi_at _ _ _ _
  have a4 : uA.1 (9 + 6 * t) 4 = nI x := by rw [hA]; (repeat rw [pi_ne (Or.inr (by omega))]); exact pi_at _ _ _ _
  have a5 : uA.1 (9 + 6 * t) 5 = nI y := by rw [hA]; (repeat rw [pi_ne (Or.inr (by omega))]); exact pi_at _ _ _ _
  have a6 : uA.1 (9 + 6 * t) 6 = nI 0 := by rw [hA]; (repeat rw [pi_ne (Or.inr (by omega))]); exact pi_at _ _ _ _
  have a7 : uA.1 (9 + 6 * t) 7 = nI 1 := by rw [hA]; (repeat rw [pi_ne (Or.inr (by omega))]); exact pi_at _ _ _ _
  have a8 : uA.1 (9 + 6 * t) 8 = nI 1 := by rw [hA]; (repeat rw [pi_ne (Or.inr (by omega))]); exact pi_at _ _ _ _
  have a9 : uA.1 (9 + 6 * t) 9 = nI 0 := by rw [hA]; (repeat rw [pi_ne (Or.inr (by omega))]); exact pi_at _ _ _ _
  have a10 : uA.1 (9 + 6 * t) 10 = nI 0 := by rw [hA]; exact pi_at _ _ _ _
  obtain ⟨z, uB, b1, b2, b3⟩ := gd_L (F := F) (v1 := nI j) (v2 := nI s) (v3 := nI x) (v4 := nI y) ht F 0 uA (by omega) (by omega)
  have bP : uB.1 (9 + 6 * t) = uA.1 (9 + 6 * t) := b2 _ (by omega) (by omega) (by omega)
  obtain ⟨z2, uD, c1, c2, c3, c4, c5⟩ := lt_C (F := F) (t := t) (x := x) (j := j) hx hj (ft_use hx gx hj).1 F 1 (ly_pi uB (9 + 6 * t) 14 0) (by omega) (by omega) (by omega) (by rw [pi_ne (Or.inr (by omega)), bP]; exact a4) (by rw [pi_ne (Or.inr (by omega)), bP]; exact a2) (by rw [pi_at]; rfl) (fun e he => absurd he (Nat.not_lt_zero e))
  have dP : ∀ e, e ≠ 14 → uD.1 (9 + 6 * t) e = uA.1 (9 + 6 * t) e := fun e he => by rw [c3 e he, pi_ne (Or.inr he), bP]
  obtain ⟨z3, uE, d1, d2, d3, d4, d5⟩ := lp_C (F := F) (t := t) (x := y) (s := s) hy hs (fp_use hy gy hs).1 F 1 (ly_pi uD (9 + 6 * t) 15 0) (by omega) (by omega) (by omega) (by rw [pi_ne (Or.inr (by omega)), dP 5 (by omega)]; exact a5) (by rw [pi_ne (Or.inr (by omega)), dP 3 (by omega)]; exact a3) (by rw [pi_at]; rfl) (fun e he => absurd he (Nat.not_lt_zero e))
  have eP : ∀ e, e ≠ 14 → e ≠ 15 → uE.1 (9 + 6 * t) e = uA.1 (9 + 6 * t) e := fun e h1 h2 => by rw [d3 e h2, pi_ne (Or.inr h2), dP e h1]
  refine ⟨uE, ?_, fun q hq => ?_, ⟨?_, ?_⟩, ⟨?_, ?_, ?_, ?_, ?_, ?_⟩, ⟨?_, ?_, ?_, ?_⟩, fun c hc => ?_, ⟨?_, fun e he => ?_⟩, d4, d5⟩
  · unfold sp_Task_define sp_Task_putWork sp_Task_listTakes sp_Task_listPuts
    simp only [nm_k]
    rw [cl_some, ← hA]
    have b1 : ∀ k, lp_Task_define_42 F t (nI j) (nI s) (nI x) (nI y) k F (0 : Int32) uA = k z uB := b1
    have c1 : ∀ k, lp_Task_listTakes_7 F t k F (1 : Int32) (ly_pi uB (9 + 6 * t) 14 0) = k z2 uD := c1
    have d1 : ∀ k, lp_Task_listPuts_7 F t k F (1 : Int32) (ly_pi uD (9 + 6 * t) 15 0) = k z3 uE := d1
    rw [b1, c1, cl_some, d1, cl_some]
  · rw [d2 q (by omega) (by omega), pi_p (by omega), c2 q (by omega) (by omega), pi_p (by omega), b2 q (by omega) (by omega) (by omega), aq q (by omega)]
  · rw [eP 0 (by omega) (by omega)]; exact a0
  · rw [eP 11 (by omega) (by omega)]; exact a11
  · rw [eP 1 (by omega) (by omega)]; exact a1
  · rw [eP 2 (by omega) (by omega)]; exact a2
  · rw [eP 3 (by omega) (by omega)]; exact a3
  · rw [eP 4 (by omega) (by omega)]; exact a4
  · rw [eP 5 (by omega) (by omega)]; exact a5
  · rw [eP 6 (by omega) (by omega)]; exact a6
  · rw [eP 7 (by omega) (by omega)]; exact a7
  · rw [eP 8 (by omega) (by omega)]; exact a8
  · rw [eP 9 (by omega) (by omega)]; exact a9
  · rw [eP 10 (by omega) (by omega)]; exact a10
  · have e : ∀ q, 3 ≤ q → q ≤ 5 → uE.1 (9 + 6 * t + q) = uB.1 (9 + 6 * t + q) := fun q h1 h2 => by
      rw [d2 _ (by omega) (by omega), pi_p (by omega), c2 _ (by omega) (by omega), pi_p (by omega)]
    rw [e 3 (by omega) (by omega), e 4 (by omega) (by omega), e 5 (by omega) (by omega)]
    obtain ⟨f1, f2, f3⟩ := b3 c hc
    rw [f1, f2, f3, if_pos (by omega), if_pos (by omega), if_pos (by omega)]
    exact ⟨rfl, rfl, rfl⟩
  · rw [d3 14 (by omega), pi_ne (Or.inr (by omega))]; exact c4
  · rw [d2 _ (by omega) (by omega), pi_p (by omega)]; exact c5 e he
end DEF
