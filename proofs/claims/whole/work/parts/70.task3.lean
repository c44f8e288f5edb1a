/-! defining a task: the reference's side -/
def bq_l (x c : Nat) : List Nat := (pl_n (fun b => x.testBit b) c).map (fun b => 2 ^ b)
theorem bq_len : ∀ x, x < 256 → (bq_l x 8).length = pc_n x := by decide +kernel
theorem bq_s (x c : Nat) : bq_l x (c + 1) = bq_l x c ++ (if x.testBit c = true then [2 ^ c] else []) := by
  unfold bq_l
  rw [pl_s, List.map_append]
  by_cases h : x.testBit c = true
  · rw [if_pos h, if_pos h]; rfl
  · rw [if_neg h, if_neg h]; rfl
theorem bq_le (x : Nat) {i j : Nat} (h : i ≤ j) : (bq_l x i).length ≤ (bq_l x j).length := by
  unfold bq_l
  rw [List.length_map, List.length_map]
  exact pl_le _ h
theorem gd_app2 (l : List Nat) (a e : Nat) : (l ++ [a]).getD e 0 = if e = l.length then a else l.getD e 0 := by
  rcases Nat.lt_or_ge e (l.length + 1) with h | h
  · exact gd_app l a e h
  · rw [if_neg (by omega), List.getD_eq_getElem?_getD, List.getD_eq_getElem?_getD, List.getElem?_eq_none (by rw [List.length_append]; exact h), List.getElem?_eq_none (by omega)]
section TM
variable {F t : Nat}
theorem tz_M {v2 v3 v4 v5 v6 v7 : Int32} (ht : t < 6) : ∀ (n i : Nat) (u : St), i ≤ 3 → 3 - i < n → ∃ z u', (∀ k, lp_Md_task_128 F (nI t) v2 v3 v4 v5 v6 v7 k n (nI i) u = k z u') ∧ (∀ q, q ≠ 6 → q ≠ 7 → u'.1 q = u.1 q) ∧ (∀ e, u'.1 6 e = if 3 * t + i ≤ e ∧ e < 3 * t + 3 then 0 else u.1 6 e) ∧ ∀ e, u'.1 7 e = if 3 * t + i ≤ e ∧ e < 3 * t + 3 then 0 else u.1 7 e := by
  intro n
  induction n with
  | zero => intro i u _ h; omega
  | succ n ih =>
    intro i u hi hn
    by_cases hc : i = 3
    · subst hc
      refine ⟨nI 3, u, fun k => ?_, fun _ _ _ => rfl, fun e => ?_, fun e => ?_⟩
      · rw [lp_Md_task_128, if_pos (show (3 : Int32) ≤ nI 3 from by decide)]
      · rw [if_neg (by omega)]
      · rw [if_neg (by omega)]
    · obtain ⟨z, u', g1, g2, g3, g4⟩ := ih (i + 1) (ly_pi (ly_pi u 6 (3 * t + i) 0) 7 (3 * t + i) 0) (by omega) (by omega)
      refine ⟨z, u', fun k => ?_, fun q h1 h2 => by rw [g2 q h1 h2, pi_p h2, pi_p h1], fun e => ?_, fun e => ?_⟩
      · conv => lhs; rw [lp_Md_task_128]
        have hib : ib (nI (3 * t + i)) 18 = true := ib_nI (by omega) (by omega)
        rw [if_neg (show ¬ (3 : Int32) ≤ nI i from nI_ge (b := 3) (by omega) (by omega)), ix_3, nI_clamp (by omega), if_pos hib]
        simp only [nm_k]
        rw [if_pos hib, nI_1]
        exact g1 k
      · rw [g3 e]
        by_cases ee : e = 3 * t + i
        · subst ee; rw [if_neg (by omega), if_pos (by omega), pi_p (by omega), pi_at]
        · rw [pi_ne (Or.inr ee), pi_ne (Or.inr ee)]
          by_cases hx : 3 * t + i ≤ e ∧ e < 3 * t + 3
          · rw [if_pos hx, if_pos (by omega)]
          · rw [if_neg hx, if_neg (by omega)]
      · rw [g4 e]
        by_cases ee : e = 3 * t + i
        · subst ee; rw [if_neg (by omega), if_pos (by omega), pi_at]
        · rw [pi_ne (Or.inr ee), pi_ne (Or.inr ee)]
          by_cases hx : 3 * t + i ≤ e ∧ e < 3 * t + 3
          · rw [if_pos hx, if_pos (by omega)]
          · rw [if_neg hx, if_neg (by omega)]
/-- one bit's place is written -/
def tw_s (u : St) (q t x c : Nat) : St := if x.testBit c = true then ly_pi u q (3 * t + (bq_l x c).length) (nI (2 ^ c)) else u
theorem tw_p {u : St} {q t x c k : Nat} (h : k ≠ q) : (tw_s u q t x c).1 k = u.1 k := by
  unfold tw_s
  split
  · exact pi_p h
  · rfl
theorem tw_o {u : St} {q t x c e : Nat} (hl : (bq_l x 8).length ≤ 3) (hc : c < 8) (h : e < 3 * t ∨ 3 * t + 3 ≤ e) : (tw_s u q t x c).1 q e = u.1 q e := by
  unfold tw_s
  by_cases hb : x.testBit c = true
  · have h1 := bq_le x (show c + 1 ≤ 8 by omega)
    rw [bq_s, if_pos hb, List.length_append, List.length_singleton] at h1
    rw [if_pos hb, pi_ne (Or.inr (by omega))]
  · rw [if_neg hb]
theorem tw_i {u : St} {q t x c k : Nat} (hu : u.1 q (3 * t + k) = nI ((bq_l x c).getD k 0)) : (tw_s u q t x c).1 q (3 * t + k) = nI ((bq_l x (c + 1)).getD k 0) := by
  unfold tw_s
  rw [bq_s]
  by_cases hb : x.testBit c = true
  · rw [if_pos hb, if_pos hb, gd_app2]
    by_cases e : k = (bq_l x c).length
    · subst e; rw [pi_at, if_pos rfl]
    · rw [pi_ne (Or.inr (by omega)), if_neg e]; exact hu
  · rw [if_neg hb, if_neg hb, List.append_nil]; exact hu
theorem tl_M {v2 v3 : Int32} {x y : Nat} (ht : t < 6) (hx : x < 256) (hy : y < 256) (lx : (bq_l x 8).length ≤ 3) (ly : (bq_l y 8).length ≤ 3) : ∀ (n c : Nat) (u : St), c ≤ 8 → 8 - c < n → (∀ k, k < 3 → u.1 6 (3 * t + k) = nI ((bq_l x c).getD k 0)) → (∀ k, k < 3 → u.1 7 (3 * t + k) = nI ((bq_l y c).getD k 0)) → ∃ z1 z2 z3 u', (∀ k, lp_Md_task_167 F (nI t) v2 v3 (nI x) (nI y) k n (nI (bq_l x c).length) (nI (bq_l y c).length) (nI c) u = k z1 z2 z3 u') ∧ (∀ q, q ≠ 6 → q ≠ 7 → q ≠ 9 → q ≠ 10 → q ≠ 11 → u'.1 q = u.1 q) ∧ ((∀ k, k < 3 → u'.1 6 (3 * t + k) = nI (bk_n x k)) ∧ ∀ k, k < 3 → u'.1 7 (3 * t + k) = nI (bk_n y k)) ∧ (∀ e, (e < 3 * t ∨ 3 * t + 3 ≤ e) → u'.1 6 e = u.1 6 e ∧ u'.1 7 e = u.1 7 e) ∧ (∀ e, u'.1 9 e = if 8 * t + c ≤ e ∧ e < 8 * t + 8 then 0 else u.1 9 e) ∧ (∀ e, u'.1 10 e = if 8 * t + c ≤ e ∧ e < 8 * t + 8 then -2147483648 else u.1 10 e) ∧ ∀ e, u'.1 11 e = if 8 * t + c ≤ e ∧ e < 8 * t + 8 then 2147483647 else u.1 11 e := by
  intro n
  induction n with
  | zero => intro c u _ h; omega
  | succ n ih =>
    intro c u hc hn h6 h7
    by_cases he : c = 8
    · subst he
      refine ⟨nI (bq_l x 8).length, nI (bq_l y 8).length, nI 8, u, fun k => ?_, fun _ _ _ _ _ _ => rfl, ⟨h6, h7⟩, fun _ _ => ⟨rfl, rfl⟩, fun e => ?_, fun e => ?_, fun e => ?_⟩
      · rw [lp_Md_task_167, if_pos (show (8 : Int32) ≤ nI 8 from by decide)]
      · rw [if_neg (by omega)]
      · rw [if_neg (by omega)]
      · rw [if_neg (by omega)]
    · have lx1 := bq_le x (show c + 1 ≤ 8 by omega)
      have ly1 := bq_le y (show c + 1 ≤ 8 by omega)
      have hibg : ib (nI (8 * t + c)) 48 = true := ib_nI (by omega) (by omega)
      have bit : ∀ x, x < 256 → ((nI x >>> (nI c &&& 31)) &&& (1 : Int32) = (1 : Int32) ↔ x.testBit c = true) := fun x hx => by
        rw [sh_bit (by omega) (by omega), nI_o (by omega), Nat.testBit_eq_decide_div_mod_eq, decide_eq_true_eq]
      have head : ∀ k, lp_Md_task_167 F (nI t) v2 v3 (nI x) (nI y) k (n + 1) (nI (bq_l x c).length) (nI (bq_l y c).length) (nI c) u = lp_Md_task_167 F (nI t) v2 v3 (nI x) (nI y) k n (nI (bq_l x (c + 1)).length) (nI (bq_l y (c + 1)).length) (nI (c + 1)) (ly_pi (ly_pi (ly_pi (tw_s (tw_s u 6 t x c) 7 t y c) 9 (8 * t + c) 0) 10 (8 * t + c) (-2147483648)) 11 (8 * t + c) 2147483647) := fun k => by
        conv => lhs; rw [lp_Md_task_167]
        rw [if_neg (show ¬ (8 : Int32) ≤ nI c from nI_ge (b := 8) (by omega) (by omega)), ix_8, nI_clamp (show 8 * t + c < 2 ^ 31 by omega)]
        simp only [nm_k, hibg, ↓reduceIte]
        rw [sh_one (by omega), ix_3, ix_3, nI_1, nI_1, nI_1]
        unfold tw_s
        by_cases bx : x.testBit c = true
        · have ex : (bq_l x (c + 1)).length = (bq_l x c).length + 1 := by rw [bq_s, if_pos bx, List.length_append]; rfl
          rw [if_pos ((bit x hx).mpr bx), if_pos (ib_nI (show 3 * t + (bq_l x c).length < 18 by omega) (by omega)), nI_clamp (show 3 * t + (bq_l x c).length < 2 ^ 31 by omega), if_pos bx, ex]
          by_cases by' : y.testBit c = true
          · have ey : (bq_l y (c + 1)).length = (bq_l y c).length + 1 := by rw [bq_s, if_pos by', List.length_append]; rfl
            rw [if_pos ((bit y hy).mpr by'), if_pos (ib_nI (show 3 * t + (bq_l y c).length < 18 by omega) (by omega)), nI_clamp (show 3 * t + (bq_l y c).length < 2 ^ 31 by omega), if_pos by', ey]
          · have ey : (bq_l y (c + 1)).length = (bq_l y c).length := by rw [bq_s, if_neg by', List.append_nil]
            rw [if_neg (fun e => by' ((bit y hy).mp e)), if_neg by', ey]
        · have ex : (bq_l x (c + 1)).length = (bq_l x c).length := by rw [bq_s, if_neg bx, List.append_nil]
          rw [if_neg (fun e => bx ((bit x hx).mp e)), if_neg bx, ex]
          by_cases by' : y.testBit c = true
          · have ey : (bq_l y (c + 1)).length = (bq_l y c).length + 1 := by rw [bq_s, if_pos by', List.length_append]; rfl
            rw [if_pos ((bit y hy).mpr by'), if_pos (ib_nI (show 3 * t + (bq_l y c).length < 18 by omega) (by omega)), nI_clamp (show 3 * t + (bq_l y c).length < 2 ^ 31 by omega), if_pos by', ey]
          · have ey : (bq_l y (c + 1)).length = (bq_l y c).length := by rw [bq_s, if_neg by', List.append_nil]
            rw [if_neg (fun e => by' ((bit y hy).mp e)), if_neg by', ey]
      obtain ⟨z1, z2, z3, u', g1, g2, ⟨g3, g4⟩, g5, g6, g7, g8⟩ := ih (c + 1) (ly_pi (ly_pi (ly_pi (tw_s (tw_s u 6 t x c) 7 t y c) 9 (8 * t + c) 0) 10 (8 * t + c) (-2147483648)) 11 (8 * t + c) 2147483647) (by omega) (by omega) (fun k hk => by rw [pi_p (by omega), pi_p (by omega), pi_p (by omega), tw_p (by omega)]; exact tw_i (h6 k hk)) (fun k hk => by rw [pi_p (by omega), pi_p (by omega), pi_p (by omega)]; exact tw_i (by rw [tw_p (by omega)]; exact h7 k hk))
      refine ⟨z1, z2, z3, u', fun k => by rw [head k]; exact g1 k, fun q a1 a2 a3 a4 a5 => by rw [g2 q a1 a2 a3 a4 a5, pi_p a5, pi_p a4, pi_p a3, tw_p a2, tw_p a1], ⟨g3, g4⟩, fun e h => ?_, fun e => ?_, fun e => ?_, fun e => ?_⟩
      · obtain ⟨q1, q2⟩ := g5 e h
        rw [q1, q2]
        refine ⟨?_, ?_⟩
        · rw [pi_p (by omega), pi_p (by omega), pi_p (by omega), tw_p (by omega), tw_o lx (by omega) h]
        · rw [pi_p (by omega), pi_p (by omega), pi_p (by omega), tw_o ly (by omega) h, tw_p (by omega)]
      · rw [g6 e]
        by_cases ee : e = 8 * t + c
        · subst ee; rw [if_neg (by omega), if_pos (by omega), pi_p (by omega), pi_p (by omega), pi_at]
        · rw [pi_ne (Or.inr ee), pi_ne (Or.inr ee), pi_ne (Or.inr ee), tw_p (by omega), tw_p (by omega)]
          by_cases hx : 8 * t + c ≤ e ∧ e < 8 * t + 8
          · rw [if_pos hx, if_pos (by omega)]
          · rw [if_neg hx, if_neg (by omega)]
      · rw [g7 e]
        by_cases ee : e = 8 * t + c
        · subst ee; rw [if_neg (by omega), if_pos (by omega), pi_p (by omega), pi_at]
        · rw [pi_ne (Or.inr ee), pi_ne (Or.inr ee), pi_ne (Or.inr ee), tw_p (by omega), tw_p (by omega)]
          by_cases hx : 8 * t + c ≤ e ∧ e < 8 * t + 8
          · rw [if_pos hx, if_pos (by omega)]
          · rw [if_neg hx, if_neg (by omega)]
      · rw [g8 e]
        by_cases ee : e = 8 * t + c
        · subst ee; rw [if_neg (by omega), if_pos (by omega), pi_at]
        · rw [pi_ne (Or.inr ee), pi_ne (Or.inr ee), pi_ne (Or.inr ee), tw_p (by omega), tw_p (by omega)]
          by_cases hx : 8 * t + c ≤ e ∧ e < 8 * t + 8
          · rw [if_pos hx, if_pos (by omega)]
          · rw [if_neg hx, if_neg (by omega)]
end TM
