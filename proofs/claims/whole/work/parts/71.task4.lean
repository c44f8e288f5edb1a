section TF
variable {F t : Nat}
/-- what the reference's task makes of the state -/
def df_M (t j s x y : Nat) (u u' : St) : Prop := (∀ q, (q = 0 ∨ 15 < q) → u'.1 q = u.1 q) ∧ (∀ q e, (q = 1 ∨ q = 2 ∨ q = 3 ∨ q = 4 ∨ q = 5 ∨ q = 8 ∨ q = 12 ∨ q = 13 ∨ q = 14 ∨ q = 15) → e ≠ t → u'.1 q e = u.1 q e) ∧ (∀ e, (e < 3 * t ∨ 3 * t + 3 ≤ e) → u'.1 6 e = u.1 6 e ∧ u'.1 7 e = u.1 7 e) ∧ (∀ e, (e < 8 * t ∨ 8 * t + 8 ≤ e) → u'.1 9 e = u.1 9 e ∧ u'.1 10 e = u.1 10 e ∧ u'.1 11 e = u.1 11 e) ∧ (u'.1 1 t = 1 ∧ u'.1 2 t = nI j ∧ u'.1 3 t = nI s ∧ u'.1 4 t = nI x ∧ u'.1 5 t = nI y ∧ u'.1 8 t = nI 0) ∧ (u'.1 12 t = nI 1 ∧ u'.1 13 t = nI 1 ∧ u'.1 14 t = nI 0 ∧ u'.1 15 t = nI 0) ∧ (∀ c, c < 8 → u'.1 9 (8 * t + c) = nI 0 ∧ u'.1 10 (8 * t + c) = -2147483648 ∧ u'.1 11 (8 * t + c) = 2147483647) ∧ (∀ k, k < 3 → u'.1 6 (3 * t + k) = nI (bk_n x k)) ∧ ∀ k, k < 3 → u'.1 7 (3 * t + k) = nI (bk_n y k)
theorem dm_all {j s x y : Nat} (hF : 300 < F) (ht : t < 6) (hj : j < 3) (hs : s < 3) (hx : x < 256) (hy : y < 256) (gx : go_n x = true) (gy : go_n y = true) (u : St) (h15 : u.1 0 15 = 0) (e1 : sp_Md_isTask (nI t) u = some (1, u)) : ∃ u', sp_Md_task F (nI t) (nI j) (nI s) (nI x) (nI y) u = some (1, u') ∧ df_M t j s x y u u' := by
  have gx' := gx
  have gy' := gy
  unfold go_n at gx' gy'
  simp only [Bool.and_eq_true, bne_iff_ne, ne_eq, decide_eq_true_eq] at gx' gy'
  have n1 : ¬ (1 : Int32) = 0 := by decide
  have hib : ib (nI t) 6 = true := ib_nI ht (by omega)
  have hcl : (nI t).toNatClampNeg = t := nI_clamp (by omega)
  have lx : (bq_l x 8).length ≤ 3 := by rw [bq_len x hx]; exact gx'.2
  have ly : (bq_l y 8).length ≤ 3 := by rw [bq_len y hy]; exact gy'.2
  obtain ⟨uA, hA⟩ : ∃ uA, uA = ly_pi (ly_pi (ly_pi (ly_pi (ly_pi u 1 t 1) 2 t (nI j)) 3 t (nI s)) 4 t (nI x)) 5 t (nI y) := ⟨_, rfl⟩
  have aq : ∀ q, (q = 0 ∨ 5 < q) → uA.1 q = u.1 q := fun q hq => by
    rw [hA, pi_p (by omega), pi_p (by omega), pi_p (by omega), pi_p (by omega), pi_p (by omega)]
  have ae : ∀ q e, e ≠ t → uA.1 q e = u.1 q e := fun q e he => by
    rw [hA, pi_ne (Or.inr he), pi_ne (Or.inr he), pi_ne (Or.inr he), pi_ne (Or.inr he), pi_ne (Or.inr he)]
  have a1 : uA.1 1 t = 1 := by rw [hA, pi_p (by omega), pi_p (by omega), pi_p (by omega), pi_p (by omega), pi_at]
  have a2 : uA.1 2 t = nI j := by rw [hA, pi_p (by omega), pi_p (by omega), pi_p (by omega), pi_at]
  have a3 : uA.1 3 t = nI s := by rw [hA, pi_p (by omega), pi_p (by omega), pi_at]
  have a4 : uA.1 4 t = nI x := by rw [hA, pi_p (by omega), pi_at]
  have a5 : uA.1 5 t = nI y := by rw [hA, pi_at]
  obtain ⟨z, uB, b1, b2, b3, b4⟩ := tz_M (F := F) (t := t) (v2 := nI j) (v3 := nI s) (v4 := nI x) (v5 := nI y) (v6 := 0) (v7 := 0) ht F 0 uA (by omega) (by omega)
  obtain ⟨z1, z2, z3, uD, d1, d2, ⟨d3, d4⟩, d5, d6, d7, d8⟩ := tl_M (F := F) (t := t) (v2 := nI j) (v3 := nI s) ht hx hy lx ly F 0 uB (by omega) (by omega) (fun k hk => by rw [b3, if_pos (by omega)]; rfl) (fun k hk => by rw [b4, if_pos (by omega)]; rfl)
  have dq : ∀ q, q ≠ 6 → q ≠ 7 → q ≠ 9 → q ≠ 10 → q ≠ 11 → uD.1 q = uA.1 q := fun q h6 h7 h9 h10 h11 => by rw [d2 q h6 h7 h9 h10 h11, b2 q h6 h7]
  refine ⟨ly_pi (ly_pi (ly_pi (ly_pi (ly_pi uD 8 t 0) 12 t 1) 13 t 1) 14 t 0) 15 t 0, ?_, fun q hq => ?_, fun q e hq he => ?_, fun e he => ?_, fun e he => ?_, ⟨?_, ?_, ?_, ?_, ?_, ?_⟩, ⟨?_, ?_, ?_, ?_⟩, fun c hc => ?_, fun k hk => ?_, fun k hk => ?_⟩
  · have b1 : ∀ k, lp_Md_task_128 F (nI t) (nI j) (nI s) (nI x) (nI y) 0 0 k F (0 : Int32) uA = k z uB := b1
    have d1 : ∀ k, lp_Md_task_167 F (nI t) (nI j) (nI s) (nI x) (nI y) k F (0 : Int32) (0 : Int32) (0 : Int32) uB = k z1 z2 z3 uD := d1
    unfold sp_Md_task
    have px := pc_lt x
    have py := pc_lt y
    rw [h15, if_pos rfl, e1, cl_some, if_neg n1, if_neg (nI_pos (by omega)), if_neg (show ¬ (2 : Int32) < nI j from nI_nlt (a := 2) (by omega) (by omega)), if_neg (nI_pos (by omega)), if_pos (show nI s ≤ (2 : Int32) from nI_le (b := 2) (by omega) (by omega)), if_neg (show ¬ nI x < (1 : Int32) from nI_nlt (b := 1) (by omega) (by omega)), if_neg (show ¬ (255 : Int32) < nI x from nI_nlt (a := 255) (by omega) (by omega)), if_neg (show ¬ nI y < (1 : Int32) from nI_nlt (b := 1) (by omega) (by omega)), if_neg (show ¬ (255 : Int32) < nI y from nI_nlt (a := 255) (by omega) (by omega)), md_count (by omega) hx, cl_some, if_neg (show ¬ (3 : Int32) < nI (pc_n x) from nI_nlt (a := 3) gx'.2 (by omega)), md_count (by omega) hy, cl_some, if_pos (show nI (pc_n y) ≤ (3 : Int32) from nI_le (b := 3) gy'.2 (by omega))]
    simp only [nm_k, hib, hcl, ↓reduceIte]
    rw [← hA, b1, d1]
  · rw [pi_p (by omega), pi_p (by omega), pi_p (by omega), pi_p (by omega), pi_p (by omega), dq q (by omega) (by omega) (by omega) (by omega) (by omega), aq q (by omega)]
  · rw [pi_ne (Or.inr he), pi_ne (Or.inr he), pi_ne (Or.inr he), pi_ne (Or.inr he), pi_ne (Or.inr he), dq q (by omega) (by omega) (by omega) (by omega) (by omega), ae q e he]
  · rw [pi_p (k := 6) (by omega), pi_p (k := 6) (by omega), pi_p (k := 6) (by omega), pi_p (k := 6) (by omega), pi_p (k := 6) (by omega), pi_p (k := 7) (by omega), pi_p (k := 7) (by omega), pi_p (k := 7) (by omega), pi_p (k := 7) (by omega), pi_p (k := 7) (by omega)]
    obtain ⟨q1, q2⟩ := d5 e he
    rw [q1, q2, b3, b4, if_neg (by omega), if_neg (by omega), aq 6 (by omega), aq 7 (by omega)]
    exact ⟨rfl, rfl⟩
  · have pq : ∀ q, 9 ≤ q → q ≤ 11 → (ly_pi (ly_pi (ly_pi (ly_pi (ly_pi uD 8 t 0) 12 t 1) 13 t 1) 14 t 0) 15 t 0).1 q = uD.1 q := fun q h1 h2 => by
      rw [pi_p (by omega), pi_p (by omega), pi_p (by omega), pi_p (by omega), pi_p (by omega)]
    rw [pq 9 (by omega) (by omega), pq 10 (by omega) (by omega), pq 11 (by omega) (by omega), d6, d7, d8, if_neg (by omega), if_neg (by omega), if_neg (by omega), b2 9 (by omega) (by omega), b2 10 (by omega) (by omega), b2 11 (by omega) (by omega), aq 9 (by omega), aq 10 (by omega), aq 11 (by omega)]
    exact ⟨rfl, rfl, rfl⟩
  · rw [pi_p (by omega), pi_p (by omega), pi_p (by omega), pi_p (by omega), pi_p (by omega), dq 1 (by omega) (by omega) (by omega) (by omega) (by omega)]; exact a1
  · rw [pi_p (by omega), pi_p (by omega), pi_p (by omega), pi_p (by omega), pi_p (by omega), dq 2 (by omega) (by omega) (by omega) (by omega) (by omega)]; exact a2
  · rw [pi_p (by omega), pi_p (by omega), pi_p (by omega), pi_p (by omega), pi_p (by omega), dq 3 (by omega) (by omega) (by omega) (by omega) (by omega)]; exact a3
  · rw [pi_p (by omega), pi_p (by omega), pi_p (by omega), pi_p (by omega), pi_p (by omega), dq 4 (by omega) (by omega) (by omega) (by omega) (by omega)]; exact a4
  · rw [pi_p (by omega), pi_p (by omega), pi_p (by omega), pi_p (by omega), pi_p (by omega), dq 5 (by omega) (by omega) (by omega) (by omega) (by omega)]; exact a5
  · rw [pi_p (by omega), pi_p (by omega), pi_p (by omega), pi_p (by omega), pi_at]; rfl
  · rw [pi_p (by omega), pi_p (by omega), pi_p (by omega), pi_at]; rfl
  · rw [pi_p (by omega), pi_p (by omega), pi_at]; rfl
  · rw [pi_p (by omega), pi_at]; rfl
  · rw [pi_at]; rfl
  · have pq : ∀ q, 9 ≤ q → q ≤ 11 → (ly_pi (ly_pi (ly_pi (ly_pi (ly_pi uD 8 t 0) 12 t 1) 13 t 1) 14 t 0) 15 t 0).1 q = uD.1 q := fun q h1 h2 => by
      rw [pi_p (by omega), pi_p (by omega), pi_p (by omega), pi_p (by omega), pi_p (by omega)]
    rw [pq 9 (by omega) (by omega), pq 10 (by omega) (by omega), pq 11 (by omega) (by omega), d6, d7, d8, if_pos (by omega), if_pos (by omega), if_pos (by omega)]
    exact ⟨rfl, rfl, rfl⟩
  · rw [pi_p (by omega), pi_p (by omega), pi_p (by omega), pi_p (by omega), pi_p (by omega)]; exact d3 k hk
  · rw [pi_p (by omega), pi_p (by omega), pi_p (by omega), pi_p (by omega), pi_p (by omega)]; exact d4 k hk
end TF
