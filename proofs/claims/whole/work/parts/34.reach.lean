/-! the class's search on from START -/
def fr_n (u u' : St) : Prop := (∀ k, k ≠ 1 → k ≠ 3 → k ≠ 5 → k ≠ 7 → u'.1 k = u.1 k) ∧ ∀ k, k ≠ 4 → k ≠ 6 → k ≠ 8 → u'.2 k = u.2 k
theorem fr_n_rf (u : St) : fr_n u u := ⟨fun _ _ _ _ _ => rfl, fun _ _ _ _ => rfl⟩
theorem fr_n_tr {u v w : St} (h : fr_n u v) (k : fr_n v w) : fr_n u w := ⟨fun i a b c d => (k.1 i a b c d).trans (h.1 i a b c d), fun i a b c => (k.2 i a b c).trans (h.2 i a b c)⟩
theorem fr_n_s {u v : St} (h : fr_s u v) : fr_n u v := ⟨fun k _ b _ d => h.1 k b d, fun k a _ c => h.2 k a c⟩
theorem fr_n_3 {u v : St} (h : ms_fr 3 u v) : fr_n u v := ⟨fun k _ b _ _ => h.1 k b, fun k a _ _ => h.2.2 k a⟩
theorem fr_n_5 {u v : St} (h : ms_fr 5 u v) : fr_n u v := ⟨fun k _ _ c _ => h.1 k c, fun k _ b _ => h.2.2 k b⟩
theorem fr_n_1 (u : St) (j : Nat) (v : Int32) : fr_n u (ly_pi u 1 j v) := ⟨fun k a _ _ _ => va_up_ne _ _ a, fun _ _ _ _ => rfl⟩
section RCH
variable {df : Nat → Bool} {cr nt : Nat → Nat} {tk : Nat → Nat → Nat} {np : Nat → Nat} {pt : Nat → Nat → Nat} {Dr : Nat → Bool}
def rc_I (df : Nat → Bool) (cr nt : Nat → Nat) (tk : Nat → Nat → Nat) (np : Nat → Nat) (pt : Nat → Nat → Nat) (Dr : Nat → Bool) (u : St) (R O : Nat → Bool) : Prop := nw_ok u df cr nt tk np pt ∧ ms_ok u 5 R ∧ ms_ok u 3 O ∧ (∀ x, x < 16384 → (R x = true ↔ O x = true ∨ Dr x = true)) ∧ ∀ x, x < 16384 → O x = true → Dr x = true → False
theorem rc_1 {u : St} {R O : Nat → Bool} (h : rc_I df cr nt tk np pt Dr u R O) (j : Nat) (v : Int32) : rc_I df cr nt tk np pt Dr (ly_pi u 1 j v) R O := ⟨nw_fr h.1 (fun k hk => va_up_ne _ _ (by omega)), ms_ok_eq h.2.1 (by rw [pi_ne (Or.inl (by omega))]) rfl, ms_ok_eq h.2.2.1 (by rw [pi_ne (Or.inl (by omega))]) rfl, h.2.2.2⟩
theorem rc_add {x : Nat} {u : St} {R O : Nat → Bool} (h : rc_I df cr nt tk np pt Dr u R O) (hx : x < 16384) : ∃ u' R' O', sp_Net_addReached (nI x) u = some (0, u') ∧ fr_n u u' ∧ u'.1 1 = u.1 1 ∧ rc_I df cr nt tk np pt Dr u' R' O' ∧ (∀ y, R y = true → R' y = true) ∧ R' x = true ∧ ∀ y, R' y = true → R y = true ∨ y = x := by
  obtain ⟨h1, h2, h3, h4, h5⟩ := h
  unfold sp_Net_addReached
  rw [ms_has h2 hx]
  by_cases hR : R x = true
  · rw [if_pos hR, cl_some, if_neg (by decide)]
    exact ⟨u, R, O, rfl, fr_n_rf u, rfl, ⟨h1, h2, h3, h4, h5⟩, fun _ h => h, hR, fun _ h => Or.inl h⟩
  · rw [if_neg hR, cl_some, if_pos rfl]
    obtain ⟨u1, a1, a2, a3⟩ := ms_add h2 hx
    have b3 : ms_ok u1 3 O := ms_ok_eq h3 (by rw [a2.1 3 (by omega)]) (a2.2.2 4 (by omega))
    obtain ⟨u2, c1, c2, c3⟩ := ms_add b3 hx
    rw [a1, cl_some, c1, cl_some]
    have d5 : ms_ok u2 5 (fun y => decide (y = x) || R y) := ms_ok_eq a3 (by rw [c2.1 5 (by omega)]) (c2.2.2 6 (by omega))
    refine ⟨u2, _, _, rfl, fr_n_tr (fr_n_5 a2) (fr_n_3 c2), by rw [c2.1 1 (by omega), a2.1 1 (by omega)], ⟨nw_fr h1 (fun k hk => by rw [c2.1 k (by omega), a2.1 k (by omega)]), d5, c3, fun y hy => ?_, fun y hy ho hd => ?_⟩, fun y hy => by simp [hy], by simp, fun y hy => ?_⟩
    · simp only [Bool.or_eq_true, decide_eq_true_eq, h4 y hy, or_assoc]
    · simp only [Bool.or_eq_true, decide_eq_true_eq] at ho
      rcases ho with rfl | ho
      · exact hR ((h4 y hy).mpr (Or.inr hd))
      · exact h5 y hy ho hd
    · simp only [Bool.or_eq_true, decide_eq_true_eq] at hy
      exact hy.symm
theorem rc_beg {F t m : Nat} (k : Int32 → St → Option (Int32 × St)) (ht : t < 6) (hd : df t = true) (hm : m < 16384) : ∀ (n i : Nat) (u : St) (R O : Nat → Bool) (B : Nat), i ≤ nt t → nt t - i < n → B < 64 → u.1 1 4 = nI B → rc_I df cr nt tk np pt Dr u R O → ∃ z u' R' O' B', lp_Net_goOnByBegin_10 F (nI t) (nI m) t k n (nI i) u = k z u' ∧ fr_n u u' ∧ u'.1 1 5 = u.1 1 5 ∧ B' < 64 ∧ u'.1 1 4 = nI B' ∧ rc_I df cr nt tk np pt Dr u' R' O' ∧ (∀ y, R y = true → R' y = true) ∧ (∀ j, i ≤ j → j < nt t → mk_sub (tk t j) m → R' (mk_nd m (tk t j) ||| 2 ^ (8 + t)) = true) ∧ (∀ y, R' y = true → R y = true ∨ ∃ j, j < nt t ∧ mk_sub (tk t j) m ∧ y = mk_nd m (tk t j) ||| 2 ^ (8 + t)) ∧ ∀ s, (B'.testBit s = true ↔ B.testBit s = true ∨ (s = t ∧ ∃ j, i ≤ j ∧ j < nt t ∧ mk_sub (tk t j) m)) := by
  intro n
  induction n with
  | zero => intro i u R O B _ h; omega
  | succ n ih =>
    intro i u R O B hi hn hB hu4 h
    obtain ⟨e0, -, e2⟩ := h.1 t ht
    obtain ⟨-, ⟨ent, lnt, htk⟩, -⟩ := e2 hd
    rw [lp_Net_goOnByBegin_10, ent]
    by_cases hc : i = nt t
    · subst hc
      rw [if_pos (nI_le (Nat.le_refl _) (by omega))]
      exact ⟨_, u, R, O, B, rfl, fr_n_rf u, rfl, hB, hu4, h, fun _ h => h, fun j h1 h2 => by omega, fun _ h => Or.inl h, fun s => ⟨Or.inl, fun h => h.elim id (fun ⟨_, j, h1, h2, _⟩ => by omega)⟩⟩
    · obtain ⟨etk, ltk⟩ := htk i (by omega)
      rw [if_neg (nI_ge (by omega) (by omega)), if_pos (ib_nI (by omega) (by omega)), nI_clamp (by omega), etk]
      simp only [nm_k]
      rw [nx_and, nx_nd, hu4, sh_one (by omega), nx_or, nI_1]
      have hle : m &&& tk t i ≤ m := Nat.and_le_left
      by_cases hs : m &&& tk t i = tk t i
      · rw [if_pos (by rw [hs]), show (ly_pi u 1 4 (nI (B ||| 2 ^ t))).1 (9 + 6 * t) 0 = u.1 (9 + 6 * t) 0 from pi_ne (Or.inl (by omega)), e0, nx_or]
        have hx : mk_nd m (tk t i) ||| 2 ^ (8 + t) < 16384 := or_lt14 (nd_lt14 hm) (tp_lt ht)
        have hB2 : B ||| 2 ^ t < 64 := Nat.or_lt_two_pow (n := 6) hB (Nat.pow_lt_pow_right (by omega) ht)
        obtain ⟨u1, R1, O1, a1, a2, a3, a4, a5, a6, a7⟩ := rc_add (rc_1 h 4 (nI (B ||| 2 ^ t))) hx
        rw [a1, cl_some]
        obtain ⟨z, u', R', O', B', g1, g2, g3, g4, g5, g6, g7, g8, g9, g10⟩ := ih (i + 1) u1 R1 O1 (B ||| 2 ^ t) (by omega) (by omega) hB2 (by rw [a3, pi_at]) a4
        refine ⟨z, u', R', O', B', g1, fr_n_tr (fr_n_1 u 4 _) (fr_n_tr a2 g2), by rw [g3, a3, pi_ne (Or.inr (by omega))], g4, g5, g6, fun y hy => g7 y (a5 y hy), fun j h1 h2 h3 => ?_, fun y hy => ?_, fun s => ?_⟩
        · by_cases hj : j = i
          · subst hj; exact g7 _ a6
          · exact g8 j (by omega) h2 h3
        · rcases g9 y hy with h | h
          · rcases a7 y h with h | h
            · exact Or.inl h
            · exact Or.inr ⟨i, by omega, mk_sub_and.mp hs, h⟩
          · exact Or.inr h
        · rw [g10 s, Nat.testBit_or, Bool.or_eq_true, Nat.testBit_two_pow, decide_eq_true_eq]
          constructor
          · rintro ((h | h) | ⟨h1, j, h2, h3, h4⟩)
            · exact Or.inl h
            · exact Or.inr ⟨h.symm, i, Nat.le_refl _, by omega, mk_sub_and.mp hs⟩
            · exact Or.inr ⟨h1, j, by omega, h3, h4⟩
          · rintro (h | ⟨h1, _⟩)
            · exact Or.inl (Or.inl h)
            · exact Or.inl (Or.inr h1.symm)
      · rw [if_neg (fun e => hs ((nI_eq (by omega) (by omega)).mp e))]
        obtain ⟨z, u', R', O', B', g1, g2, g3, g4, g5, g6, g7, g8, g9, g10⟩ := ih (i + 1) u R O B (by omega) (by omega) hB hu4 h
        refine ⟨z, u', R', O', B', g1, g2, g3, g4, g5, g6, g7, fun j h1 h2 h3 => ?_, g9, fun s => ?_⟩
        · by_cases hj : j = i
          · subst hj; exact absurd (mk_sub_and.mpr h3) hs
          · exact g8 j (by omega) h2 h3
        · rw [g10 s]
          constructor
          · rintro (h | ⟨h1, j, h2, h3, h4⟩)
            · exact Or.inl h
            · exact Or.inr ⟨h1, j, by omega, h3, h4⟩
          · rintro (h | ⟨h1, j, h2, h3, h4⟩)
            · exact Or.inl h
            · refine Or.inr ⟨h1, j, ?_, h3, h4⟩
              rcases Nat.lt_or_ge i j with h | h
              · exact h
              · exfalso
                have : j = i := by omega
                subst this
                exact hs (mk_sub_and.mpr h4)
theorem rc_end {F t m : Nat} (k : Int32 → St → Option (Int32 × St)) (ht : t < 6) (hd : df t = true) (hm : m < 16384) (v2 : Int32) : ∀ (n i : Nat) (u : St) (R O : Nat → Bool), i ≤ np t → np t - i < n → rc_I df cr nt tk np pt Dr u R O → ∃ z u' R' O', lp_Net_goOnByEnd_27 F t v2 (nI (mk_nd m (cr t ||| 2 ^ (8 + t)))) k n (nI i) u = k z u' ∧ fr_n u u' ∧ u'.1 1 = u.1 1 ∧ rc_I df cr nt tk np pt Dr u' R' O' ∧ (∀ y, R y = true → R' y = true) ∧ (∀ j, i ≤ j → j < np t → R' (mk_nd m (cr t ||| 2 ^ (8 + t)) ||| pt t j) = true) ∧ ∀ y, R' y = true → R y = true ∨ ∃ j, j < np t ∧ y = mk_nd m (cr t ||| 2 ^ (8 + t)) ||| pt t j := by
  intro n
  induction n with
  | zero => intro i u R O _ h; omega
  | succ n ih =>
    intro i u R O hi hn h
    obtain ⟨e0, -, e2⟩ := h.1 t ht
    obtain ⟨-, -, enp, lnp, hpt⟩ := e2 hd
    rw [lp_Net_goOnByEnd_27, enp]
    by_cases hc : i = np t
    · subst hc
      rw [if_pos (nI_le (Nat.le_refl _) (by omega))]
      exact ⟨_, u, R, O, rfl, fr_n_rf u, rfl, h, fun _ h => h, fun j h1 h2 => by omega, fun _ h => Or.inl h⟩
    · obtain ⟨ept, lpt⟩ := hpt i (by omega)
      rw [if_neg (nI_ge (by omega) (by omega)), if_pos (ib_nI (by omega) (by omega)), nI_clamp (by omega), ept, nx_or, nI_1]
      obtain ⟨u1, R1, O1, a1, a2, a3, a4, a5, a6, a7⟩ := rc_add h (or_lt14 (nd_lt14 hm) (show pt t i < 16384 by omega) : mk_nd m (cr t ||| 2 ^ (8 + t)) ||| pt t i < 16384)
      rw [a1, cl_some]
      obtain ⟨z, u', R', O', g1, g2, g3, g4, g5, g6, g7⟩ := ih (i + 1) u1 R1 O1 (by omega) (by omega) a4
      refine ⟨z, u', R', O', g1, fr_n_tr a2 g2, by rw [g3, a3], g4, fun y hy => g5 y (a5 y hy), fun j h1 h2 => ?_, fun y hy => ?_⟩
      · by_cases hj : j = i
        · subst hj; exact g5 _ a6
        · exact g6 j (by omega) h2
      · rcases g7 y hy with h | h
        · rcases a7 y h with h | h
          · exact Or.inl h
          · exact Or.inr ⟨i, by omega, h⟩
        · exact Or.inr h
end RCH
