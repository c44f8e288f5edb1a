section MORE
variable {df : Nat → Bool} {jo sp is os rg : Nat → Nat} {F : Nat}
theorem mo_M (hF : 16500 < F) (hD : ds_ok df jo sp is os rg) {p t : Nat} (hp : p < 16384) (ht : t < 6) (hd : df t = true) : ∀ (n k : Nat) (u : St), k ≤ 3 → 3 - k < n → md_W df jo sp is os rg u → u.1 0 16 = nI p → ∃ r u', lp_Md_isLast_14 F (nI t) (nI (is t &&& p)) (fun (v3_8 : Int32) (u9 : St) => (some ((1 : Int32), u9))) n (nI k) u = some (r, u') ∧ fr_m u u' ∧ ((r = 0 ∧ ∃ x, x < 8 ∧ mo_c df jo sp is os rg p t x) ∨ (r = 1 ∧ ∀ x k', k ≤ k' → k' < 3 → x < 8 → bk_n (is t) k' = 2 ^ x → ¬ mo_c df jo sp is os rg p t x)) := by
  obtain ⟨hj, hs, ⟨hi1, hi2⟩, ⟨ho1, ho2⟩, hr⟩ := hD t ht hd
  obtain ⟨f1, f2⟩ := bk_use hi1 hi2
  have H := md_af (F := F) (by omega) hD
  intro n
  induction n with
  | zero => intro k u _ h; omega
  | succ n ih =>
    intro k u hk hn hW hu
    rw [lp_Md_isLast_14]
    by_cases he : k = 3
    · subst he
      rw [if_pos (show (3 : Int32) ≤ nI 3 from by decide)]
      exact ⟨1, u, rfl, fr_m_rf u, Or.inr ⟨rfl, fun x k' h1 h2 => by omega⟩⟩
    · obtain ⟨-, hWt⟩ := hW t ht
      obtain ⟨w2, w3, w4, w5, w6, w7, w8⟩ := hWt hd
      rw [if_neg (show ¬ (3 : Int32) ≤ nI k from nI_ge (b := 3) (by omega) (by omega)), ix_3, if_pos (ib_nI (by omega) (by omega)), nI_clamp (by omega), w6 k (by omega), hu, nI_1]
      simp only [nm_k]
      have hb := bk_lt _ hi1 k (by omega)
      have skip : (∀ x, x < 8 → bk_n (is t) k = 2 ^ x → ¬ mo_c df jo sp is os rg p t x) → ∀ u2, fr_m u u2 → ∃ r u', lp_Md_isLast_14 F (nI t) (nI (is t &&& p)) (fun (v3_8 : Int32) (u9 : St) => (some ((1 : Int32), u9))) n (nI (k + 1)) u2 = some (r, u') ∧ fr_m u u' ∧ ((r = 0 ∧ ∃ x, x < 8 ∧ mo_c df jo sp is os rg p t x) ∨ (r = 1 ∧ ∀ x k', k ≤ k' → k' < 3 → x < 8 → bk_n (is t) k' = 2 ^ x → ¬ mo_c df jo sp is os rg p t x)) := fun hno u2 hf => by
        obtain ⟨r, u', g1, g2, g3⟩ := ih (k + 1) u2 (by omega) (by omega) (H.1 _ _ hf hW) (by rw [hf.1 0 16 (by omega) (Or.inr (by omega))]; exact hu)
        refine ⟨r, u', g1, fr_m_tr hf g2, g3.elim Or.inl (fun ⟨a, b⟩ => Or.inr ⟨a, fun x k' h1 h2 h3 h4 => ?_⟩)⟩
        by_cases ek : k' = k
        · subst ek; exact hno x h3 h4
        · exact b x k' (by omega) h2 h3 h4
      by_cases h0 : bk_n (is t) k = 0
      · rw [if_pos ((nI_z (by omega)).mpr h0)]
        refine skip (fun x _ e => ?_) u (fr_m_rf u)
        rw [h0] at e
        have := Nat.two_pow_pos x
        omega
      · rw [if_neg (fun e => h0 ((nI_z (by omega)).mp e))]
        obtain ⟨c, hc8, hbc, ebk⟩ := f1 k (by omega) h0
        have inj : ∀ x, bk_n (is t) k = 2 ^ x → x = c := fun x e => by
          rw [ebk] at e
          have h := Nat.testBit_two_pow_self (n := x)
          rw [← e, Nat.testBit_two_pow, decide_eq_true_eq] at h
          exact h.symm
        have hle : is t &&& p ≤ is t := Nat.and_le_left
        have hle2 : (is t &&& p) &&& bk_n (is t) k ≤ is t &&& p := Nat.and_le_left
        rw [nx_and, nx_or]
        by_cases hm : (is t &&& p) &&& bk_n (is t) k = 0
        · rw [if_pos ((nI_z (by omega)).mpr hm)]
          have hpc : p.testBit c = false := by
            rw [mk_dis] at hm
            cases hx : p.testBit c with
            | false => rfl
            | true =>
              have := hm c (by rw [Nat.testBit_and, hbc, hx]; rfl)
              rw [ebk, Nat.testBit_two_pow_self] at this
              exact this
          obtain ⟨r, u', c1, c2, c3⟩ := bq_search H hF (nI t) hW (fm := p) (target := (is t &&& p) ||| bk_n (is t) k) hp (by
            have : (is t &&& p) ||| bk_n (is t) k < 16384 := or_lt14 (by omega) (by omega)
            omega)
          rw [c1, cl_some]
          rw [st_eq hD (nI t), Nat.and_comm (is t) p, ebk] at c3
          rcases c3 with ⟨e, hcov⟩ | ⟨e, hno, _⟩
          · rw [e, if_neg (show ¬ (1 : Int32) = 0 from by decide)]
            exact ⟨0, u', rfl, c2, Or.inl ⟨rfl, c, hc8, hbc, hpc, hcov⟩⟩
          · rw [e, if_pos rfl]
            refine skip (fun x _ ex h => ?_) u' c2
            have := inj x ex
            subst this
            exact hno h.2.2
        · rw [if_neg (fun e => hm ((nI_z (by omega)).mp e))]
          refine skip (fun x _ ex h => ?_) u (fr_m_rf u)
          have := inj x ex
          subst this
          apply hm
          rw [mk_dis]
          intro i hi
          rw [ebk, Nat.testBit_two_pow]
          refine decide_eq_false (fun e => ?_)
          subst e
          rw [Nat.testBit_and, h.2.1, Bool.and_false] at hi
          cases hi
end MORE
