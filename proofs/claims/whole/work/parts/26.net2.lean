theorem tp_lt {t : Nat} (ht : t < 6) : 2 ^ (8 + t) < 16384 := by
  have : 2 ^ (8 + t) ≤ 2 ^ 13 := Nat.pow_le_pow_right (by omega) (by omega)
  omega
theorem or_lt14 {a b : Nat} (ha : a < 16384) (hb : b < 16384) : a ||| b < 16384 := Nat.or_lt_two_pow (n := 14) ha hb
theorem nd_lt14 {a b : Nat} (ha : a < 16384) : mk_nd a b < 16384 := mk_nd_lt (n := 14) ha
theorem nI_z {a : Nat} (h : a < 2 ^ 31) : nI a = 0 ↔ a = 0 := nI_eq (b := 0) h (by decide)
section NET
variable {df : Nat → Bool} {cr nt : Nat → Nat} {tk : Nat → Nat → Nat} {np : Nat → Nat} {pt : Nat → Nat → Nat} {wo : Int32} {target : Nat} {Dr : Nat → Bool}
def pr_E (cr : Nat → Nat) (np : Nat → Nat) (pt : Nat → Nat → Nat) (nd t : Nat) (C : Nat → Bool) (j : Nat) : Prop := mk_nd nd (pt t j) ≠ nd → mk_nd nd (pt t j) &&& (cr t ||| 2 ^ (8 + t)) = 0 → C (mk_nd nd (pt t j) ||| 2 ^ (8 + t)) = true
def pr_B (tk : Nat → Nat → Nat) (nd t : Nat) (C : Nat → Bool) (j : Nat) : Prop := mk_nd nd (2 ^ (8 + t)) ≠ nd → mk_nd nd (2 ^ (8 + t)) &&& tk t j = 0 → C (mk_nd nd (2 ^ (8 + t)) ||| tk t j) = true
theorem cv_gbE {F t nd : Nat} (k : Int32 → St → Option (Int32 × St)) (ht : t < 6) (hd : df t = true) (hw : ¬ nI t = wo) (hnd : nd < 16384) (hcv : mv_cov (nw_st wo df cr nt tk np pt) nd target) (hF : 300 < F) : ∀ (n i : Nat) (u : St) (C O : Nat → Bool), i ≤ np t → np t - i < n → cv_I df cr nt tk np pt wo target Dr u C O → ∃ u' C' O', lp_Net_goBackBeforeEnd_13 F t (nI nd) (nI (cr t ||| 2 ^ (8 + t))) k n (nI i) u = k (nI (np t)) u' ∧ fr_s u u' ∧ cv_I df cr nt tk np pt wo target Dr u' C' O' ∧ (∀ y, C y = true → C' y = true) ∧ ∀ j, i ≤ j → j < np t → pr_E cr np pt nd t C' j := by
  intro n
  induction n with
  | zero => intro i u C O _ h; omega
  | succ n ih =>
    intro i u C O hi hn h
    obtain ⟨e0, -, e2⟩ := h.1 t ht
    obtain ⟨⟨ecr, lcr⟩, -, enp, lnp, hpt⟩ := e2 hd
    rw [lp_Net_goBackBeforeEnd_13, enp]
    by_cases hc : i = np t
    · subst hc
      rw [if_pos (nI_le (Nat.le_refl _) (by omega))]
      exact ⟨u, C, O, rfl, fr_s_rf u, h, fun _ h => h, fun j h1 h2 => by omega⟩
    · obtain ⟨ept, lpt⟩ := hpt i (by omega)
      rw [if_neg (nI_ge (by omega) (by omega)), if_pos (ib_nI (by omega) (by omega)), nI_clamp (by omega), ept]
      simp only [nm_k]
      rw [nx_nd, nI_1, nx_and, e0, nx_or]
      have l1 : mk_nd nd (pt t i) < 16384 := nd_lt14 hnd
      have l2 : mk_nd nd (pt t i) &&& (cr t ||| 2 ^ (8 + t)) < 16384 := Nat.lt_of_le_of_lt Nat.and_le_left l1
      by_cases c1 : mk_nd nd (pt t i) = nd
      · rw [if_pos (by rw [c1])]
        obtain ⟨u', C', O', g1, g2, g3, g4, g5⟩ := ih (i + 1) u C O (by omega) (by omega) h
        refine ⟨u', C', O', g1, g2, g3, g4, fun j h1 h2 => ?_⟩
        by_cases hj : j = i
        · subst hj; exact fun h => absurd c1 h
        · exact g5 j (by omega) h2
      · rw [if_neg (fun e => c1 ((nI_eq (by omega) (by omega)).mp e))]
        by_cases c2 : mk_nd nd (pt t i) &&& (cr t ||| 2 ^ (8 + t)) = 0
        · rw [if_pos ((nI_z (by omega)).mpr c2)]
          have lx : mk_nd nd (pt t i) ||| 2 ^ (8 + t) < 16384 := or_lt14 l1 (tp_lt ht)
          obtain ⟨m', hm1, hm2⟩ := mv_end_suf (need := nd) (p := 2 ^ (8 + t)) (c := cr t) (b := pt t i) (m := mk_nd nd (pt t i) ||| 2 ^ (8 + t)) ⟨8 + t, Nat.testBit_two_pow_self⟩ c2 (mk_sub_rf _)
          have hcx : mv_cov (nw_st wo df cr nt tk np pt) (mk_nd nd (pt t i) ||| 2 ^ (8 + t)) target := mv_cov_step ⟨t, ⟨ht, hd, hw⟩, Or.inr ⟨pt t i, ⟨i, by omega, rfl⟩, hm1⟩⟩ (mv_cov_mono hm2 hcv)
          obtain ⟨u1, C1, O1, a1, a2, a3, a4, a5⟩ := cv_need h lx hcx hF
          rw [a1]
          simp only [cl_k]
          obtain ⟨u', C', O', g1, g2, g3, g4, g5⟩ := ih (i + 1) u1 C1 O1 (by omega) (by omega) a3
          refine ⟨u', C', O', g1, fr_s_tr a2 g2, g3, fun y hy => g4 y (a4 y hy), fun j h1 h2 => ?_⟩
          by_cases hj : j = i
          · subst hj; exact fun _ _ => g4 _ a5
          · exact g5 j (by omega) h2
        · rw [if_neg (fun e => c2 ((nI_z (by omega)).mp e))]
          obtain ⟨u', C', O', g1, g2, g3, g4, g5⟩ := ih (i + 1) u C O (by omega) (by omega) h
          refine ⟨u', C', O', g1, g2, g3, g4, fun j h1 h2 => ?_⟩
          by_cases hj : j = i
          · subst hj; exact fun _ h => absurd h c2
          · exact g5 j (by omega) h2
theorem cv_gbB {F t nd : Nat} (k : Int32 → St → Option (Int32 × St)) (ht : t < 6) (hd : df t = true) (hw : ¬ nI t = wo) (hnd : nd < 16384) (hcv : mv_cov (nw_st wo df cr nt tk np pt) nd target) (hF : 300 < F) : ∀ (n i : Nat) (u : St) (C O : Nat → Bool), i ≤ nt t → nt t - i < n → cv_I df cr nt tk np pt wo target Dr u C O → ∃ u' C' O', lp_Net_goBackBeforeBegin_18 F t (nI nd) (nI (mk_nd nd (2 ^ (8 + t)))) k n (nI i) u = k (nI (nt t)) u' ∧ fr_s u u' ∧ cv_I df cr nt tk np pt wo target Dr u' C' O' ∧ (∀ y, C y = true → C' y = true) ∧ ∀ j, i ≤ j → j < nt t → pr_B tk nd t C' j := by
  intro n
  induction n with
  | zero => intro i u C O _ h; omega
  | succ n ih =>
    intro i u C O hi hn h
    obtain ⟨e0, -, e2⟩ := h.1 t ht
    obtain ⟨-, ⟨ent, lnt, htk⟩, -⟩ := e2 hd
    rw [lp_Net_goBackBeforeBegin_18, ent]
    by_cases hc : i = nt t
    · subst hc
      rw [if_pos (nI_le (Nat.le_refl _) (by omega))]
      exact ⟨u, C, O, rfl, fr_s_rf u, h, fun _ h => h, fun j h1 h2 => by omega⟩
    · obtain ⟨etk, ltk⟩ := htk i (by omega)
      rw [if_neg (nI_ge (by omega) (by omega)), if_pos (ib_nI (by omega) (by omega)), nI_clamp (by omega), etk, nI_1, nx_and, nx_or]
      have l1 : mk_nd nd (2 ^ (8 + t)) < 16384 := nd_lt14 hnd
      have l2 : mk_nd nd (2 ^ (8 + t)) &&& tk t i < 16384 := Nat.lt_of_le_of_lt Nat.and_le_left l1
      by_cases c2 : mk_nd nd (2 ^ (8 + t)) &&& tk t i = 0
      · rw [if_pos ((nI_z (by omega)).mpr c2), if_pos (ib_nI (by omega) (by omega))]
        have lx : mk_nd nd (2 ^ (8 + t)) ||| tk t i < 16384 := or_lt14 l1 (by omega)
        obtain ⟨m', hm1, hm2⟩ := mv_beg_suf (need := nd) (p := 2 ^ (8 + t)) (a := tk t i) (m := mk_nd nd (2 ^ (8 + t)) ||| tk t i) c2 (mk_sub_rf _)
        have hcx : mv_cov (nw_st wo df cr nt tk np pt) (mk_nd nd (2 ^ (8 + t)) ||| tk t i) target := mv_cov_step ⟨t, ⟨ht, hd, hw⟩, Or.inl ⟨tk t i, ⟨i, by omega, rfl⟩, hm1⟩⟩ (mv_cov_mono hm2 hcv)
        obtain ⟨u1, C1, O1, a1, a2, a3, a4, a5⟩ := cv_need h lx hcx hF
        rw [a1]
        simp only [cl_k]
        obtain ⟨u', C', O', g1, g2, g3, g4, g5⟩ := ih (i + 1) u1 C1 O1 (by omega) (by omega) a3
        refine ⟨u', C', O', g1, fr_s_tr a2 g2, g3, fun y hy => g4 y (a4 y hy), fun j h1 h2 => ?_⟩
        by_cases hj : j = i
        · subst hj; exact fun _ _ => g4 _ a5
        · exact g5 j (by omega) h2
      · rw [if_neg (fun e => c2 ((nI_z (by omega)).mp e))]
        obtain ⟨u', C', O', g1, g2, g3, g4, g5⟩ := ih (i + 1) u C O (by omega) (by omega) h
        refine ⟨u', C', O', g1, g2, g3, g4, fun j h1 h2 => ?_⟩
        by_cases hj : j = i
        · subst hj; exact fun _ h => absurd h c2
        · exact g5 j (by omega) h2
theorem cv_spE {F t nd : Nat} {u : St} {C O : Nat → Bool} (ht : t < 6) (hd : df t = true) (hw : ¬ nI t = wo) (hnd : nd < 16384) (hcv : mv_cov (nw_st wo df cr nt tk np pt) nd target) (hF : 300 < F) (h : cv_I df cr nt tk np pt wo target Dr u C O) : ∃ u' C' O', sp_Net_goBackBeforeEnd F t (nI nd) u = some (0, u') ∧ fr_s u u' ∧ cv_I df cr nt tk np pt wo target Dr u' C' O' ∧ (∀ y, C y = true → C' y = true) ∧ ∀ j, j < np t → pr_E cr np pt nd t C' j := by
  obtain ⟨e0, -, e2⟩ := h.1 t ht
  obtain ⟨⟨ecr, lcr⟩, -, enp, lnp, hpt⟩ := e2 hd
  obtain ⟨u', C', O', g1, g2, g3, g4, g5⟩ := cv_gbE (fun (v4_7 : Int32) (u8 : St) => (some ((0 : Int32), u8))) ht hd hw hnd hcv hF F 0 u C O (by omega) (by omega) h
  refine ⟨u', C', O', ?_, g2, g3, g4, fun j hj => g5 j (by omega) hj⟩
  unfold sp_Net_goBackBeforeEnd
  simp only [nm_k]
  rw [ecr, e0, nx_or]
  exact g1
theorem cv_spB {F t nd : Nat} {u : St} {C O : Nat → Bool} (ht : t < 6) (hd : df t = true) (hw : ¬ nI t = wo) (hnd : nd < 16384) (hcv : mv_cov (nw_st wo df cr nt tk np pt) nd target) (hF : 300 < F) (h : cv_I df cr nt tk np pt wo target Dr u C O) : ∃ u' C' O', sp_Net_goBackBeforeBegin F t (nI nd) u = some (0, u') ∧ fr_s u u' ∧ cv_I df cr nt tk np pt wo target Dr u' C' O' ∧ (∀ y, C y = true → C' y = true) ∧ ∀ j, j < nt t → pr_B tk nd t C' j := by
  obtain ⟨e0, -, e2⟩ := h.1 t ht
  obtain ⟨-, ⟨ent, lnt, htk⟩, -⟩ := e2 hd
  have l1 : mk_nd nd (2 ^ (8 + t)) < 16384 := nd_lt14 hnd
  unfold sp_Net_goBackBeforeBegin
  simp only [nm_k]
  rw [e0, nx_nd]
  by_cases c1 : mk_nd nd (2 ^ (8 + t)) = nd
  · rw [if_pos (by rw [c1])]
    exact ⟨u, C, O, rfl, fr_s_rf u, h, fun _ h => h, fun j _ h => absurd c1 h⟩
  · rw [if_neg (fun e => c1 ((nI_eq (by omega) (by omega)).mp e))]
    obtain ⟨u', C', O', g1, g2, g3, g4, g5⟩ := cv_gbB (fun (v4_7 : Int32) (u8 : St) => (some ((0 : Int32), u8))) ht hd hw hnd hcv hF F 0 u C O (by omega) (by omega) h
    exact ⟨u', C', O', g1, g2, g3, g4, fun j hj => g5 j (by omega) hj⟩
def pr_T (cr nt : Nat → Nat) (tk : Nat → Nat → Nat) (np : Nat → Nat) (pt : Nat → Nat → Nat) (nd t : Nat) (C : Nat → Bool) : Prop := (∀ j, j < np t → pr_E cr np pt nd t C j) ∧ ∀ j, j < nt t → pr_B tk nd t C j
theorem pr_T_mono {nd t : Nat} {C C' : Nat → Bool} (h : pr_T cr nt tk np pt nd t C) (hm : ∀ y, C y = true → C' y = true) : pr_T cr nt tk np pt nd t C' := ⟨fun j hj h1 h2 => hm _ (h.1 j hj h1 h2), fun j hj h1 h2 => hm _ (h.2 j hj h1 h2)⟩
theorem cv_t {F nd : Nat} (v1 v2 v4 : Int32) (k : Int32 → St → Option (Int32 × St)) (hnd : nd < 16384) (hcv : mv_cov (nw_st wo df cr nt tk np pt) nd target) (hF : 300 < F) : ∀ (n i : Nat) (u : St) (C O : Nat → Bool), i ≤ 6 → 6 - i < n → cv_I df cr nt tk np pt wo target Dr u C O → ∃ u' C' O', lp_Net_findCovering_60 F v1 v2 wo v4 (nI nd) k n (nI i) u = k (nI 6) u' ∧ fr_s u u' ∧ cv_I df cr nt tk np pt wo target Dr u' C' O' ∧ (∀ y, C y = true → C' y = true) ∧ ∀ t, i ≤ t → t < 6 → df t = true → ¬ nI t = wo → pr_T cr nt tk np pt nd t C' := by
  intro n
  induction n with
  | zero => intro i u C O _ h; omega
  | succ n ih =>
    intro i u C O hi hn h
    rw [lp_Net_findCovering_60]
    by_cases hc : i = 6
    · subst hc
      rw [if_pos (show (6 : Int32) ≤ nI 6 from by decide)]
      exact ⟨u, C, O, rfl, fr_s_rf u, h, fun _ h => h, fun t h1 h2 => by omega⟩
    · rw [if_neg (show ¬ (6 : Int32) ≤ nI i from nI_ge (b := 6) (by omega) (by omega)), nI_1]
      have skip : (¬ (df i = true ∧ ¬ nI i = wo)) → ∃ u' C' O', lp_Net_findCovering_60 F v1 v2 wo v4 (nI nd) k n (nI (i + 1)) u = k (nI 6) u' ∧ fr_s u u' ∧ cv_I df cr nt tk np pt wo target Dr u' C' O' ∧ (∀ y, C y = true → C' y = true) ∧ ∀ t, i ≤ t → t < 6 → df t = true → ¬ nI t = wo → pr_T cr nt tk np pt nd t C' := fun hno => by
        obtain ⟨u', C', O', g1, g2, g3, g4, g5⟩ := ih (i + 1) u C O (by omega) (by omega) h
        refine ⟨u', C', O', g1, g2, g3, g4, fun t h1 h2 h3 h4 => ?_⟩
        by_cases hj : t = i
        · subst hj; exact absurd ⟨h3, h4⟩ hno
        · exact g5 t (by omega) h2 h3 h4
      by_cases c1 : nI i = wo
      · rw [if_pos c1]
        exact skip (fun h => h.2 c1)
      · rw [if_neg c1, if_pos (ib_nI (by omega) (by omega)), nI_clamp (by omega)]
        obtain ⟨e0, e1, e2⟩ := h.1 i (by omega)
        rw [e1]
        by_cases c2 : df i = true
        · rw [if_pos c2, if_neg (by decide), if_pos (ib_nI (by omega) (by omega))]
          obtain ⟨u1, C1, O1, a1, a2, a3, a4, a5⟩ := cv_spE (by omega) c2 c1 hnd hcv hF h
          rw [a1]
          simp only [cl_k]
          rw [if_pos (ib_nI (by omega) (by omega))]
          obtain ⟨u2, C2, O2, b1, b2, b3, b4, b5⟩ := cv_spB (by omega) c2 c1 hnd hcv hF a3
          rw [b1]
          simp only []
          obtain ⟨u', C', O', g1, g2, g3, g4, g5⟩ := ih (i + 1) u2 C2 O2 (by omega) (by omega) b3
          refine ⟨u', C', O', g1, fr_s_tr a2 (fr_s_tr b2 g2), g3, fun y hy => g4 y (b4 y (a4 y hy)), fun t h1 h2 h3 h4 => ?_⟩
          by_cases hj : t = i
          · subst hj
            exact pr_T_mono ⟨fun j hj h1 h2 => b4 _ (a5 j hj h1 h2), b5⟩ g4
          · exact g5 t (by omega) h2 h3 h4
        · rw [if_neg c2, if_pos rfl]
          exact skip (fun h => c2 h.1)
end NET
