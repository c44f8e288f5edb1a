section ENDS
variable {MW : St → Prop} {df : Nat → Bool} {af : Nat → Nat → Nat → Option Nat} {F : Nat}
theorem ae_29 (H : af_ok MW df af F) (hMg : ∀ u u', fr_g u u' → MW u → MW u') (hF : 16500 < F) {c : Nat} {S : Nat → Bool} {qm : Nat → Nat} (hc : c ≤ 16384) (k : Int32 → Int32 → St → Option (Int32 × St)) : ∀ (n : Nat) (u : St), mk_cn (fun x => S x && !ms_in u 22 x) 16384 + 1 < n → MW u → u.1 0 26 = nI c → (∀ j, j < c → u.1 22 j = nI (qm j) ∧ qm j < 16384 ∧ S (qm j) = true) → (∀ x, x < 16384 → ms_in u 22 x = true → mv_cov (af_st df af (-1)) x 2) → ∃ z u', lp_Md_allEnd_29 F k n (nI (mk_cn (fun x => S x && !ms_in u 22 x) 16384)) (1 : Int32) u = k (nI (mk_cn (fun x => S x && !ms_in u' 22 x) 16384)) z u' ∧ fr_g u u' ∧ (∀ x, x < 16384 → ms_in u' 22 x = true → mv_cov (af_st df af (-1)) x 2) ∧ ∀ j, j < c → ms_in u' 22 (qm j) = true ∨ (qm j &&& 2 = 0 ∧ ∀ y, af_st df af (-1) (qm j) y → ms_in u' 22 y = false) := by
  intro n
  induction n with
  | zero => intro u h; omega
  | succ n ih =>
    intro u hn hW hu hq hsd
    rw [lp_Md_allEnd_29, if_neg (by decide)]
    simp only [nm_k]
    rw [hu]
    obtain ⟨z, u', mo', g1, g2, g3, g4, g5⟩ := ae_42 H hMg (by omega) (c := c) (S := S) (qm := qm) hc (fun (v1_21 : Int32) (v2_22 : Int32) (v3_23 : Int32) (u24 : St) => (lp_Md_allEnd_29 F k n v1_21 v2_22 u24)) F c u false (Nat.le_refl _) (by omega) hW hq hsd
    have g1 : lp_Md_allEnd_42 F _ F (nI (mk_cn (fun x => S x && !ms_in u 22 x) 16384)) (0 : Int32) (nI c - 1) u = _ := g1
    rw [g1]
    rcases g5 with ⟨a, b, d⟩ | ⟨a, b⟩
    · subst a; subst b
      obtain ⟨n', rfl⟩ : ∃ n', n = n' + 1 := ⟨n - 1, by omega⟩
      refine ⟨0, u', ?_, fr_g_rf u', hsd, d⟩
      rw [lp_Md_allEnd_29]
      exact if_pos rfl
    · subst a
      obtain ⟨z', u2, h1, h2, h3, h4⟩ := ih u' (by omega) (hMg _ _ g2 hW) (by rw [g2.1]; exact hu) (by rw [g2.1]; exact hq) g3
      exact ⟨z', u2, h1, fr_g_tr g2 h2, h3, h4⟩
theorem ae_fill (F : Nat) (k : Int32 → St → Option (Int32 × St)) : ∀ (n i : Nat) (u : St), i ≤ 256 → 256 - i < n → lp_Md_allEnd_2 F k n (nI i) u = k (nI 256) (ms_fl u 22 i 0) := by
  intro n
  induction n with
  | zero => intro i u _ h; omega
  | succ n ih =>
    intro i u hi hn
    rw [lp_Md_allEnd_2]
    by_cases h : i = 256
    · subst h
      rw [if_pos (show (256 : Int32) ≤ nI 256 from by decide), ms_fl_end]
    · rw [if_neg (show ¬ (256 : Int32) ≤ nI i from nI_ge (b := 256) (by omega) (by omega)), if_pos (ib_nI (by omega) (by omega)), nI_clamp (by omega)]
      simp only [nm_k]
      rw [nI_1, ih (i + 1) _ (by omega) (by omega)]
      rw [show ly_pl u 23 i 0 = ly_pl u (22 + 1) i 0 from rfl, ms_fl_step u 22 i 0 (by omega)]
theorem ae_all (H : af_ok MW df af F) (hMg : ∀ u u', fr_g u u' → MW u → MW u') (hF : 16500 < F) {u : St} {c : Nat} {S : Nat → Bool} {qm : Nat → Nat} (hW : MW u) (hq : bq_I u S c qm) (hS : ∀ x y, x < 16384 → S x = true → af_st df af (-1) x y → S y = true) : ∃ r u', sp_Md_allEnd F u = some (r, u') ∧ fr_g u u' ∧ ((r = 1 ∧ ∀ x, x < 16384 → S x = true → mv_cov (af_st df af (-1)) x 2) ∨ (r = 0 ∧ ∃ x, x < 16384 ∧ S x = true ∧ ¬ mv_cov (af_st df af (-1)) x 2)) := by
  obtain ⟨h1, h2, h3, h4, h5⟩ := hq
  have hcl := mk_cn_le S 16384
  unfold sp_Md_allEnd
  have e := ae_fill F (fun (v1_3 : Int32) (u4 : St) => (nm_k (u4.1 (0) 26) (fun v1_5 => (lp_Md_allEnd_29 F (fun (v1_25 : Int32) (v2_26 : Int32) (u27 : St) => (if v1_25 = 0 then (some ((1 : Int32), u27)) else (some ((0 : Int32), u27)))) F v1_5 (1 : Int32) u4)))) F 0 u (by omega) (by omega)
  have e : lp_Md_allEnd_2 F _ F (0 : Int32) u = _ := e
  rw [e]
  simp only [nm_k]
  have hfr0 : fr_g u (ms_fl u 22 0 0) := ⟨rfl, fun k hk => va_up_ne _ _ hk⟩
  have hz : ∀ x, x < 16384 → ms_in (ms_fl u 22 0 0) 22 x = false := fun x hx => by
    unfold ms_in ms_fl
    simp only [va_up_self]
    rw [if_pos (by omega)]
    simp
  have hL : mk_cn (fun x => S x && !ms_in (ms_fl u 22 0 0) 22 x) 16384 = c := by
    rw [h3]
    exact mk_cn_eq 16384 (fun x hx => by rw [hz x hx]; simp)
  have hu26 : (ms_fl u 22 0 0).1 0 26 = nI c := h2
  rw [hu26]
  obtain ⟨z, u', g1, g2, g3, g4⟩ := ae_29 H hMg hF (c := c) (S := S) (qm := qm) (by omega) (fun (v1_25 : Int32) (v2_26 : Int32) (u27 : St) => (if v1_25 = 0 then (some ((1 : Int32), u27)) else (some ((0 : Int32), u27)))) F (ms_fl u 22 0 0) (by rw [hL]; omega) (hMg _ _ hfr0 hW) hu26 h4 (fun x hx hg => by rw [hz x hx] at hg; cases hg)
  rw [hL] at g1
  rw [g1]
  have hlt : ∀ m m', m < 16384 → af_st df af (-1) m m' → m' < 16384 := fun m m' hm ⟨t, a1, a2, a3, k, a4, a5⟩ => H.2.2.2 m t k m' hm a1 a2 a4 a5
  have hle := mk_cn_le (fun x => S x && !ms_in u' 22 x) 16384
  have hcomp : ∀ x, x < 16384 → S x = true → mv_cov (af_st df af (-1)) x 2 → ms_in u' 22 x = true := fun x hx hSx hc => by
    refine mv_back (C := fun m => m < 16384 → S m = true → ms_in u' 22 m = true) (target := 2) (fun m hs hm hSm => ?_) (fun m m' hst hP hm hSm => ?_) x hc hx hSx
    · obtain ⟨j, hj, ej⟩ := h5 m hm hSm
      subst ej
      rcases g4 j hj with h | ⟨h, _⟩
      · exact h
      · exfalso
        have := mk_sub_and.mpr hs
        rw [h] at this
        cases this
    · have hm' := hlt m m' hm hst
      have hSm' := hS m m' hm hSm hst
      obtain ⟨j, hj, ej⟩ := h5 m hm hSm
      subst ej
      rcases g4 j hj with h | ⟨_, h⟩
      · exact h
      · exfalso
        have := h m' hst
        rw [hP hm' hSm'] at this
        cases this
  by_cases hz0 : mk_cn (fun x => S x && !ms_in u' 22 x) 16384 = 0
  · rw [if_pos ((nI_z (by omega)).mpr hz0)]
    refine ⟨1, u', rfl, fr_g_tr hfr0 g2, Or.inl ⟨rfl, fun x hx hSx => g3 x hx ?_⟩⟩
    have := (mk_cn_0 16384).mp hz0 x hx
    simp only [hSx, Bool.true_and] at this
    simpa using this
  · rw [if_neg (fun e => hz0 ((nI_z (by omega)).mp e))]
    refine ⟨0, u', rfl, fr_g_tr hfr0 g2, Or.inr ⟨rfl, ?_⟩⟩
    apply Classical.byContradiction
    intro hno
    apply hz0
    rw [mk_cn_0]
    intro x hx
    cases hSx : S x with
    | false => rfl
    | true =>
      have : ms_in u' 22 x = true := by
        apply hcomp x hx hSx
        apply Classical.byContradiction
        intro hc
        exact hno ⟨x, hx, hSx, hc⟩
      rw [this]; rfl
end ENDS
