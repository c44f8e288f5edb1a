section MDS
variable {MW : St → Prop} {df : Nat → Bool} {af : Nat → Nat → Nat → Option Nat} {F : Nat}
def af_v (o : Option Nat) : Int32 := match o with
  | some m' => nI m'
  | none => -1
/-- what the reference's moves are, wherever its net is MW -/
def af_ok (MW : St → Prop) (df : Nat → Bool) (af : Nat → Nat → Nat → Option Nat) (F : Nat) : Prop := (∀ u u', fr_m u u' → MW u → MW u') ∧ (∀ u, MW u → ∀ t, t < 6 → u.1 1 t = (if df t = true then 1 else 0)) ∧ (∀ u, MW u → ∀ m t k, m < 16384 → t < 6 → df t = true → k < 10 → sp_Md_after F (nI m) (nI t) (nI k) u = some (af_v (af m t k), u)) ∧ ∀ m t k m', m < 16384 → t < 6 → df t = true → k < 10 → af m t k = some m' → m' < 16384
def af_st (df : Nat → Bool) (af : Nat → Nat → Nat → Option Nat) (wo : Int32) (m m' : Nat) : Prop := ∃ t, t < 6 ∧ df t = true ∧ ¬ nI t = wo ∧ ∃ k, k < 10 ∧ af m t k = some m'
theorem bq_79 (H : af_ok MW df af F) (v1 v2 v4 wo : Int32) (kk : Int32 → St → Option (Int32 × St)) {m t : Nat} (hm : m < 16384) (ht : t < 6) : ∀ (n i : Nat) (u : St) (S : Nat → Bool) (c : Nat) (qm : Nat → Nat), i ≤ 10 → 10 - i < n → MW u → bq_I u S c qm → ∃ z u' S' c' qm', lp_Md_search_79 F v1 v2 wo v4 (nI m) (nI t) kk n (nI i) u = kk z u' ∧ fr_m u u' ∧ bq_I u' S' c' qm' ∧ c ≤ c' ∧ (∀ j, j < c → qm' j = qm j) ∧ (∀ y, S y = true → S' y = true) ∧ (df t = true → ¬ nI t = wo → ∀ k, i ≤ k → k < 10 → ∀ m', af m t k = some m' → S' m' = true) ∧ ∀ y, S' y = true → S y = true ∨ af_st df af wo m y := by
  obtain ⟨H1, H2, H3, H4⟩ := H
  intro n
  induction n with
  | zero => intro i u S c qm _ h; omega
  | succ n ih =>
    intro i u S c qm hi hn hW hq
    rw [lp_Md_search_79]
    by_cases hc : i = 10
    · subst hc
      rw [if_pos (show (10 : Int32) ≤ nI 10 from by decide)]
      exact ⟨_, u, S, c, qm, rfl, fr_m_rf u, hq, Nat.le_refl _, fun _ _ => rfl, fun _ h => h, fun _ _ k h1 h2 => by omega, fun _ h => Or.inl h⟩
    · rw [if_neg (show ¬ (10 : Int32) ≤ nI i from nI_ge (b := 10) (by omega) (by omega)), if_pos (ib_nI ht (by omega)), nI_clamp (by omega), H2 u hW t ht]
      by_cases hd : df t = true
      · rw [if_pos hd, if_neg (by decide)]
        by_cases hw : nI t = wo
        · rw [if_pos hw]
          exact ⟨_, u, S, c, qm, rfl, fr_m_rf u, hq, Nat.le_refl _, fun _ _ => rfl, fun _ h => h, fun _ h => absurd hw h, fun _ h => Or.inl h⟩
        · rw [if_neg hw, H3 u hW m t i hm ht hd (by omega), cl_some, nI_1]
          cases ha : af m t i with
          | none =>
            rw [if_pos (show af_v none < 0 from by decide)]
            obtain ⟨z, u', S', c', qm', g1, g2, g3, g4, g5, g6, g7, g8⟩ := ih (i + 1) u S c qm (by omega) (by omega) hW hq
            refine ⟨z, u', S', c', qm', g1, g2, g3, g4, g5, g6, fun h1 h2 k h3 h4 m' h5 => ?_, g8⟩
            by_cases hk : k = i
            · subst hk; rw [ha] at h5; cases h5
            · exact g7 h1 h2 k (by omega) h4 m' h5
          | some x =>
            have hx := H4 m t i x hm ht hd (by omega) ha
            rw [if_neg (show ¬ af_v (some x) < 0 from nI_pos (by omega))]
            obtain ⟨u1, S1, c1, qm1, a1, a2, a3, a4, a5, a6, a7, a8⟩ := bq_meet hq hx
            rw [show af_v (some x) = nI x from rfl, a1, cl_some]
            obtain ⟨z, u', S', c', qm', g1, g2, g3, g4, g5, g6, g7, g8⟩ := ih (i + 1) u1 S1 c1 qm1 (by omega) (by omega) (H1 _ _ a2 hW) a3
            refine ⟨z, u', S', c', qm', g1, fr_m_tr a2 g2, g3, by omega, fun j hj => by rw [g5 j (by omega), a5 j hj], fun y hy => g6 y (a6 y hy), fun h1 h2 k h3 h4 m' h5 => ?_, fun y hy => ?_⟩
            · by_cases hk : k = i
              · subst hk; rw [ha] at h5; cases h5; exact g6 _ a7
              · exact g7 h1 h2 k (by omega) h4 m' h5
            · rcases g8 y hy with h | h
              · rcases a8 y h with h | h
                · exact Or.inl h
                · subst h; exact Or.inr ⟨t, ht, hd, hw, i, by omega, ha⟩
              · exact Or.inr h
      · rw [if_neg hd, if_pos rfl]
        exact ⟨_, u, S, c, qm, rfl, fr_m_rf u, hq, Nat.le_refl _, fun _ _ => rfl, fun _ h => h, fun h => absurd h hd, fun _ h => Or.inl h⟩
theorem bq_69 (H : af_ok MW df af F) (hF : 20 < F) (v1 v2 v4 wo : Int32) (kk : Int32 → St → Option (Int32 × St)) {m : Nat} (hm : m < 16384) : ∀ (n i : Nat) (u : St) (S : Nat → Bool) (c : Nat) (qm : Nat → Nat), i ≤ 6 → 6 - i < n → MW u → bq_I u S c qm → ∃ z u' S' c' qm', lp_Md_search_69 F v1 v2 wo v4 (nI m) kk n (nI i) u = kk z u' ∧ fr_m u u' ∧ bq_I u' S' c' qm' ∧ c ≤ c' ∧ (∀ j, j < c → qm' j = qm j) ∧ (∀ y, S y = true → S' y = true) ∧ (∀ t, i ≤ t → t < 6 → df t = true → ¬ nI t = wo → ∀ k, k < 10 → ∀ m', af m t k = some m' → S' m' = true) ∧ ∀ y, S' y = true → S y = true ∨ af_st df af wo m y := by
  intro n
  induction n with
  | zero => intro i u S c qm _ h; omega
  | succ n ih =>
    intro i u S c qm hi hn hW hq
    rw [lp_Md_search_69]
    by_cases hc : i = 6
    · subst hc
      rw [if_pos (show (6 : Int32) ≤ nI 6 from by decide)]
      exact ⟨_, u, S, c, qm, rfl, fr_m_rf u, hq, Nat.le_refl _, fun _ _ => rfl, fun _ h => h, fun t h1 h2 => by omega, fun _ h => Or.inl h⟩
    · rw [if_neg (show ¬ (6 : Int32) ≤ nI i from nI_ge (b := 6) (by omega) (by omega))]
      obtain ⟨z1, u1, S1, c1, qm1, a1, a2, a3, a4, a5, a6, a7, a8⟩ := bq_79 H v1 v2 v4 wo (fun (v7_18 : Int32) (u19 : St) => (lp_Md_search_69 F v1 v2 wo v4 (nI m) kk n (nI i + (1 : Int32)) u19)) hm (t := i) (by omega) F 0 u S c qm (by omega) (by omega) hW hq
      have a1 : lp_Md_search_79 F v1 v2 wo v4 (nI m) (nI i) _ F (0 : Int32) u = _ := a1
      rw [a1, nI_1]
      obtain ⟨z, u', S', c', qm', g1, g2, g3, g4, g5, g6, g7, g8⟩ := ih (i + 1) u1 S1 c1 qm1 (by omega) (by omega) (H.1 _ _ a2 hW) a3
      refine ⟨z, u', S', c', qm', g1, fr_m_tr a2 g2, g3, by omega, fun j hj => by rw [g5 j (by omega), a5 j hj], fun y hy => g6 y (a6 y hy), fun t h1 h2 h3 h4 k hk m' h5 => ?_, fun y hy => ?_⟩
      · by_cases ht : t = i
        · subst ht; exact g6 _ (a7 h3 h4 k (by omega) hk m' h5)
        · exact g7 t (by omega) h2 h3 h4 k hk m' h5
      · rcases g8 y hy with h | h
        · exact a8 y h
        · exact Or.inr h
/-- what the reference's search comes to -/
def bq_R (df : Nat → Bool) (af : Nat → Nat → Nat → Option Nat) (wo : Int32) (fm target : Nat) (u : St) (o : Option (Int32 × St)) : Prop := ∃ r u', o = some (r, u') ∧ fr_m u u' ∧ ((r = 1 ∧ mv_cov (af_st df af wo) fm target) ∨ (r = 0 ∧ ¬ mv_cov (af_st df af wo) fm target ∧ ∃ S c qm, bq_I u' S c qm ∧ ∀ x, x < 16384 → (S x = true ↔ ∃ n, mv_rc (af_st df af wo) n fm x)))
theorem bq_38 (H : af_ok MW df af F) (hF : 20 < F) (v1 wo : Int32) {fm target : Nat} (u0 : St) (hfm : fm < 16384) (htg : target < 2 ^ 30) : ∀ (n i : Nat) (u : St) (S : Nat → Bool) (c : Nat) (qm : Nat → Nat), i ≤ c → 16384 - i < n → fr_m u0 u → MW u → bq_I u S c qm → S fm = true → (∀ x, x < 16384 → S x = true → ∃ n, mv_rc (af_st df af wo) n fm x) → (∀ j, j < i → ¬ mk_sub target (qm j) ∧ ∀ y, af_st df af wo (qm j) y → S y = true) →
    bq_R df af wo fm target u0 (lp_Md_search_38 F v1 (nI target) wo (fun (v4_22 : Int32) (u23 : St) => (some ((0 : Int32), u23))) n (nI i) u) := by
  intro n
  induction n with
  | zero => intro i u S c qm h1 h2 _ _ hq; have := mk_cn_le S 16384; have := hq.2.2.1; omega
  | succ n ih =>
    intro i u S c qm hi hn hfr hW hq hSf hre hdone
    have hq' := hq
    obtain ⟨h1, h2, h3, h4, h5⟩ := hq
    have hcl := mk_cn_le S 16384
    rw [lp_Md_search_38, h2]
    by_cases hc : i = c
    · subst hc
      rw [if_pos (nI_le (Nat.le_refl _) (by omega))]
      have hlt : ∀ m m', m < 16384 → af_st df af wo m m' → m' < 16384 := fun m m' hm ⟨t, a1, a2, a3, k, a4, a5⟩ => H.2.2.2 m t k m' hm a1 a2 a4 a5
      have hin : ∀ k y, mv_rc (af_st df af wo) k fm y → y < 16384 ∧ S y = true := fun k y hr => by
        refine mv_on (C := fun y => y < 16384 ∧ S y = true) hr ⟨hfm, hSf⟩ (fun m m' hs ⟨g1, g2⟩ => ⟨hlt m m' g1 hs, ?_⟩)
        obtain ⟨j, hj, e⟩ := h5 m g1 g2
        subst e
        exact (hdone j hj).2 m' hs
      refine ⟨0, u, rfl, hfr, Or.inr ⟨rfl, ?_, S, i, qm, hq', fun x hx => ⟨hre x hx, fun ⟨k, hk⟩ => (hin k x hk).2⟩⟩⟩
      rintro ⟨k, y, hr, hs⟩
      obtain ⟨g1, g2⟩ := hin k y hr
      obtain ⟨j, hj, e⟩ := h5 y g1 g2
      subst e
      exact (hdone j hj).1 hs
    · obtain ⟨e1, lq, hSq⟩ := h4 i (by omega)
      rw [if_neg (nI_ge (by omega) (by omega)), if_pos (ib_nI (by omega) (by omega)), nI_clamp (by omega)]
      simp only [nm_k]
      rw [e1, nx_and]
      by_cases hcov : qm i &&& target = target
      · rw [if_pos (by rw [hcov])]
        obtain ⟨k, hk⟩ := hre _ lq hSq
        exact ⟨1, u, rfl, hfr, Or.inl ⟨rfl, k, qm i, hk, mk_sub_and.mp hcov⟩⟩
      · have hle : qm i &&& target ≤ qm i := Nat.and_le_left
        rw [if_neg (fun e => hcov ((nI_eq (by omega) (by omega)).mp e))]
        obtain ⟨z1, u1, S1, c1, qm1, a1, a2, a3, a4, a5, a6, a7, a8⟩ := bq_69 H hF v1 (nI target) (nI i) wo (fun (v6_20 : Int32) (u21 : St) => (lp_Md_search_38 F v1 (nI target) wo (fun (v4_22 : Int32) (u23 : St) => (some ((0 : Int32), u23))) n (nI i + (1 : Int32)) u21)) lq F 0 u S c qm (by omega) (by omega) hW hq'
        have a1 : lp_Md_search_69 F v1 (nI target) wo (nI i) (nI (qm i)) _ F (0 : Int32) u = _ := a1
        rw [a1, nI_1]
        refine ih (i + 1) u1 S1 c1 qm1 (by omega) (by omega) (fr_m_tr hfr a2) (H.1 _ _ a2 hW) a3 (a6 _ hSf) (fun x hx hS => ?_) (fun j hj => ?_)
        · rcases a8 x hS with h | h
          · exact hre x hx h
          · obtain ⟨k, hk⟩ := hre _ lq hSq
            exact ⟨k + 1, mv_rc_app hk h⟩
        · rw [a5 j (by omega)]
          by_cases hji : j = i
          · subst hji
            exact ⟨fun h => hcov (mk_sub_and.mpr h), fun y ⟨t, b1, b2, b3, k, b4, b5⟩ => a7 t (by omega) b1 b2 b3 k b4 y b5⟩
          · obtain ⟨d1, d2⟩ := hdone j (by omega)
            exact ⟨d1, fun y hy => a6 y (d2 y hy)⟩
theorem bq_fill (F : Nat) (v1 v2 v3 : Int32) (k : Int32 → St → Option (Int32 × St)) : ∀ (n i : Nat) (u : St), i ≤ 256 → 256 - i < n → lp_Md_search_3 F v1 v2 v3 k n (nI i) u = k (nI 256) (ms_fl u 20 i 0) := by
  intro n
  induction n with
  | zero => intro i u _ h; omega
  | succ n ih =>
    intro i u hi hn
    rw [lp_Md_search_3]
    by_cases h : i = 256
    · subst h
      rw [if_pos (show (256 : Int32) ≤ nI 256 from by decide), ms_fl_end]
    · rw [if_neg (show ¬ (256 : Int32) ≤ nI i from nI_ge (b := 256) (by omega) (by omega)), if_pos (ib_nI (by omega) (by omega)), nI_clamp (by omega)]
      simp only [nm_k]
      rw [nI_1, ih (i + 1) _ (by omega) (by omega)]
      rw [show ly_pl u 21 i 0 = ly_pl u (20 + 1) i 0 from rfl, ms_fl_step u 20 i 0 (by omega)]
theorem bq_search (H : af_ok MW df af F) (hF : 16500 < F) (wo : Int32) {fm target : Nat} {u : St} (hW : MW u) (hfm : fm < 16384) (htg : target < 2 ^ 30) : bq_R df af wo fm target u (sp_Md_search F (nI fm) (nI target) wo u) := by
  unfold sp_Md_search
  have e := bq_fill F (nI fm) (nI target) wo (fun (v4_3 : Int32) (u4 : St) => (nm_k (ly_pi u4 (0) 26 (0 : Int32)) (fun u5 => (cl_k (sp_Md_meet (nI fm) u5) (fun r6 u7 => (lp_Md_search_38 F (nI fm) (nI target) wo (fun (v4_22 : Int32) (u23 : St) => (some ((0 : Int32), u23))) F (0 : Int32) u7)))))) F 0 u (by omega) (by omega)
  have e : lp_Md_search_3 F (nI fm) (nI target) wo _ F (0 : Int32) u = _ := e
  rw [e]
  simp only [nm_k]
  have hfr0 : fr_m u (ly_pi (ms_fl u 20 0 0) 0 26 0) := ⟨fun k j h1 h2 => by rw [pi_ne h2]; rfl, fun k hk => va_up_ne _ _ hk⟩
  have z : mk_cn (fun _ => false) 16384 = 0 := by
    have : ∀ n, mk_cn (fun _ => false) n = 0 := fun n => by
      induction n with
      | zero => rfl
      | succ n ih => unfold mk_cn; rw [ih]; rfl
    exact this _
  have hq0 : bq_I (ly_pi (ms_fl u 20 0 0) 0 26 0) (fun _ => false) 0 (fun _ => 0) := by
    refine ⟨fun x hx => ?_, pi_at _ _ _ _, z.symm, fun i hi => by omega, fun x _ h => nomatch h⟩
    rw [ms_pi]
    unfold ms_in ms_fl
    simp only [va_up_self]
    rw [if_pos (by omega)]
    simp
  obtain ⟨u1, S1, c1, qm1, a1, a2, a3, a4, a5, a6, a7, a8⟩ := bq_meet hq0 hfm
  rw [a1, cl_some]
  refine bq_38 H (by omega) (nI fm) wo u hfm htg F 0 u1 S1 c1 qm1 (by omega) (by omega) (fr_m_tr hfr0 a2) (H.1 _ _ (fr_m_tr hfr0 a2) hW) a3 a7 (fun x hx hS => ?_) (fun j hj => by omega)
  rcases a8 x hS with h | h
  · cases h
  · subst h; exact ⟨0, rfl⟩
end MDS
