/-! the reference: which masks lead to the end -/
theorem mk_cn_0 {P : Nat → Bool} : ∀ n, (mk_cn P n = 0 ↔ ∀ i, i < n → P i = false)
  | 0 => ⟨fun _ i h => by omega, fun _ => rfl⟩
  | n + 1 => by
    unfold mk_cn
    have ih := mk_cn_0 (P := P) n
    constructor
    · intro h i hi
      cases hp : P n with
      | true => rw [hp] at h; simp at h
      | false =>
        rw [hp] at h
        by_cases e : i = n
        · subst e; exact hp
        · exact ih.mp (by simpa using h) i (by omega)
    · intro h
      rw [h n (by omega), ih.mpr (fun i hi => h i (by omega))]; rfl
def fr_g (u u' : St) : Prop := u'.1 = u.1 ∧ ∀ k, k ≠ 23 → u'.2 k = u.2 k
theorem fr_g_rf (u : St) : fr_g u u := ⟨rfl, fun _ _ => rfl⟩
theorem fr_g_tr {u v w : St} (h : fr_g u v) (k : fr_g v w) : fr_g u w := ⟨k.1.trans h.1, fun i a => (k.2 i a).trans (h.2 i a)⟩
theorem md_good {u : St} {x : Nat} (hx : x < 16384) : sp_Md_isGood (nI x) u = some (if ms_in u 22 x = true then 1 else 0, u) := by
  unfold sp_Md_isGood
  rw [nI_sh6 (by omega), nI_lo6 (by omega), if_pos (ib_nI (by omega) (by omega)), nI_clamp (by omega)]
  have hb : ms_in u 22 x = (u.2 23 (x / 64)).toBitVec.getLsbD (x % 64) := rfl
  by_cases h : ms_in u 22 x = true
  · rw [if_pos h, if_neg]
    rw [lg_cmp_eq, bit_s _ (by omega), ← hb, h]
    exact fun h => nomatch h
  · rw [if_neg h, if_pos]
    rw [lg_cmp_eq, bit_s _ (by omega), ← hb]
    exact Bool.eq_false_iff.mpr h
/-- the mask x set good -/
def gd_s (u : St) (x : Nat) : St := ly_pl u 23 (x / 64) (u.2 23 (x / 64) ||| ((1 : Int64) <<< ((nI (x % 64)).toInt64 &&& 63)))
theorem gd_in (u : St) (x y : Nat) : ms_in (gd_s u x) 22 y = (decide (y = x) || ms_in u 22 y) := by
  unfold gd_s
  rw [show ly_pl u 23 (x / 64) (u.2 23 (x / 64) ||| ((1 : Int64) <<< ((nI (x % 64)).toInt64 &&& 63))) = ly_pl u (22 + 1) (x / 64) (u.2 23 (x / 64) ||| ((1 : Int64) <<< ((nI (x % 64)).toInt64 &&& 63))) from rfl, ms_pl]
  by_cases hq : y / 64 = x / 64
  · rw [if_pos hq, Int64.toBitVec_or, BitVec.getLsbD_or, sh_l _ (by omega), tp_bit _ _ (by omega)]
    have e : decide (x % 64 = y % 64) = decide (y = x) := by
      by_cases hy : y = x
      · subst hy; simp
      · rw [decide_eq_false hy, decide_eq_false]; omega
    rw [e, Bool.or_comm]
    unfold ms_in
    rw [hq]
  · rw [if_neg hq, decide_eq_false (fun hy => hq (by rw [hy]))]; rfl
theorem gd_fr (u : St) (x : Nat) : fr_g u (gd_s u x) := ⟨rfl, fun k hk => pl_ne hk⟩
section ENDS
variable {MW : St → Prop} {df : Nat → Bool} {af : Nat → Nat → Nat → Option Nat} {F : Nat}
theorem ld_10 (H : af_ok MW df af F) {m t : Nat} {u : St} (hm : m < 16384) (ht : t < 6) (hW : MW u) (kk : Int32 → St → Option (Int32 × St)) : ∀ (n i : Nat), i ≤ 10 → 10 - i < n → (lp_Md_leads_10 F (nI m) (nI t) kk n (nI i) u = some (1, u) ∧ df t = true ∧ ∃ k x, k < 10 ∧ af m t k = some x ∧ ms_in u 22 x = true) ∨ (∃ z, lp_Md_leads_10 F (nI m) (nI t) kk n (nI i) u = kk z u) ∧ (df t = true → ∀ k x, i ≤ k → k < 10 → af m t k = some x → ms_in u 22 x = false) := by
  obtain ⟨H1, H2, H3, H4⟩ := H
  intro n
  induction n with
  | zero => intro i _ h; omega
  | succ n ih =>
    intro i hi hn
    rw [lp_Md_leads_10]
    by_cases hc : i = 10
    · subst hc
      rw [if_pos (show (10 : Int32) ≤ nI 10 from by decide)]
      exact Or.inr ⟨⟨_, rfl⟩, fun _ k x h1 h2 => by omega⟩
    · rw [if_neg (show ¬ (10 : Int32) ≤ nI i from nI_ge (b := 10) (by omega) (by omega)), if_pos (ib_nI ht (by omega)), nI_clamp (by omega), H2 u hW t ht]
      by_cases hd : df t = true
      · rw [if_pos hd, if_neg (by decide), H3 u hW m t i hm ht hd (by omega), cl_some, nI_1]
        cases ha : af m t i with
        | none =>
          rw [if_pos (show af_v none < 0 from by decide)]
          rcases ih (i + 1) (by omega) (by omega) with h | ⟨h1, h2⟩
          · exact Or.inl h
          · refine Or.inr ⟨h1, fun hd k x h3 h4 h5 => ?_⟩
            by_cases hk : k = i
            · subst hk; rw [ha] at h5; cases h5
            · exact h2 hd k x (by omega) h4 h5
        | some x =>
          have hx := H4 m t i x hm ht hd (by omega) ha
          rw [if_neg (show ¬ af_v (some x) < 0 from nI_pos (by omega)), show af_v (some x) = nI x from rfl, md_good hx, cl_some]
          by_cases hg : ms_in u 22 x = true
          · rw [if_pos hg, if_neg (by decide)]
            exact Or.inl ⟨rfl, hd, i, x, by omega, ha, hg⟩
          · rw [if_neg hg, if_pos rfl]
            rcases ih (i + 1) (by omega) (by omega) with h | ⟨h1, h2⟩
            · exact Or.inl h
            · refine Or.inr ⟨h1, fun hd k y h3 h4 h5 => ?_⟩
              by_cases hk : k = i
              · subst hk; rw [ha] at h5; cases h5; exact Bool.eq_false_iff.mpr hg
              · exact h2 hd k y (by omega) h4 h5
      · rw [if_neg hd, if_pos rfl]
        exact Or.inr ⟨⟨_, rfl⟩, fun h => absurd h hd⟩
theorem ld_2 (H : af_ok MW df af F) (hF : 20 < F) {m : Nat} {u : St} (hm : m < 16384) (hW : MW u) : ∀ (n i : Nat), i ≤ 6 → 6 - i < n → ∃ r, lp_Md_leads_2 F (nI m) (fun (v2_10 : Int32) (u11 : St) => (some ((0 : Int32), u11))) n (nI i) u = some (r, u) ∧ ((r = 1 ∧ ∃ y, af_st df af (-1) m y ∧ ms_in u 22 y = true) ∨ (r = 0 ∧ ∀ t, i ≤ t → t < 6 → df t = true → ∀ k x, k < 10 → af m t k = some x → ms_in u 22 x = false)) := by
  intro n
  induction n with
  | zero => intro i _ h; omega
  | succ n ih =>
    intro i hi hn
    rw [lp_Md_leads_2]
    by_cases hc : i = 6
    · subst hc
      rw [if_pos (show (6 : Int32) ≤ nI 6 from by decide)]
      exact ⟨0, rfl, Or.inr ⟨rfl, fun t h1 h2 => by omega⟩⟩
    · rw [if_neg (show ¬ (6 : Int32) ≤ nI i from nI_ge (b := 6) (by omega) (by omega))]
      rcases ld_10 H hm (t := i) (by omega) hW (fun (v3_8 : Int32) (u9 : St) => (lp_Md_leads_2 F (nI m) (fun (v2_10 : Int32) (u11 : St) => (some ((0 : Int32), u11))) n (nI i + (1 : Int32)) u9)) F 0 (by omega) (by omega) with ⟨h1, hd, k, x, hk, ha, hg⟩ | ⟨⟨z, h1⟩, h2⟩
      · have h1 : lp_Md_leads_10 F (nI m) (nI i) _ F (0 : Int32) u = _ := h1
        rw [h1]
        exact ⟨1, rfl, Or.inl ⟨rfl, x, ⟨i, by omega, hd, nI_m1 (by omega), k, hk, ha⟩, hg⟩⟩
      · have h1 : lp_Md_leads_10 F (nI m) (nI i) _ F (0 : Int32) u = _ := h1
        rw [h1, nI_1]
        obtain ⟨r, g1, g2⟩ := ih (i + 1) (by omega) (by omega)
        refine ⟨r, g1, g2.elim Or.inl (fun ⟨g3, g4⟩ => Or.inr ⟨g3, fun t h3 h4 h5 k x h6 h7 => ?_⟩)⟩
        by_cases ht : t = i
        · subst ht; exact h2 h5 k x (by omega) h6 h7
        · exact g4 t (by omega) h4 h5 k x h6 h7
theorem ld_all (H : af_ok MW df af F) (hF : 20 < F) {m : Nat} {u : St} (hm : m < 16384) (hW : MW u) : ∃ r, sp_Md_leads F (nI m) u = some (r, u) ∧ ((r = 1 ∧ ∃ y, af_st df af (-1) m y ∧ ms_in u 22 y = true) ∨ (r = 0 ∧ ∀ y, af_st df af (-1) m y → ms_in u 22 y = false)) := by
  obtain ⟨r, h1, h2⟩ := ld_2 H hF hm hW F 0 (by omega) (by omega)
  refine ⟨r, h1, h2.elim Or.inl (fun ⟨h3, h4⟩ => Or.inr ⟨h3, fun y ⟨t, b1, b2, b3, k, b4, b5⟩ => h4 t (by omega) b1 b2 k y b4 b5⟩)⟩
/-- one pass over the queue, from its end -/
theorem ae_42 (H : af_ok MW df af F) (hMg : ∀ u u', fr_g u u' → MW u → MW u') (hF : 20 < F) {c : Nat} {S : Nat → Bool} {qm : Nat → Nat} (hc : c ≤ 16384) (kk : Int32 → Int32 → Int32 → St → Option (Int32 × St)) : ∀ (n i : Nat) (u : St) (mo : Bool), i ≤ c → i < n → MW u → (∀ j, j < c → u.1 22 j = nI (qm j) ∧ qm j < 16384 ∧ S (qm j) = true) → (∀ x, x < 16384 → ms_in u 22 x = true → mv_cov (af_st df af (-1)) x 2) → ∃ z u' mo', lp_Md_allEnd_42 F kk n (nI (mk_cn (fun x => S x && !ms_in u 22 x) 16384)) (if mo = true then 1 else 0) (nI i - 1) u = kk (nI (mk_cn (fun x => S x && !ms_in u' 22 x) 16384)) (if mo' = true then 1 else 0) z u' ∧ fr_g u u' ∧ (∀ x, x < 16384 → ms_in u' 22 x = true → mv_cov (af_st df af (-1)) x 2) ∧ (∀ x, ms_in u 22 x = true → ms_in u' 22 x = true) ∧ ((mo' = mo ∧ u' = u ∧ ∀ j, j < i → ms_in u 22 (qm j) = true ∨ (qm j &&& 2 = 0 ∧ ∀ y, af_st df af (-1) (qm j) y → ms_in u 22 y = false)) ∨ (mo' = true ∧ mk_cn (fun x => S x && !ms_in u' 22 x) 16384 < mk_cn (fun x => S x && !ms_in u 22 x) 16384)) := by
  intro n
  induction n with
  | zero => intro i u mo _ h; omega
  | succ n ih =>
    intro i u mo hi hn hW hq hsd
    rw [lp_Md_allEnd_42]
    cases i with
    | zero =>
      rw [if_pos (show nI 0 - 1 < 0 from by decide)]
      exact ⟨_, u, mo, rfl, fr_g_rf u, hsd, fun _ h => h, Or.inl ⟨rfl, rfl, fun j hj => by omega⟩⟩
    | succ i =>
      obtain ⟨e1, lq, hSq⟩ := hq i (by omega)
      rw [nI_pred, if_neg (nI_pos (by omega)), if_pos (ib_nI (by omega) (by omega)), nI_clamp (by omega), e1]
      simp only [nm_k]
      rw [md_good lq, cl_some]
      have hm1 : nI i + (-1 : Int32) = nI i - 1 := by
        rw [show (-1 : Int32) = -(1 : Int32) from by decide, ← Int32.sub_eq_add_neg]
      rw [hm1]
      by_cases hg : ms_in u 22 (qm i) = true
      · rw [if_pos hg, if_neg (by decide)]
        obtain ⟨z, u', mo', g1, g2, g3, g4, g5⟩ := ih i u mo (by omega) (by omega) hW hq hsd
        refine ⟨z, u', mo', g1, g2, g3, g4, g5.elim (fun ⟨a, b, d⟩ => Or.inl ⟨a, b, fun j hj => ?_⟩) Or.inr⟩
        by_cases e : j = i
        · subst e; exact Or.inl hg
        · exact d j (by omega)
      · rw [if_neg hg, if_pos rfl]
        have hg' : ms_in u 22 (qm i) = false := Bool.eq_false_iff.mpr hg
        have hset : mv_cov (af_st df af (-1)) (qm i) 2 → ∃ z u' mo', lp_Md_allEnd_42 F kk n (nI (mk_cn (fun x => S x && !ms_in u 22 x) 16384) + (-1 : Int32)) (1 : Int32) (nI i - 1) (gd_s u (qm i)) = kk (nI (mk_cn (fun x => S x && !ms_in u' 22 x) 16384)) (if mo' = true then 1 else 0) z u' ∧ fr_g u u' ∧ (∀ x, x < 16384 → ms_in u' 22 x = true → mv_cov (af_st df af (-1)) x 2) ∧ (∀ x, ms_in u 22 x = true → ms_in u' 22 x = true) ∧ (mo' = true ∧ mk_cn (fun x => S x && !ms_in u' 22 x) 16384 < mk_cn (fun x => S x && !ms_in u 22 x) 16384) := by
          intro hcov
          have hcn : mk_cn (fun x => S x && !ms_in u 22 x) 16384 = mk_cn (fun x => S x && !ms_in (gd_s u (qm i)) 22 x) 16384 + 1 := by
            refine mk_cn_add (k := qm i) ?_ ?_ 16384 lq (fun y _ hy => ?_)
            · simp [gd_in]
            · simp [hg', hSq]
            · simp [gd_in, hy]
          obtain ⟨z, u', mo', g1, g2, g3, g4, g5⟩ := ih i (gd_s u (qm i)) true (by omega) (by omega) (hMg _ _ (gd_fr u _) hW) hq (fun x hx hg2 => by
            rw [gd_in, Bool.or_eq_true, decide_eq_true_eq] at hg2
            rcases hg2 with rfl | hg2
            · exact hcov
            · exact hsd x hx hg2)
          refine ⟨z, u', mo', ?_, fr_g_tr (gd_fr u _) g2, g3, fun x hx => g4 x (by rw [gd_in, hx, Bool.or_true]), ?_⟩
          · rw [hcn, pk_m1]; exact g1
          · rcases g5 with ⟨a, b, _⟩ | ⟨a, b⟩
            · subst b; exact ⟨a, by omega⟩
            · exact ⟨a, by omega⟩
        have h2le : qm i &&& 2 ≤ qm i := Nat.and_le_left
        rw [show (nI (qm i) &&& (2 : Int32)) = nI (qm i &&& 2) from by rw [show (2 : Int32) = nI 2 from rfl, nx_and]]
        by_cases h2 : qm i &&& 2 = 0
        · rw [if_pos ((nI_z (by omega)).mpr h2)]
          obtain ⟨r, l1, l2⟩ := ld_all H hF lq hW
          rw [l1, cl_some]
          rcases l2 with ⟨e, y, hy, hgy⟩ | ⟨e, hno⟩
          · rw [e, if_neg (by decide), nI_sh6 (by omega), nI_lo6 (by omega), if_pos (ib_nI (by omega) (by omega)), if_pos (ib_nI (by omega) (by omega)), nI_clamp (by omega)]
            obtain ⟨t, b1, b2, b3, k, b4, b5⟩ := hy
            have hy' := H.2.2.2 (qm i) t k y lq b1 b2 b4 b5
            obtain ⟨z, u', mo', g1, g2, g3, g4, g5⟩ := hset (mv_cov_step ⟨t, b1, b2, b3, k, b4, b5⟩ (hsd y hy' hgy))
            exact ⟨z, u', mo', g1, g2, g3, g4, Or.inr g5⟩
          · rw [e, if_pos rfl]
            obtain ⟨z, u', mo', g1, g2, g3, g4, g5⟩ := ih i u mo (by omega) (by omega) hW hq hsd
            refine ⟨z, u', mo', g1, g2, g3, g4, g5.elim (fun ⟨a, b, d⟩ => Or.inl ⟨a, b, fun j hj => ?_⟩) Or.inr⟩
            by_cases e : j = i
            · subst e; exact Or.inr ⟨h2, hno⟩
            · exact d j (by omega)
        · rw [if_neg (fun e => h2 ((nI_z (by omega)).mp e)), nI_sh6 (by omega), nI_lo6 (by omega), if_pos (ib_nI (by omega) (by omega)), if_pos (ib_nI (by omega) (by omega)), nI_clamp (by omega)]
          have hsub : mk_sub 2 (qm i) := fun j hj => and_tp (j := 1) h2 hj
          obtain ⟨z, u', mo', g1, g2, g3, g4, g5⟩ := hset ⟨0, qm i, rfl, hsub⟩
          exact ⟨z, u', mo', g1, g2, g3, g4, Or.inr g5⟩
end ENDS
