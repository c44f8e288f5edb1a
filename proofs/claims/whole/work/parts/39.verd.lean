section VERD
variable {df : Nat → Bool} {jo sp is os rg : Nat → Nat} {F : Nat}
theorem an_loop (u : St) (hW : ∀ t, t < 6 → u.1 1 t = (if df t = true then 1 else 0)) (k : Int32 → Int32 → St → Option (Int32 × St)) : ∀ (n i : Nat) (a : Bool), i ≤ 6 → 6 - i < n → (a = true ↔ ∃ t, t < i ∧ df t = true) → ∃ a' : Bool, ∃ z, lp_Md_isAny_4 F k n (if a = true then 1 else 0) (nI i) u = k (if a' = true then 1 else 0) z u ∧ (a' = true ↔ ∃ t, t < 6 ∧ df t = true) := by
  intro n
  induction n with
  | zero => intro i a _ h; omega
  | succ n ih =>
    intro i a hi hn
    have h6 : i ≠ 6 → i + 1 ≤ 6 := by omega
    have hn2 : i ≠ 6 → 6 - (i + 1) < n := by omega
    intro ha
    rw [lp_Md_isAny_4]
    by_cases hc : i = 6
    · subst hc
      rw [if_pos (show (6 : Int32) ≤ nI 6 from by decide)]
      exact ⟨a, _, rfl, ha⟩
    · rw [if_neg (show ¬ (6 : Int32) ≤ nI i from nI_ge (b := 6) (by omega) (by omega)), nI_1]
      have go : ∀ b : Bool, (b = true ↔ (a = true ∨ df i = true)) → ∃ a' : Bool, ∃ z, lp_Md_isAny_4 F k n (if b = true then 1 else 0) (nI (i + 1)) u = k (if a' = true then 1 else 0) z u ∧ (a' = true ↔ ∃ t, t < 6 ∧ df t = true) := fun b hb => ih (i + 1) b (h6 hc) (hn2 hc) (by
        rw [hb, ha]
        constructor
        · rintro (⟨t, h1, h2⟩ | h)
          · exact ⟨t, by omega, h2⟩
          · exact ⟨i, by omega, h⟩
        · rintro ⟨t, h1, h2⟩
          by_cases e : t = i
          · subst e; exact Or.inr h2
          · exact Or.inl ⟨t, by omega, h2⟩)
      cases a with
      | true =>
        rw [if_pos rfl, if_neg (by decide)]
        exact go true (by simp)
      | false =>
        rw [if_neg (show ¬ (false = true) from by decide), if_pos rfl, if_pos (ib_nI (by omega) (by omega)), nI_clamp (by omega), hW i (by omega)]
        by_cases hd : df i = true
        · rw [if_pos hd, if_neg (by decide)]
          exact go true (by simp [hd])
        · rw [if_neg hd, if_pos rfl]
          exact go false (by simp [hd])
theorem md_any {u : St} (hF : 20 < F) (hW : ∀ t, t < 6 → u.1 1 t = (if df t = true then 1 else 0)) : ∃ a : Bool, sp_Md_isAny F u = some (if a = true then 1 else 0, u) ∧ (a = true ↔ ∃ t, t < 6 ∧ df t = true) := by
  obtain ⟨a, z, h1, h2⟩ := an_loop (F := F) u hW (fun (v1_2 : Int32) (v2_3 : Int32) (u4 : St) => (if v1_2 = 0 ∨ v1_2 = 1 then some (v1_2, u4) else none)) F 0 false (by omega) (by omega) ⟨(fun h => nomatch h), fun ⟨t, h, _⟩ => by omega⟩
  refine ⟨a, ?_, h2⟩
  have h1 : sp_Md_isAny F u = _ := h1
  rw [h1]
  cases a
  · exact if_pos (Or.inl rfl)
  · exact if_pos (Or.inr rfl)
def tk_c (j x k : Nat) : Nat := if j = 0 then x else bk_n x k
theorem tk_c_list {t : Nat} {y : Nat} (hD : ds_ok df jo sp is os rg) (ht : t < 6) (hd : df t = true) : (∃ k, k < 3 ∧ tk_c (jo t) (is t) k ≠ 0 ∧ mk_sub (tk_c (jo t) (is t) k) y) ↔ ∃ j, j < (lt_n jo is t).length ∧ mk_sub ((lt_n jo is t).getD j 0) y := by
  obtain ⟨hj, hs, ⟨hi1, hi2⟩, ⟨ho1, ho2⟩, hr⟩ := hD t ht hd
  obtain ⟨f1, f2, f3⟩ := ft_use hi1 hi2 hj
  constructor
  · rintro ⟨k, hk, h0, hsub⟩
    have hm : tk_c (jo t) (is t) k ∈ lt_n jo is t := by
      by_cases hj0 : jo t = 0
      · have e : tk_c (jo t) (is t) k = tk_n (jo t) (is t) 0 := by unfold tk_c tk_n; rw [if_pos hj0, if_pos hj0, if_pos rfl]
        rw [e] at h0 ⊢
        exact f3 0 (by omega) h0
      · have e : tk_c (jo t) (is t) k = tk_n (jo t) (is t) k := by unfold tk_c tk_n; rw [if_neg hj0, if_neg hj0]
        rw [e] at h0 ⊢
        exact f3 k hk h0
    obtain ⟨j, h1, h2⟩ := gd_mem.mp hm
    exact ⟨j, h1, h2 ▸ hsub⟩
  · rintro ⟨j, h1, h2⟩
    obtain ⟨h0, k, hk, e⟩ := f2 _ (gd_mem.mpr ⟨j, h1, rfl⟩)
    refine ⟨k, hk, ?_⟩
    have e2 : tk_c (jo t) (is t) k = (lt_n jo is t).getD j 0 := by
      rw [show (lt_n jo is t).getD j 0 = tk_n (jo t) (is t) k from e.symm]
      unfold tk_c tk_n
      by_cases hj0 : jo t = 0
      · rw [if_pos hj0, if_pos hj0]
        by_cases hk0 : k = 0
        · rw [if_pos hk0]
        · exfalso
          apply h0
          show (lt_n jo is t).getD j 0 = 0
          rw [show (lt_n jo is t).getD j 0 = tk_n (jo t) (is t) k from e.symm]
          unfold tk_n
          rw [if_pos hj0, if_neg hk0]
      · rw [if_neg hj0, if_neg hj0]
    rw [e2]
    exact ⟨h0, h2⟩
theorem cb_12 {u : St} (hD : ds_ok df jo sp is os rg) (hW : md_W df jo sp is os rg u) {t i q : Nat} (ht : t < 6) (hd : df t = true) (hi : i < 16384) (hq : q < 16384) (e22 : u.1 22 i = nI q) (kk : Int32 → St → Option (Int32 × St)) : ∀ (n k : Nat), k ≤ 3 → 3 - k < n → (lp_Md_canBegin_12 F (nI t) (nI i) kk n (nI k) u = some (1, u) ∧ ∃ k, k < 3 ∧ tk_c (jo t) (is t) k ≠ 0 ∧ mk_sub (tk_c (jo t) (is t) k) q) ∨ (∃ z, lp_Md_canBegin_12 F (nI t) (nI i) kk n (nI k) u = kk z u) ∧ ∀ k', k ≤ k' → k' < 3 → tk_c (jo t) (is t) k' ≠ 0 → ¬ mk_sub (tk_c (jo t) (is t) k') q := by
  obtain ⟨-, hWt⟩ := hW t ht
  obtain ⟨w2, w3, w4, w5, w6, w7, w8⟩ := hWt hd
  obtain ⟨hj, hs, ⟨hi1, hi2⟩, ⟨ho1, ho2⟩, hr⟩ := hD t ht hd
  intro n
  induction n with
  | zero => intro k _ h; omega
  | succ n ih =>
    intro k hk hn
    rw [lp_Md_canBegin_12]
    by_cases hc : k = 3
    · subst hc
      rw [if_pos (show (3 : Int32) ≤ nI 3 from by decide)]
      exact Or.inr ⟨⟨_, rfl⟩, fun k' h1 h2 => by omega⟩
    · have hstep : ∀ a, a < 256 → a = tk_c (jo t) (is t) k → ((if nI a = 0 then lp_Md_canBegin_12 F (nI t) (nI i) kk n (nI (k + 1)) u else if ib (nI i) 16384 = true then (if (u.1 22 i &&& nI a) = nI a then some ((1 : Int32), u) else lp_Md_canBegin_12 F (nI t) (nI i) kk n (nI (k + 1)) u) else none) = some (1, u) ∧ ∃ k, k < 3 ∧ tk_c (jo t) (is t) k ≠ 0 ∧ mk_sub (tk_c (jo t) (is t) k) q) ∨ (∃ z, (if nI a = 0 then lp_Md_canBegin_12 F (nI t) (nI i) kk n (nI (k + 1)) u else if ib (nI i) 16384 = true then (if (u.1 22 i &&& nI a) = nI a then some ((1 : Int32), u) else lp_Md_canBegin_12 F (nI t) (nI i) kk n (nI (k + 1)) u) else none) = kk z u) ∧ ∀ k', k ≤ k' → k' < 3 → tk_c (jo t) (is t) k' ≠ 0 → ¬ mk_sub (tk_c (jo t) (is t) k') q := by
        intro a ha hak
        have hle : q &&& a ≤ q := Nat.and_le_left
        by_cases h0 : a = 0
        · rw [if_pos ((nI_z (by omega)).mpr h0)]
          rcases ih (k + 1) (by omega) (by omega) with h | ⟨h1, h2⟩
          · exact Or.inl h
          · refine Or.inr ⟨h1, fun k' h3 h4 h5 => ?_⟩
            by_cases e : k' = k
            · subst e; rw [← hak] at h5; exact absurd h0 h5
            · exact h2 k' (by omega) h4 h5
        · rw [if_neg (fun e => h0 ((nI_z (by omega)).mp e)), if_pos (ib_nI hi (by omega)), e22, nx_and]
          by_cases h1 : q &&& a = a
          · rw [if_pos (by rw [h1])]
            exact Or.inl ⟨rfl, k, by omega, by rw [← hak]; exact h0, by rw [← hak]; exact mk_sub_and.mp h1⟩
          · rw [if_neg (fun e => h1 ((nI_eq (by omega) (by omega)).mp e))]
            rcases ih (k + 1) (by omega) (by omega) with h | ⟨h2, h3⟩
            · exact Or.inl h
            · refine Or.inr ⟨h2, fun k' h4 h5 h6 h7 => ?_⟩
              by_cases e : k' = k
              · subst e; rw [← hak] at h7; exact h1 (mk_sub_and.mpr h7)
              · exact h3 k' (by omega) h5 h6 h7
      rw [if_neg (show ¬ (3 : Int32) ≤ nI k from nI_ge (b := 3) (by omega) (by omega)), if_pos (ib_nI ht (by omega)), nI_clamp (show t < 2 ^ 31 by omega), nI_clamp (show i < 2 ^ 31 by omega), w2, ix_3, nI_1]
      simp only [nm_k]
      by_cases hj0 : jo t = 0
      · rw [if_pos ((nI_z (by omega)).mpr hj0), if_pos (ib_nI ht (by omega)), w4]
        exact hstep (is t) hi1 (by unfold tk_c; rw [if_pos hj0])
      · rw [if_neg (fun e => hj0 ((nI_z (by omega)).mp e)), if_pos (ib_nI (by omega) (by omega)), nI_clamp (by omega), w6 k (by omega)]
        exact hstep (bk_n (is t) k) (bk_lt _ hi1 k (by omega)) (by unfold tk_c; rw [if_neg hj0])
theorem cb_2 {u : St} (hF : 20 < F) (hD : ds_ok df jo sp is os rg) (hW : md_W df jo sp is os rg u) {t c : Nat} {qm : Nat → Nat} (ht : t < 6) (hd : df t = true) (hc : c ≤ 16384) (hu : u.1 0 26 = nI c) (hq : ∀ j, j < c → u.1 22 j = nI (qm j) ∧ qm j < 16384) : ∀ (n i : Nat), i ≤ c → c - i < n → (∀ l, l < i → ¬ ∃ j, j < (lt_n jo is t).length ∧ mk_sub ((lt_n jo is t).getD j 0) (qm l)) → ∃ r, lp_Md_canBegin_2 F (nI t) (fun (v2_10 : Int32) (u11 : St) => (some ((0 : Int32), u11))) n (nI i) u = some (r, u) ∧ ((r = 1 ∧ ∃ l, l < c ∧ ∃ j, j < (lt_n jo is t).length ∧ mk_sub ((lt_n jo is t).getD j 0) (qm l)) ∨ (r = 0 ∧ ∀ l, l < c → ¬ ∃ j, j < (lt_n jo is t).length ∧ mk_sub ((lt_n jo is t).getD j 0) (qm l))) := by
  intro n
  induction n with
  | zero => intro i _ h; omega
  | succ n ih =>
    intro i hi hn hno
    rw [lp_Md_canBegin_2, hu]
    by_cases he : i = c
    · subst he
      rw [if_pos (nI_le (Nat.le_refl _) (by omega))]
      exact ⟨0, rfl, Or.inr ⟨rfl, hno⟩⟩
    · rw [if_neg (nI_ge (by omega) (by omega))]
      obtain ⟨e22, lq⟩ := hq i (by omega)
      rcases cb_12 (F := F) hD hW ht hd (show i < 16384 by omega) lq e22 (fun (v3_8 : Int32) (u9 : St) => (lp_Md_canBegin_2 F (nI t) (fun (v2_10 : Int32) (u11 : St) => (some ((0 : Int32), u11))) n (nI i + (1 : Int32)) u9)) F 0 (by omega) (by omega) with ⟨h1, h2⟩ | ⟨⟨z, h1⟩, h2⟩
      · have h1 : lp_Md_canBegin_12 F (nI t) (nI i) _ F (0 : Int32) u = _ := h1
        rw [h1]
        exact ⟨1, rfl, Or.inl ⟨rfl, i, by omega, (tk_c_list hD ht hd).mp h2⟩⟩
      · have h1 : lp_Md_canBegin_12 F (nI t) (nI i) _ F (0 : Int32) u = _ := h1
        rw [h1, nI_1]
        refine ih (i + 1) (by omega) (by omega) (fun l hl => ?_)
        by_cases e : l = i
        · subst e
          rw [← tk_c_list hD ht hd]
          rintro ⟨k, hk, h3, h4⟩
          exact h2 k (by omega) hk h3 h4
        · exact hno l (by omega)
end VERD
