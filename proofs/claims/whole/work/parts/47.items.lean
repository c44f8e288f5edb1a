theorem bw_ca (a lo hi : Int32) (u : St) : sp_CN_isBetween a lo hi u = some (if ¬ a < lo ∧ ¬ hi < a then 1 else 0, u) := by
  unfold sp_CN_isBetween
  by_cases h1 : a < lo
  · rw [if_pos h1, if_neg (fun h => h.1 h1)]
  · by_cases h2 : hi < a
    · rw [if_neg h1, if_pos h2, if_neg (fun h => h.2 h2)]
    · rw [if_neg h1, if_neg h2, if_pos ⟨h1, h2⟩]
theorem vr_e (a : Int32) (u : St) : sp_CN_isVariable a u = some (if ¬ a < 0 ∧ ¬ (3 : Int32) < a then 1 else 0, u) := by
  unfold sp_CN_isVariable
  rw [bw_ca, cl_some]
  by_cases h : ¬ a < 0 ∧ ¬ (3 : Int32) < a
  · rw [if_pos h, if_pos (Or.inr rfl)]
  · rw [if_neg h, if_pos (Or.inl rfl)]
def ok_i (a2 a3 a4 a5 : Int32) : Prop := (¬ a4 < 0 ∧ ¬ (3 : Int32) < a4) ∧ (¬ a2 < 1 ∧ ¬ (4 : Int32) < a2) ∧ (¬ a3 < 1 ∧ ¬ a2 < a3) ∧ ¬ a5 < 0 ∧ ¬ (100 : Int32) < a5
theorem it_C {uC : St} {t : Nat} (ht : t < 6) (a2 a3 a4 a5 : Int32) (h3 : uC.1 0 3 = 0) (e1 : sp_Net_isDefined (nI t) uC = some (1, uC)) : (ok_i a2 a3 a4 a5 ∧ sp_CN_items (nI t) a2 a3 a4 a5 uC = some (1, ly_pi (ly_pi (ly_pi (ly_pi uC (9 + 6 * t) 7 a2) (9 + 6 * t) 8 a3) (9 + 6 * t) 9 a4) (9 + 6 * t) 10 a5)) ∨ (¬ ok_i a2 a3 a4 a5 ∧ sp_CN_items (nI t) a2 a3 a4 a5 uC = some (0, uC)) := by
  have n1 : ¬ (1 : Int32) = 0 := by decide
  unfold sp_CN_items
  rw [h3, if_pos rfl, e1, cl_some, if_neg n1, vr_e, cl_some]
  by_cases c4 : ¬ a4 < 0 ∧ ¬ (3 : Int32) < a4
  · rw [if_pos c4, if_neg n1, bw_ca, cl_some]
    by_cases c2 : ¬ a2 < 1 ∧ ¬ (4 : Int32) < a2
    · rw [if_pos c2, if_neg n1, bw_ca, cl_some]
      by_cases c3 : ¬ a3 < 1 ∧ ¬ a2 < a3
      · rw [if_pos c3, if_neg n1, bw_ca, cl_some]
        by_cases c5 : ¬ a5 < 0 ∧ ¬ (100 : Int32) < a5
        · rw [if_pos c5, if_neg n1, if_pos (ib_nI ht (by omega)), nI_clamp (by omega)]
          exact Or.inl ⟨⟨c4, c2, c3, c5⟩, rfl⟩
        · rw [if_neg c5, if_pos rfl]
          exact Or.inr ⟨fun h => c5 h.2.2.2, rfl⟩
      · rw [if_neg c3, if_pos rfl]
        exact Or.inr ⟨fun h => c3 h.2.2.1, rfl⟩
    · rw [if_neg c2, if_pos rfl]
      exact Or.inr ⟨fun h => c2 h.2.1, rfl⟩
  · rw [if_neg c4, if_pos rfl]
    exact Or.inr ⟨fun h => c4 h.1, rfl⟩
theorem it_M {uM : St} {t : Nat} (ht : t < 6) (a2 a3 a4 a5 : Int32) (h3 : uM.1 0 15 = 0) (e1 : sp_Md_isDefined (nI t) uM = some (1, uM)) : (ok_i a2 a3 a4 a5 ∧ sp_Md_items (nI t) a2 a3 a4 a5 uM = some (1, ly_pi (ly_pi (ly_pi (ly_pi uM 12 t a2) 13 t a3) 14 t a4) 15 t a5)) ∨ (¬ ok_i a2 a3 a4 a5 ∧ sp_Md_items (nI t) a2 a3 a4 a5 uM = some (0, uM)) := by
  have n1 : ¬ (1 : Int32) = 0 := by decide
  unfold sp_Md_items
  rw [h3, if_pos rfl, e1, cl_some, if_neg n1]
  by_cases c1 : a2 < 1
  · rw [if_pos c1]; exact Or.inr ⟨fun h => h.2.1.1 c1, rfl⟩
  rw [if_neg c1]
  by_cases c2 : (4 : Int32) < a2
  · rw [if_pos c2]; exact Or.inr ⟨fun h => h.2.1.2 c2, rfl⟩
  rw [if_neg c2]
  by_cases c3 : a3 < 1
  · rw [if_pos c3]; exact Or.inr ⟨fun h => h.2.2.1.1 c3, rfl⟩
  rw [if_neg c3]
  by_cases c4 : a3 ≤ a2
  · rw [if_pos c4]
    by_cases c5 : a4 < 0
    · rw [if_pos c5]; exact Or.inr ⟨fun h => h.1.1 c5, rfl⟩
    rw [if_neg c5]
    by_cases c6 : (3 : Int32) < a4
    · rw [if_pos c6]; exact Or.inr ⟨fun h => h.1.2 c6, rfl⟩
    rw [if_neg c6]
    by_cases c7 : a5 < 0
    · rw [if_pos c7]; exact Or.inr ⟨fun h => h.2.2.2.1 c7, rfl⟩
    rw [if_neg c7]
    by_cases c8 : a5 ≤ (100 : Int32)
    · rw [if_pos c8, if_pos (ib_nI ht (by omega)), nI_clamp (by omega)]
      simp only [nm_k]
      rw [if_pos (ib_nI ht (by omega)), if_pos (ib_nI ht (by omega)), if_pos (ib_nI ht (by omega))]
      exact Or.inl ⟨⟨⟨c5, c6⟩, ⟨c1, c2⟩, ⟨c3, i_lent c4⟩, c7, i_lent c8⟩, rfl⟩
    · rw [if_neg c8]; exact Or.inr ⟨fun h => h.2.2.2.2 (i_nle c8), rfl⟩
  · rw [if_neg c4]; exact Or.inr ⟨fun h => h.2.2.1.2 (i_nle c4), rfl⟩
