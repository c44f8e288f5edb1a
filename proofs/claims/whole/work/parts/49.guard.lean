theorem tb_dm (x i : Nat) : x / 2 ^ i % 2 = 0 ↔ x.testBit i = false := by
  rw [Nat.testBit_eq_decide_div_mod_eq, decide_eq_false_iff_not]
  omega
def ok_g (os : Nat) (a2 a3 : Int32) : Prop := (¬ a3 < 0 ∧ ¬ (3 : Int32) < a3) ∧ ∃ c, c < 8 ∧ a2 = nI c ∧ os.testBit c = true
theorem gd_C {uC : St} {t os : Nat} (ht : t < 6) (ho : uC.1 (9 + 6 * t) 5 = nI os) (a2 a3 a4 a5 : Int32) (h3 : uC.1 0 3 = 0) (e1 : sp_Net_isDefined (nI t) uC = some (1, uC)) : (∃ c, c < 8 ∧ a2 = nI c ∧ ok_g os a2 a3 ∧ sp_CN_guard (nI t) a2 a3 a4 a5 uC = some (1, ly_pi (ly_pi (ly_pi uC (9 + 6 * t + 3) c a3) (9 + 6 * t + 4) c a4) (9 + 6 * t + 5) c a5)) ∨ (¬ ok_g os a2 a3 ∧ sp_CN_guard (nI t) a2 a3 a4 a5 uC = some (0, uC)) := by
  have n1 : ¬ (1 : Int32) = 0 := by decide
  unfold sp_CN_guard
  rw [h3, if_pos rfl, e1, cl_some, if_neg n1, vr_e, cl_some]
  by_cases c3 : ¬ a3 < 0 ∧ ¬ (3 : Int32) < a3
  · rw [if_pos c3, if_neg n1, bw_ca, cl_some]
    by_cases c2 : ¬ a2 < 0 ∧ ¬ (7 : Int32) < a2
    · obtain ⟨c, hc, rfl⟩ := nI_of2 (M := 7) (n := 7) (by decide) c2.1 (i_nlt c2.2)
      rw [if_pos c2, if_neg n1, if_pos (ib_nI ht (by omega)), nI_clamp (show t < 2 ^ 31 by omega), ho]
      by_cases hb : os.testBit c = true
      · rw [if_neg (fun e => by rw [bit_0 (by omega), hb] at e; cases e), if_pos (ib_nI ht (by omega))]
        refine Or.inl ⟨c, by omega, rfl, ⟨c3, c, by omega, rfl, hb⟩, ?_⟩
        unfold sp_Task_putGuard
        simp only [nm_k]
        rw [if_pos (ib_nI (by omega) (by omega)), if_pos (ib_nI (by omega) (by omega)), if_pos (ib_nI (by omega) (by omega)), nI_clamp (show c < 2 ^ 31 by omega), cl_some]
      · rw [if_pos ((bit_0 (by omega)).mpr (Bool.eq_false_iff.mpr hb))]
        refine Or.inr ⟨?_, rfl⟩
        rintro ⟨_, c', h1, h2, h3⟩
        have := (nI_eq (by omega) (by omega)).mp h2
        subst this
        exact hb h3
    · rw [if_neg c2, if_pos rfl]
      refine Or.inr ⟨?_, rfl⟩
      rintro ⟨_, c', h1, rfl, h3⟩
      exact c2 ⟨nI_pos (by omega), nI_nlt (a := 7) (by omega) (by omega)⟩
  · rw [if_neg c3, if_pos rfl]
    exact Or.inr ⟨fun h => c3 h.1, rfl⟩
theorem ix_8 (t k : Nat) : (8 : Int32) * nI t + nI k = nI (8 * t + k) := by
  rw [show (8 : Int32) = nI 8 from rfl, pk_mul, nI_add]
theorem gd_M {uM : St} {t os : Nat} (ht : t < 6) (hos : os < 256) (ho : uM.1 5 t = nI os) (a2 a3 a4 a5 : Int32) (h3 : uM.1 0 15 = 0) (e1 : sp_Md_isDefined (nI t) uM = some (1, uM)) : (∃ c, c < 8 ∧ a2 = nI c ∧ ok_g os a2 a3 ∧ sp_Md_guard (nI t) a2 a3 a4 a5 uM = some (1, ly_pi (ly_pi (ly_pi uM 9 (8 * t + c) a3) 10 (8 * t + c) a4) 11 (8 * t + c) a5)) ∨ (¬ ok_g os a2 a3 ∧ sp_Md_guard (nI t) a2 a3 a4 a5 uM = some (0, uM)) := by
  have n1 : ¬ (1 : Int32) = 0 := by decide
  unfold sp_Md_guard
  rw [h3, if_pos rfl, e1, cl_some, if_neg n1]
  by_cases c1 : a2 < 0
  · rw [if_pos c1]
    refine Or.inr ⟨?_, rfl⟩
    rintro ⟨_, c', h1, rfl, h3⟩
    exact nI_pos (by omega) c1
  rw [if_neg c1]
  by_cases c2 : (7 : Int32) < a2
  · rw [if_pos c2]
    refine Or.inr ⟨?_, rfl⟩
    rintro ⟨_, c', h1, rfl, h3⟩
    exact nI_nlt (a := 7) (by omega) (by omega) c2
  rw [if_neg c2]
  obtain ⟨c, hc, rfl⟩ := nI_of2 (M := 7) (n := 7) (by decide) c1 (i_nlt c2)
  by_cases c3 : a3 < 0
  · rw [if_pos c3]; exact Or.inr ⟨fun h => h.1.1 c3, rfl⟩
  rw [if_neg c3]
  by_cases c4 : a3 ≤ (3 : Int32)
  · rw [if_pos c4, if_pos (ib_nI ht (by omega)), nI_clamp (show t < 2 ^ 31 by omega), ho, sh_bit (by omega) (by omega), ix_8]
    by_cases hb : os.testBit c = true
    · rw [if_neg (fun e => by have := (tb_dm os c).mp ((nI_z (by omega)).mp e); rw [hb] at this; cases this), if_pos (ib_nI (by omega) (by omega)), nI_clamp (by omega)]
      simp only [nm_k]
      rw [if_pos (ib_nI (by omega) (by omega)), if_pos (ib_nI (by omega) (by omega))]
      exact Or.inl ⟨c, by omega, rfl, ⟨⟨c3, i_lent c4⟩, c, by omega, rfl, hb⟩, rfl⟩
    · rw [if_pos ((nI_z (by omega)).mpr ((tb_dm os c).mpr (Bool.eq_false_iff.mpr hb)))]
      refine Or.inr ⟨?_, rfl⟩
      rintro ⟨_, c', h1, h2, h3⟩
      have := (nI_eq (by omega) (by omega)).mp h2
      subst this
      exact hb h3
  · rw [if_neg c4]; exact Or.inr ⟨fun h => h.1.2 (i_nle c4), rfl⟩
