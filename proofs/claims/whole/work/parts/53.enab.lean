theorem tp_0 {m j : Nat} : m &&& 2 ^ j = 0 ↔ m.testBit j = false := by
  rw [mk_dis]
  constructor
  · intro h
    cases hb : m.testBit j with
    | false => rfl
    | true => have := h j hb; rw [Nat.testBit_two_pow_self] at this; cases this
  · intro h i hi
    rw [Nat.testBit_two_pow]
    exact decide_eq_false (fun e => by subst e; rw [h] at hi; cases hi)
theorem md_runs {u : St} {p t : Nat} (hp : p < 16384) (ht : t < 6) (hu : u.1 0 16 = nI p) : sp_Md_runs (nI t) u = some (if p.testBit (8 + t) = true then 1 else 0, u) := by
  unfold sp_Md_runs
  rw [hu, show (8 : Int32) + nI t = nI (8 + t) from by rw [show (8 : Int32) = nI 8 from rfl, nI_add], sh_bit (by omega) (by omega)]
  by_cases hb : p.testBit (8 + t) = true
  · rw [if_pos hb, if_pos]
    rw [nI_o (by omega)]
    rw [Nat.testBit_eq_decide_div_mod_eq, decide_eq_true_eq] at hb
    exact hb
  · rw [if_neg hb, if_neg]
    rw [nI_o (by omega)]
    rw [Nat.testBit_eq_decide_div_mod_eq, decide_eq_true_eq] at hb
    exact hb
section ENAB
variable {df : Nat → Bool} {jo sp is os rg : Nat → Nat} {F : Nat}
theorem en_same (hF : 16500 < F) {uC uM : St} {on : Bool} {p t : Nat} (hW : cn_W df jo sp is os rg uC) (hWm : md_W df jo sp is os rg uM) (hD : ds_ok df jo sp is os rg) (hC : df t = true → uC.1 (9 + 6 * t) 2 = nI (jo t) ∧ uC.1 (9 + 6 * t) 4 = nI (is t)) (ht : t < 6) (hp : p < 16384) (o1 : uC.1 0 3 = b_2 on) (o2 : uM.1 0 15 = b_2 on) (q1 : uC.1 0 4 = nI p) (q2 : uM.1 0 16 = nI p) : ∃ r uC' uM', sp_CN_canFire F (nI t) uC = some (r, uC') ∧ sp_Md_isEnabled F (nI t) uM = some (r, uM') ∧ fr_s uC uC' ∧ fr_m uM uM' ∧ (r = 0 ∨ (r = 1 ∧ on = true ∧ df t = true ∧ p.testBit (8 + t) = false ∧ p &&& is t ≠ 0)) := by
  have n1 : ¬ (1 : Int32) = 0 := by decide
  unfold sp_CN_canFire sp_Md_isEnabled
  rw [o1, o2]
  cases on with
  | false =>
    rw [if_pos (show b_2 false = 0 from rfl), if_pos (show b_2 false = 0 from rfl)]
    exact ⟨0, uC, uM, rfl, rfl, fr_s_rf _, fr_m_rf _, Or.inl rfl⟩
  | true =>
    have hib : ib (nI t) 6 = true := ib_nI ht (by omega)
    have hcl : (nI t).toNatClampNeg = t := nI_clamp (by omega)
    rw [if_neg (show ¬ b_2 true = 0 from by decide), if_neg (show ¬ b_2 true = 0 from by decide)]
    simp only [hib, hcl, ↓reduceIte]
    rw [(hWm t ht).1]
    by_cases hd : df t = true
    · obtain ⟨w2, w3, w4, w5, w6, w7, w8⟩ := (hWm t ht).2 hd
      obtain ⟨c2, c4⟩ := hC hd
      obtain ⟨hj, hs, ⟨hi1, hi2⟩, ⟨ho1, ho2⟩, hr⟩ := hD t ht hd
      have hnz : is t ≠ 0 := by
        unfold go_n at hi2
        simp only [Bool.and_eq_true, bne_iff_ne, ne_eq] at hi2
        exact hi2.1
      have eD : sp_Net_isDefined (nI t) uC = some (1, uC) := by
        rcases df_ca hW hWm (nI t) with ⟨t', h1, h2, h3, h4, h5⟩ | ⟨h4, h5⟩
        · exact h4
        · exfalso
          unfold sp_Md_isDefined sp_Md_isTask at h5
          rw [if_neg (nI_pos (by omega)), if_neg (show ¬ (5 : Int32) < nI t from nI_nlt (a := 5) (by omega) (by omega)), cl_some, if_neg n1, if_pos (ib_nI ht (by omega)), nI_clamp (by omega), (hWm t ht).1, if_pos hd, if_neg n1] at h5
          cases h5
      rw [eD, cl_some, if_neg n1, if_pos hd, if_neg n1, md_runs hp ht q2, cl_some]
      simp only [nm_k]
      rw [q1, c4, c2, (hW t ht).1, nx_and, nx_and, w2, w4, q2, nx_and, Nat.and_comm (is t) p]
      have hle : p &&& is t ≤ is t := Nat.and_le_right
      have hlp : p &&& 2 ^ (8 + t) ≤ p := Nat.and_le_left
      by_cases hb : p.testBit (8 + t) = true
      · rw [if_neg (fun e => by have := tp_0.mp ((nI_z (by omega)).mp e); rw [hb] at this; cases this), if_pos hb, if_neg n1]
        exact ⟨0, uC, uM, rfl, rfl, fr_s_rf _, fr_m_rf _, Or.inl rfl⟩
      · have hb' : p.testBit (8 + t) = false := Bool.eq_false_iff.mpr hb
        rw [if_pos ((nI_z (by omega)).mpr (tp_0.mpr hb')), if_neg hb, if_pos rfl]
        by_cases hm : p &&& is t = 0
        · rw [if_pos ((nI_z (by omega)).mpr hm), if_pos ((nI_z (by omega)).mpr hm)]
          by_cases hj0 : jo t = 0
          · rw [if_pos ((nI_z (by omega)).mpr hj0), if_neg (fun e => by
              have := (nI_eq (by omega) (by omega)).mp e
              omega)]
            exact ⟨0, uC, uM, rfl, rfl, fr_s_rf _, fr_m_rf _, Or.inl rfl⟩
          · rw [if_neg (fun e => hj0 ((nI_z (by omega)).mp e))]
            exact ⟨0, uC, uM, rfl, rfl, fr_s_rf _, fr_m_rf _, Or.inl rfl⟩
        · have hm1 : ¬ nI (p &&& is t) = 0 := fun e => hm ((nI_z (by omega)).mp e)
          rw [if_neg hm1, if_neg hm1]
          by_cases hj0 : jo t = 0
          · have e0 : nI (jo t) = 0 := (nI_z (by omega)).mpr hj0
            rw [if_pos e0, if_pos e0]
            by_cases hme : nI (p &&& is t) = nI (is t)
            · rw [if_pos hme, if_pos hme]
              exact ⟨1, uC, uM, rfl, rfl, fr_s_rf _, fr_m_rf _, Or.inr ⟨rfl, trivial, hd, hb', hm⟩⟩
            · rw [if_neg hme, if_neg hme]
              exact ⟨0, uC, uM, rfl, rfl, fr_s_rf _, fr_m_rf _, Or.inl rfl⟩
          · have e0 : ¬ nI (jo t) = 0 := fun e => hj0 ((nI_z (by omega)).mp e)
            rw [if_neg e0, if_neg e0]
            by_cases hj1 : nI (jo t) = (1 : Int32)
            · rw [if_pos hj1, if_pos hj1]
              exact ⟨1, uC, uM, rfl, rfl, fr_s_rf _, fr_m_rf _, Or.inr ⟨rfl, trivial, hd, hb', hm⟩⟩
            · rw [if_neg hj1, if_neg hj1]
              obtain ⟨r1, u1, g1, g2, g3⟩ := mo_C (F := F) (df := df) (jo := jo) (sp := sp) (is := is) (os := os) (rg := rg) hF (p := p) (t := t) hp hi1 F 0 uC (by omega) (by omega) hW q1
              obtain ⟨r2, u2, k1, k2, k3⟩ := mo_M (F := F) hF hD hp ht hd F 0 uM (by omega) (by omega) hWm q2
              have E1 : sp_CN_canMoreInputsCome F (nI t) uC = some (r1, u1) := by
                unfold sp_CN_canMoreInputsCome
                rw [if_pos (ib_nI ht (by omega)), nI_clamp (by omega), c4]
                exact g1
              have E2 : sp_Md_isLast F (nI t) uM = some (r2, u2) := by
                unfold sp_Md_isLast
                rw [if_pos (ib_nI ht (by omega)), nI_clamp (by omega), w4, q2, nx_and]
                exact k1
              rw [E1, E2, cl_some, cl_some]
              have f2 := (bk_use hi1 hi2).2
              rcases g3 with ⟨a1, x, hx, hmo⟩ | ⟨a1, hno⟩
              · rcases k3 with ⟨b1, _⟩ | ⟨b1, hno⟩
                · rw [a1, b1, if_neg n1, if_pos rfl]
                  exact ⟨0, u1, u2, rfl, rfl, g2, k2, Or.inl rfl⟩
                · exfalso
                  obtain ⟨k, hk, ek⟩ := f2 x hx hmo.1
                  exact hno x k (by omega) hk hx ek hmo
              · rcases k3 with ⟨b1, x, hx, hmo⟩ | ⟨b1, _⟩
                · exact absurd hmo (hno x (by omega) hx)
                · rw [a1, b1, if_pos rfl, if_neg n1]
                  exact ⟨1, u1, u2, rfl, rfl, g2, k2, Or.inr ⟨rfl, trivial, hd, hb', hm⟩⟩
    · have eD : sp_Net_isDefined (nI t) uC = some (0, uC) := by
        rcases df_ca hW hWm (nI t) with ⟨t', h1, h2, h3, h4, h5⟩ | ⟨h4, h5⟩
        · exfalso
          have := (nI_eq (by omega) (by omega)).mp h2
          subst this
          exact hd h3
        · exact h4
      rw [eD, cl_some, if_pos rfl, if_neg hd, if_pos rfl]
      exact ⟨0, uC, uM, rfl, rfl, fr_s_rf _, fr_m_rf _, Or.inl rfl⟩
end ENAB
