theorem rr_I_fr {uC uM uC' uM' : St} {mm : Nat} {tt ss : Nat → Nat} (h : rr_I uC uM mm tt ss) (c : ∀ k, 46 ≤ k → k ≤ 48 → uC'.1 k = uC.1 k) (m : ∀ k, 17 ≤ k → k ≤ 19 → uM'.1 k = uM.1 k) : rr_I uC' uM' mm tt ss := by
  intro i h1 h2
  rw [c 46 (by omega) (by omega), c 47 (by omega) (by omega), c 48 (by omega) (by omega), m 17 (by omega) (by omega), m 18 (by omega) (by omega), m 19 (by omega) (by omega)]
  exact h i h1 h2
theorem rr_T_fr {uC uM uC' uM' : St} {df : Nat → Bool} {jo sp is os nn th vv dd fi : Nat → Nat} {gv : Nat → Nat → Nat} {mm : Nat} (h : rr_T uC uM df jo sp is os nn th vv dd fi gv mm) (c : ∀ k, 9 ≤ k → k ≤ 44 → uC'.1 k = uC.1 k) (m : ∀ k, 9 ≤ k → k ≤ 20 → k ≠ 16 → k ≠ 17 → k ≠ 18 → k ≠ 19 → uM'.1 k = uM.1 k) : rr_T uC' uM' df jo sp is os nn th vv dd fi gv mm := by
  intro t ht
  rw [c (9 + 6 * t) (by omega) (by omega), c (9 + 6 * t + 3) (by omega) (by omega), c (9 + 6 * t + 4) (by omega) (by omega), c (9 + 6 * t + 5) (by omega) (by omega), m 20 (by omega) (by omega) (by omega) (by omega) (by omega) (by omega), m 12 (by omega) (by omega) (by omega) (by omega) (by omega) (by omega), m 13 (by omega) (by omega) (by omega) (by omega) (by omega) (by omega), m 14 (by omega) (by omega) (by omega) (by omega) (by omega) (by omega), m 15 (by omega) (by omega) (by omega) (by omega) (by omega) (by omega), m 9 (by omega) (by omega) (by omega) (by omega) (by omega) (by omega), m 10 (by omega) (by omega) (by omega) (by omega) (by omega) (by omega), m 11 (by omega) (by omega) (by omega) (by omega) (by omega) (by omega)]
  exact h t ht
theorem nw_fr2 {u u' : St} {df : Nat → Bool} {jo sp is os rg : Nat → Nat} (h : cn_W df jo sp is os rg u) (hk : ∀ k, 9 ≤ k → k ≤ 44 → u'.1 k = u.1 k) : cn_W df jo sp is os rg u' := by
  intro t ht
  rw [hk _ (by omega) (by omega), hk _ (by omega) (by omega), hk _ (by omega) (by omega)]
  exact h t ht
theorem md_fr2 {u u' : St} {df : Nat → Bool} {jo sp is os rg : Nat → Nat} (h : md_W df jo sp is os rg u) (hk : ∀ k, 1 ≤ k → k ≤ 8 → u'.1 k = u.1 k) : md_W df jo sp is os rg u' := by
  intro t ht
  rw [hk 1 (by omega) (by omega), hk 2 (by omega) (by omega), hk 3 (by omega) (by omega), hk 4 (by omega) (by omega), hk 5 (by omega) (by omega), hk 6 (by omega) (by omega), hk 7 (by omega) (by omega), hk 8 (by omega) (by omega)]
  exact h t ht
theorem pi_p {u : St} {q j k : Nat} {v : Int32} (h : k ≠ q) : (ly_pi u q j v).1 k = u.1 k := va_up_ne _ _ h
theorem rs_set {F : Nat} : RS_set RR F := by
  intro uC uM h a v
  have h' := h
  obtain ⟨df, jo, sp, is, os, rg, nn, th, vv, dd, fi, gv, on, p, mm, tt, ss, hS, hI, hT, ⟨hW, hWm, hD⟩, hV⟩ := h
  unfold sp_CN_set sp_Md_set
  rcases vr_ca a uC with ⟨j, hj, rfl, e⟩ | ⟨hb, e⟩
  · refine ⟨1, ly_pi uC 49 j v, ly_pi uM 16 j v, ?_, ?_, df, jo, sp, is, os, rg, nn, th, vv, dd, fi, gv, on, p, mm, tt, ss, ?_, rr_I_fr hI (fun k _ _ => pi_p (by omega)) (fun k _ _ => pi_p (by omega)), rr_T_fr hT (fun k _ _ => pi_p (by omega)) (fun k _ _ h _ _ _ => pi_p h), ⟨nw_fr2 hW (fun k _ _ => pi_p (by omega)), md_fr2 hWm (fun k _ _ => pi_p (by omega)), hD⟩, hV⟩
    · rw [e, cl_some, if_neg (by decide), if_pos (ib_nI hj (by omega)), nI_clamp (by omega)]; rfl
    · rw [if_neg (nI_pos (by omega)), if_pos (show nI j ≤ (3 : Int32) from nI_le (b := 3) (by omega) (by omega)), if_pos (ib_nI hj (by omega)), nI_clamp (by omega)]; rfl
    · unfold rr_S at hS ⊢
      rw [pi_p (q := 49) (k := 0) (by omega), pi_p (q := 49) (k := 45) (by omega), pi_p (q := 16) (k := 0) (by omega)]
      refine ⟨hS.1, hS.2.1, hS.2.2.1, hS.2.2.2.1, hS.2.2.2.2.1, hS.2.2.2.2.2.1, fun i hi => ?_, hS.2.2.2.2.2.2.2⟩
      by_cases hij : i = j
      · subst hij; rw [pi_at, pi_at]
      · rw [pi_ne (Or.inr hij), pi_ne (Or.inr hij)]; exact hS.2.2.2.2.2.2.1 i hi
  · refine ⟨0, uC, uM, by rw [e, cl_some, if_pos rfl], ?_, h'⟩
    by_cases h0 : a < 0
    · rw [if_pos h0]
    · rw [if_neg h0, if_neg (i_ltle (hb.elim (fun h => absurd h h0) id))]
/-- an item's number: both sides know it alike -/
theorem it_ca {uC uM : St} {on : Bool} {p mm : Nat} (hS : rr_S uC uM on p mm) (a : Int32) : (∃ j, 1 ≤ j ∧ j ≤ mm ∧ a = nI j ∧ sp_Work_has a uC = some (1, uC) ∧ sp_Md_isItem a uM = some (1, uM)) ∨ (sp_Work_has a uC = some (0, uC) ∧ sp_Md_isItem a uM = some (0, uM)) := by
  obtain ⟨-, -, -, -, -, -, -, h1, h2, h3⟩ := hS
  unfold sp_Work_has sp_Md_isItem
  rw [h1, h2]
  by_cases c1 : a < (1 : Int32)
  · exact Or.inr ⟨by rw [if_pos c1], by rw [if_pos c1]⟩
  · by_cases c2 : nI mm < a
    · exact Or.inr ⟨by rw [if_neg c1, if_pos c2], by rw [if_neg c1, if_pos c2]⟩
    · have hpos : ¬ a < 0 := by
        rw [Int32.lt_iff_toInt_lt] at c1 ⊢
        rw [show (1 : Int32).toInt = 1 from by decide] at c1
        rw [show (0 : Int32).toInt = 0 from by decide]
        omega
      obtain ⟨j, hj, e⟩ := nI_of hpos
      subst e
      refine Or.inl ⟨j, ?_, ?_, rfl, by rw [if_neg c1, if_neg c2], by rw [if_neg c1, if_neg c2]⟩
      · rcases Nat.lt_or_ge j 1 with h | h
        · exfalso; exact c1 (nI_lt (b := 1) h (by omega))
        · exact h
      · exact (nI_leI hj (by omega)).mp (i_nlt c2)
theorem ct_eq {ss ss' : Nat → Nat} {a : Nat} : ∀ n, (∀ i, a ≤ i → i < a + n → (ss' i = 3 ↔ ss i = 3)) → ct_n ss' a n = ct_n ss a n
  | 0, _ => rfl
  | n + 1, h => by
    unfold ct_n
    rw [ct_eq n (fun i h1 h2 => h i h1 (by omega))]
    have := h (a + n) (by omega) (by omega)
    by_cases e : ss (a + n) = 3
    · rw [if_pos e, if_pos (this.mpr e)]
    · rw [if_neg e, if_neg (fun h => e (this.mp h))]
theorem rs_start {F : Nat} : RS_start RR F := by
  intro uC uM h a
  have h' := h
  obtain ⟨df, jo, sp, is, os, rg, nn, th, vv, dd, fi, gv, on, p, mm, tt, ss, hS, hI, hT, ⟨hW, hWm, hD⟩, hV⟩ := h
  have hmm := hS.2.2.2.2.2.2.2.2.2
  rcases it_ca hS a with ⟨j, j1, j2, rfl, e1, e2⟩ | ⟨e1, e2⟩
  · obtain ⟨⟨i1, i2, i3⟩, ⟨s1, s2, s3, s4⟩, i4⟩ := hI j j1 j2
    have E1 : sp_CN_start (nI j) uC = if ss j = 1 then some (0, ly_pi uC 47 j 2) else some (-2, uC) := by
      unfold sp_CN_start
      rw [e1, cl_some, if_neg (show ¬ (1 : Int32) = 0 from by decide), if_pos (ib_nI (by omega) (by omega)), nI_clamp (by omega), s1]
      by_cases hs : ss j = 1
      · rw [if_pos ((nI_o (by omega)).mpr hs), if_pos (ib_nI (by omega) (by omega)), if_pos hs]; rfl
      · rw [if_neg (fun e => hs ((nI_o (by omega)).mp e)), if_neg hs]
    have E2 : sp_Md_start (nI j) uM = if ss j = 1 then some (0, ly_pi uM 18 j 2) else some (-2, uM) := by
      unfold sp_Md_start
      rw [e2, cl_some, if_neg (show ¬ (1 : Int32) = 0 from by decide), if_pos (ib_nI (by omega) (by omega)), nI_clamp (by omega), s2]
      by_cases hs : ss j = 1
      · rw [if_pos ((nI_o (by omega)).mpr hs), if_pos (ib_nI (by omega) (by omega)), if_pos hs]; rfl
      · rw [if_neg (fun e => hs ((nI_o (by omega)).mp e)), if_neg hs]
    rw [E1, E2]
    by_cases hs : ss j = 1
    · rw [if_pos hs, if_pos hs]
      refine ⟨0, ly_pi uC 47 j 2, ly_pi uM 18 j 2, rfl, rfl, df, jo, sp, is, os, rg, nn, th, vv, dd, fi, gv, on, p, mm, tt, va_up ss j 2, ?_, fun i h1 h2 => ?_, rr_T_fr hT (fun k _ _ => pi_p (by omega)) (fun k _ _ _ _ h _ => pi_p h), ⟨nw_fr2 hW (fun k _ _ => pi_p (by omega)), md_fr2 hWm (fun k _ _ => pi_p (by omega)), hD⟩, hV.1, fun t ht hr => ?_, fun i h1 h2 h3 => ?_⟩
      · unfold rr_S at hS ⊢
        rw [pi_p (q := 47) (k := 0) (by omega), pi_p (q := 47) (k := 45) (by omega), pi_p (q := 47) (k := 49) (by omega), pi_p (q := 18) (k := 0) (by omega), pi_p (q := 18) (k := 16) (by omega)]
        exact hS
      · rw [pi_p (q := 47) (k := 46) (by omega), pi_p (q := 47) (k := 48) (by omega), pi_p (q := 18) (k := 17) (by omega), pi_p (q := 18) (k := 19) (by omega)]
        obtain ⟨a1, a2, a3⟩ := hI i h1 h2
        refine ⟨a1, ?_, a3⟩
        by_cases hij : i = j
        · subst hij; rw [pi_at, pi_at, va_up_self]; exact ⟨rfl, rfl, by omega, by omega⟩
        · rw [pi_ne (Or.inr hij), pi_ne (Or.inr hij), va_up_ne _ _ hij]; exact a2
      · obtain ⟨b1, b2, b3, b4, b5, b6⟩ := hV.2.1 t ht hr
        refine ⟨b1, b2, b3, b4, b5, ?_⟩
        rw [ct_eq (nn t) (fun i _ _ => ?_)]
        · exact b6
        · by_cases hij : i = j
          · subst hij; rw [va_up_self, hs]; omega
          · rw [va_up_ne _ _ hij]
      · by_cases hij : i = j
        · subst hij; exact hV.2.2 i h1 h2 (by omega)
        · rw [va_up_ne _ _ hij] at h3; exact hV.2.2 i h1 h2 h3
    · rw [if_neg hs, if_neg hs]
      exact ⟨-2, uC, uM, rfl, rfl, h'⟩
  · refine ⟨-1, uC, uM, ?_, ?_, h'⟩
    · unfold sp_CN_start; rw [e1, cl_some, if_pos rfl]
    · unfold sp_Md_start; rw [e2, cl_some, if_pos rfl]
