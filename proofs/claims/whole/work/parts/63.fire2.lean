theorem ct_z {ss : Nat → Nat} {a : Nat} : ∀ n, (∀ i, a ≤ i → i < a + n → ss i ≠ 3) → ct_n ss a n = 0
  | 0, _ => rfl
  | n + 1, h => by
    unfold ct_n
    rw [ct_z n (fun i h1 h2 => h i h1 (by omega)), if_neg (h (a + n) (by omega) (by omega))]
section FIRE
variable {df : Nat → Bool} {jo sp is os rg nn th vv dd fi : Nat → Nat} {gv : Nat → Nat → Nat} {p mm : Nat} {tt ss : Nat → Nat} {F : Nat} {uC uM : St}
theorem fr_fin {uC' uM' : St} {t us : Nat} (ht : t < 6) (hd : df t = true) (hf : p.testBit (8 + t) = false) (hus : us < 256) (hm : mm + nn t ≤ 60) (h : rr_B uC uM df jo sp is os rg nn th vv dd fi gv true p mm tt ss) (hV : rr_V df nn th fi true p mm tt ss)
    (c : ∀ k, k ≠ 0 → k ≠ 45 → k ≠ 46 → k ≠ 47 → k ≠ 48 → k ≠ 9 + 6 * t → uC'.1 k = uC.1 k) (c0 : ∀ j, j ≠ 4 → uC'.1 0 j = uC.1 0 j) (c04 : uC'.1 0 4 = nI (mk_nd p us ||| 2 ^ (8 + t))) (c45 : uC'.1 45 3 = nI (mm + nn t)) (ct : ∀ j, j ≠ 11 → uC'.1 (9 + 6 * t) j = uC.1 (9 + 6 * t) j) (ct11 : uC'.1 (9 + 6 * t) 11 = nI (mm + 1)) (c46 : ∀ j, uC'.1 46 j = if mm + 1 ≤ j ∧ j < mm + 1 + nn t then nI t else uC.1 46 j) (c47 : ∀ j, uC'.1 47 j = if mm + 1 ≤ j ∧ j < mm + 1 + nn t then 1 else uC.1 47 j) (c48 : ∀ j, uC'.1 48 j = if mm + 1 ≤ j ∧ j < mm + 1 + nn t then uC.1 0 5 else uC.1 48 j)
    (m : ∀ k, k ≠ 0 → k ≠ 17 → k ≠ 18 → k ≠ 19 → k ≠ 20 → uM'.1 k = uM.1 k) (m0 : ∀ j, j ≠ 16 → j ≠ 19 → uM'.1 0 j = uM.1 0 j) (m016 : uM'.1 0 16 = nI (mk_nd p us ||| 2 ^ (8 + t))) (m019 : uM'.1 0 19 = nI (mm + nn t)) (m20 : ∀ j, j ≠ t → uM'.1 20 j = uM.1 20 j) (m20t : uM'.1 20 t = nI (mm + 1)) (m17 : ∀ j, uM'.1 17 j = if mm + 0 < j ∧ j ≤ mm + nn t then nI t else uM.1 17 j) (m18 : ∀ j, uM'.1 18 j = if mm + 0 < j ∧ j ≤ mm + nn t then 1 else uM.1 18 j) (m19 : ∀ j, uM'.1 19 j = if mm + 0 < j ∧ j ≤ mm + nn t then uM.1 0 17 else uM.1 19 j) : RR uC' uM' := by
  obtain ⟨hS, hI, hT, hW, hWm, hD⟩ := h
  obtain ⟨S1, S2, S3, S4, S5, S6, S7, S8, S9, S10⟩ := hS
  obtain ⟨-, ⟨-, -, nn1, nn4⟩, ⟨-, -, th1, th2⟩, -⟩ := (hT t ht).2 hd
  have hp' : mk_nd p us ||| 2 ^ (8 + t) < 16384 := or_lt14 (nd_lt14 S5) (tp_lt ht)
  have hbit : ∀ s, (mk_nd p us ||| 2 ^ (8 + t)).testBit (8 + s) = (p.testBit (8 + s) || decide (s = t)) := fun s => by
    rw [Nat.testBit_or, mk_ndb, Nat.testBit_two_pow, Nat.testBit_lt_two_pow (Nat.lt_of_lt_of_le hus (Nat.pow_le_pow_right (n := 2) (i := 8) (by omega) (by omega)))]
    have : decide (8 + t = 8 + s) = decide (s = t) := by
      by_cases e : s = t
      · rw [decide_eq_true e, decide_eq_true (by omega)]
      · rw [decide_eq_false e, decide_eq_false (by omega)]
    rw [this]
    simp
  refine ⟨df, jo, sp, is, os, rg, nn, th, vv, dd, va_up fi t (mm + 1), gv, true, mk_nd p us ||| 2 ^ (8 + t), mm + nn t, fun i => if mm < i then t else tt i, fun i => if mm < i then 1 else ss i, ⟨?_, ?_, c04, m016, hp', ?_, fun i hi => ?_, c45, m019, hm⟩, fun i h1 h2 => ?_, fun s hs => ?_, ⟨fun s hs => ?_, ?_, hD⟩, (fun h => nomatch h), fun s hs hr => ?_, fun i h1 h2 h3 => ?_⟩
  · rw [c0 3 (by omega)]; exact S1
  · rw [m0 15 (by omega) (by omega)]; exact S2
  · rw [m0 17 (by omega) (by omega), c0 5 (by omega)]; exact S6
  · rw [c 49 (by omega) (by omega) (by omega) (by omega) (by omega) (by omega), m 16 (by omega) (by omega) (by omega) (by omega) (by omega)]; exact S7 i hi
  · rw [c46 i, c47 i, c48 i, m17 i, m18 i, m19 i]
    by_cases hx : mm < i
    · simp only [if_pos hx]
      rw [if_pos (by omega), if_pos (by omega), if_pos (by omega), if_pos (by omega), if_pos (by omega), if_pos (by omega)]
      exact ⟨⟨rfl, rfl, ht⟩, ⟨rfl, rfl, by omega, by omega⟩, S6⟩
    · simp only [if_neg hx]
      rw [if_neg (by omega), if_neg (by omega), if_neg (by omega), if_neg (by omega), if_neg (by omega), if_neg (by omega)]
      exact hI i h1 (by omega)
  · rw [m 12 (by omega) (by omega) (by omega) (by omega) (by omega), m 13 (by omega) (by omega) (by omega) (by omega) (by omega), m 14 (by omega) (by omega) (by omega) (by omega) (by omega), m 15 (by omega) (by omega) (by omega) (by omega) (by omega), m 9 (by omega) (by omega) (by omega) (by omega) (by omega), m 10 (by omega) (by omega) (by omega) (by omega) (by omega), m 11 (by omega) (by omega) (by omega) (by omega) (by omega), c (9 + 6 * s + 3) (by omega) (by omega) (by omega) (by omega) (by omega) (by omega), c (9 + 6 * s + 4) (by omega) (by omega) (by omega) (by omega) (by omega) (by omega), c (9 + 6 * s + 5) (by omega) (by omega) (by omega) (by omega) (by omega) (by omega)]
    obtain ⟨⟨a1, a2, a3⟩, b⟩ := hT s hs
    by_cases e : s = t
    · subst e
      rw [ct 2 (by omega), ct 3 (by omega), ct 4 (by omega), ct 5 (by omega), ct 7 (by omega), ct 8 (by omega), ct 9 (by omega), ct 10 (by omega), ct11, m20t, va_up_self]
      exact ⟨⟨rfl, rfl, by omega⟩, b⟩
    · rw [c (9 + 6 * s) (by omega) (by omega) (by omega) (by omega) (by omega) (by omega), m20 s e, va_up_ne _ _ e]
      exact ⟨⟨a1, a2, by omega⟩, b⟩
  · rw [c (9 + 6 * s + 1) (by omega) (by omega) (by omega) (by omega) (by omega) (by omega), c (9 + 6 * s + 2) (by omega) (by omega) (by omega) (by omega) (by omega) (by omega)]
    by_cases e : s = t
    · subst e
      rw [ct 0 (by omega), ct 1 (by omega), ct 6 (by omega), ct 14 (by omega), ct 15 (by omega)]
      exact hW s hs
    · rw [c (9 + 6 * s) (by omega) (by omega) (by omega) (by omega) (by omega) (by omega)]
      exact hW s hs
  · exact md_fr2 hWm (fun k _ _ => m k (by omega) (by omega) (by omega) (by omega) (by omega))
  · by_cases e : s = t
    · subst e
      rw [va_up_self]
      refine ⟨hd, by omega, by omega, fun i g1 g2 => ?_, fun i g1 g2 => by omega, ?_⟩
      · exact if_pos (by omega)
      · rw [ct_z (nn s) (fun i g1 g2 => by simp only [if_pos (show mm < i by omega)]; omega)]
        omega
    · rw [hbit s, decide_eq_false e, Bool.or_false] at hr
      obtain ⟨b1, b2, b3, b4, b5, b6⟩ := hV.2.1 s hs hr
      rw [va_up_ne _ _ e]
      refine ⟨b1, b2, by omega, fun i g1 g2 => ?_, fun i g1 g2 => ?_, ?_⟩
      · exact (if_neg (by omega)).trans (b4 i g1 g2)
      · by_cases hx : mm < i
        · simp only [if_pos hx]; exact fun h => e h.symm
        · simp only [if_neg hx]; exact b5 i g1 (by omega)
      · rw [ct_eq (ss := ss) (nn s) (fun i g1 g2 => by simp only [if_neg (show ¬ mm < i by omega)])]
        exact b6
  · by_cases hx : mm < i
    · simp only [if_pos hx]
      rw [hbit t, decide_eq_true rfl, Bool.or_true, va_up_self]
      exact ⟨rfl, by omega, by omega⟩
    · simp only [if_neg hx] at h3 ⊢
      obtain ⟨q1, q2, q3⟩ := hV.2.2 i h1 (by omega) h3
      have e : tt i ≠ t := fun e => by rw [e, hf] at q1; cases q1
      rw [hbit, q1, Bool.true_or, va_up_ne _ _ e]
      exact ⟨rfl, q2, q3⟩
end FIRE
