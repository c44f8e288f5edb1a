/-- the mask set at place q holds S; all words before its first used one are empty -/
def ms_ok (u : St) (q : Nat) (S : Nat → Bool) : Prop := (∀ x, x < 16384 → ms_in u q x = S x) ∧ ∃ f, f ≤ 256 ∧ u.1 q 1 = nI f ∧ ∀ x, x < 64 * f → S x = false
theorem ms_ok_eq {u u' : St} {q : Nat} {S : Nat → Bool} (h : ms_ok u q S) (h1 : u'.1 q 1 = u.1 q 1) (h2 : u'.2 (q + 1) = u.2 (q + 1)) : ms_ok u' q S := by
  refine ⟨fun x hx => ?_, ?_⟩
  · rw [← h.1 x hx]; unfold ms_in; rw [h2]
  · rw [h1]; exact h.2
theorem ms_min {u : St} {q m : Nat} {S : Nat → Bool} (h : ∃ f, f ≤ 256 ∧ u.1 q 1 = nI f ∧ ∀ x, x < 64 * f → S x = false) (hm : m < 16384) : ∃ f, f ≤ 256 ∧ (if u.1 q 1 ≤ nI (m / 64) then u.1 q 1 else nI (m / 64)) = nI f ∧ f ≤ m / 64 ∧ ∀ x, x < 64 * f → S x = false := by
  obtain ⟨f, h1, h2, h3⟩ := h
  rw [h2]
  by_cases hc : nI f ≤ nI (m / 64)
  · rw [if_pos hc]
    exact ⟨f, h1, rfl, (nI_leI (by omega) (by omega)).mp hc, h3⟩
  · rw [if_neg hc]
    have hlt : ¬ f ≤ m / 64 := fun h => hc ((nI_leI (by omega) (by omega)).mpr h)
    exact ⟨m / 64, by omega, rfl, Nat.le_refl _, fun x hx => h3 x (by omega)⟩
theorem ms_has {u : St} {q m : Nat} {S : Nat → Bool} (h : ms_ok u q S) (hm : m < 16384) : sp_MS_has q (nI m) u = some (if S m = true then 1 else 0, u) := by
  rw [pm_has u hm, h.1 m hm]
theorem ms_clear {F q : Nat} (u : St) (hF : 256 < F) : ∃ u', sp_MS_clear F q u = some (0, u') ∧ ms_fr q u u' ∧ ms_ok u' q (fun _ => false) := by
  obtain ⟨u', h1, h2, h3, h4⟩ := pm_clear (q := q) u hF
  exact ⟨u', h1, h2, h3, 256, by omega, h4, fun _ _ => rfl⟩
theorem ms_add {u : St} {q m : Nat} {S : Nat → Bool} (h : ms_ok u q S) (hm : m < 16384) : ∃ u', sp_MS_add q (nI m) u = some (0, u') ∧ ms_fr q u u' ∧ ms_ok u' q (fun x => decide (x = m) || S x) := by
  obtain ⟨u', h1, h2, h3, h4⟩ := pm_add (q := q) u hm
  obtain ⟨f, g1, g2, g3, g4⟩ := ms_min h.2 hm
  refine ⟨u', h1, h2, fun x hx => by rw [h3, h.1 x hx], f, g1, by rw [h4, g2], fun x hx => ?_⟩
  show (decide (x = m) || S x) = false
  rw [g4 x hx, decide_eq_false (by omega)]; rfl
theorem ms_above {F : Nat} {u : St} {q m : Nat} {S : Nat → Bool} (h : ms_ok u q S) (hm : m < 16384) (hF : 300 < F) : ∃ u', sp_MS_addAllAbove F q (nI m) u = some (0, u') ∧ ms_fr q u u' ∧ ms_ok u' q (fun x => decide (x &&& m = m) || S x) := by
  obtain ⟨u', h1, h2, h3, h4⟩ := pm_above (q := q) u hm hF
  obtain ⟨f, g1, g2, g3, g4⟩ := ms_min h.2 hm
  refine ⟨u', h1, h2, fun x hx => by rw [h3 x hx, h.1 x hx], f, g1, by rw [h4, g2], fun x hx => ?_⟩
  have hlt : ¬ x &&& m = m := fun e => by
    have : m ≤ x := by rw [← e]; exact Nat.and_le_left
    omega
  show (decide (x &&& m = m) || S x) = false
  rw [g4 x hx, decide_eq_false hlt]; rfl
theorem pm_draw (F q : Nat) (S : Nat → Bool) (u0 : St) : ∀ (n f : Nat) (u : St), ms_fr q u0 u → f ≤ 256 → 256 - f < n → u.1 q 1 = nI f → (∀ x, x < 16384 → ms_in u q x = S x) → (∀ x, x < 64 * f → S x = false) →
    (∃ x, x < 16384 ∧ S x = true ∧ (∀ y, y < x → S y = false) ∧ ∃ u', lp_MS_draw_0 F q (fun (u10 : St) => (some ((-1 : Int32), u10))) n u = some (nI x, u') ∧ ms_fr q u0 u' ∧ ms_ok u' q (fun y => S y && !decide (y = x))) ∨ ((∀ x, x < 16384 → S x = false) ∧ ∃ u', lp_MS_draw_0 F q (fun (u10 : St) => (some ((-1 : Int32), u10))) n u = some (-1, u') ∧ ms_fr q u0 u' ∧ ms_ok u' q S) := by
  intro n
  induction n with
  | zero => intro f u _ _ h; omega
  | succ n ih =>
    intro f u hfr hf hn h1 hin hlo
    rw [lp_MS_draw_0, h1]
    by_cases hc : f = 256
    · subst hc
      rw [if_pos (show (256 : Int32) ≤ nI 256 from by decide)]
      exact Or.inr ⟨fun x hx => hlo x (by omega), u, rfl, hfr, hin, 256, by omega, h1, hlo⟩
    · rw [if_neg (show ¬ (256 : Int32) ≤ nI f from nI_ge (b := 256) (by omega) (by omega)), if_pos (ib_nI (by omega) (by omega)), nI_clamp (by omega)]
      simp only [nm_k]
      have hw : ∀ j, j < 64 → S (64 * f + j) = (u.2 (q + 1) f).toBitVec.getLsbD j := fun j hj => by
        rw [← hin _ (by omega)]
        unfold ms_in
        rw [show (64 * f + j) / 64 = f by omega, show (64 * f + j) % 64 = j by omega]
      by_cases h0 : lg_cmp (u.2 (q + 1) f) 0 = 0
      · rw [if_pos h0, nI_1]
        have e0 := (lg_cmp_eq _ _).mp h0
        refine ih (f + 1) (ly_pi u q 1 (nI (f + 1))) (ms_fr_pi q _ hfr) (by omega) (by omega) (pi_at _ _ _ _) hin (fun x hx => ?_)
        rcases Nat.lt_or_ge x (64 * f) with h | h
        · exact hlo x h
        · have := hw (x - 64 * f) (by omega)
          rw [show 64 * f + (x - 64 * f) = x by omega] at this
          rw [this, e0]
          simp
      · rw [if_neg h0]
        have hne : ∃ k, (u.2 (q + 1) f).toBitVec.getLsbD k = true := by
          apply Classical.byContradiction
          intro hno
          apply h0
          rw [lg_cmp_eq]
          apply Int64.toBitVec_inj.mp
          apply BitVec.eq_of_getLsbD_eq
          intro i hi
          rw [show ((0 : Int64).toBitVec).getLsbD i = false from by simp]
          exact Bool.eq_false_iff.mpr (fun h => hno ⟨i, h⟩)
        obtain ⟨k, hk, hl⟩ := pk_least _ hne
        have hk64 : k < 64 := BitVec.lt_of_getLsbD hk
        have elow : u.2 (q + 1) f &&& -u.2 (q + 1) f = Int64.ofBitVec (BitVec.twoPow 64 k) := by
          apply Int64.toBitVec_inj.mp
          rw [Int64.toBitVec_and, Int64.toBitVec_neg, low_bit hk (fun j hj => Bool.eq_false_iff.mpr (hl j hj))]
          rfl
        rw [elow, if_pos (ib_nI (by omega) (by omega))]
        simp only [bc_Le, cl_k, bc_tp k hk64]
        refine Or.inl ⟨64 * f + k, by omega, by rw [hw k hk64]; exact hk, fun y hy => ?_, ly_pl u (q + 1) f (u.2 (q + 1) f ^^^ Int64.ofBitVec (BitVec.twoPow 64 k)), ?_, ms_fr_pl q _ _ hfr, fun y hy => ?_, f, hf, h1, fun y hy => by show (S y && !decide (y = 64 * f + k)) = false; rw [hlo y hy]; rfl⟩
        · rcases Nat.lt_or_ge y (64 * f) with h | h
          · exact hlo y h
          · have := hw (y - 64 * f) (by omega)
            rw [show 64 * f + (y - 64 * f) = y by omega] at this
            rw [this]
            exact Bool.eq_false_iff.mpr (hl _ (by omega))
        · have e1 : (ly_pl u (q + 1) f (u.2 (q + 1) f ^^^ Int64.ofBitVec (BitVec.twoPow 64 k))).1 q 1 = nI f := h1
          rw [e1]
          have e2 : nI f <<< ((6 : Int32) &&& 31) = nI (f * 2 ^ 6) := pk_shlN _ 6 (by decide) (by omega)
          rw [e2, nI_add, show f * 2 ^ 6 + k = 64 * f + k by omega]
        · show _ = (S y && !decide (y = 64 * f + k))
          rw [ms_pl]
          by_cases hyf : y / 64 = f
          · rw [if_pos hyf, Int64.toBitVec_xor, BitVec.getLsbD_xor]
            rw [show (Int64.ofBitVec (BitVec.twoPow 64 k)).toBitVec = BitVec.twoPow 64 k from rfl, tp_bit _ _ hk64]
            have := hw (y % 64) (by omega)
            rw [show 64 * f + y % 64 = y by omega] at this
            rw [← this]
            by_cases hyx : k = y % 64
            · have hS : S y = true := by rw [this, ← hyx]; exact hk
              rw [decide_eq_true hyx, decide_eq_true (show y = 64 * f + k by omega), hS]; rfl
            · rw [decide_eq_false hyx, decide_eq_false (show ¬ y = 64 * f + k by omega)]
              cases S y <;> rfl
          · rw [if_neg hyf, hin y hy, decide_eq_false (show ¬ y = 64 * f + k by omega)]
            cases S y <;> rfl
theorem ms_draw {F : Nat} {u : St} {q : Nat} {S : Nat → Bool} (h : ms_ok u q S) (hF : 256 < F) : (∃ x, x < 16384 ∧ S x = true ∧ (∀ y, y < x → S y = false) ∧ ∃ u', sp_MS_draw F q u = some (nI x, u') ∧ ms_fr q u u' ∧ ms_ok u' q (fun y => S y && !decide (y = x))) ∨ ((∀ x, x < 16384 → S x = false) ∧ ∃ u', sp_MS_draw F q u = some (-1, u') ∧ ms_fr q u u' ∧ ms_ok u' q S) := by
  obtain ⟨hin, f, h1, h2, h3⟩ := h
  exact pm_draw F q S u F f u (ms_fr_rf q u) h1 (by omega) h2 hin h3
theorem w_sub (a b : Int64) : a &&& (b ^^^ (-1)) = 0 ↔ ∀ j, j < 64 → a.toBitVec.getLsbD j = true → b.toBitVec.getLsbD j = true := by
  have hm : (-1 : Int64).toBitVec = BitVec.allOnes 64 := by decide
  have hbit : ∀ j, j < 64 → (a &&& (b ^^^ (-1))).toBitVec.getLsbD j = (a.toBitVec.getLsbD j && !b.toBitVec.getLsbD j) := fun j hj => by
    rw [Int64.toBitVec_and, BitVec.getLsbD_and, Int64.toBitVec_xor, BitVec.getLsbD_xor, hm, BitVec.getLsbD_allOnes]
    simp [hj]
  constructor
  · intro h j hj ha
    have := hbit j hj
    rw [h, ha] at this
    simpa using this
  · intro h
    apply Int64.toBitVec_inj.mp
    apply BitVec.eq_of_getLsbD_eq
    intro j hj
    rw [hbit j hj]
    cases ha : a.toBitVec.getLsbD j with
    | false => simp
    | true => rw [h j hj ha]; simp
theorem pm_within (F q q2 : Nat) (u : St) : ∀ (n i : Nat), i ≤ 256 → 256 - i < n → (∀ x, x < 64 * i → ms_in u q x = true → ms_in u q2 x = true) → ∃ r, lp_MS_isWithin_2 F q q2 (fun (v2_3 : Int32) (u4 : St) => (some ((1 : Int32), u4))) n (nI i) u = some (r, u) ∧ ((r = 1 ∧ ∀ x, x < 16384 → ms_in u q x = true → ms_in u q2 x = true) ∨ (r = 0 ∧ ∃ x, x < 16384 ∧ ms_in u q x = true ∧ ms_in u q2 x = false)) := by
  intro n
  induction n with
  | zero => intro i _ h; omega
  | succ n ih =>
    intro i hi hn hlo
    rw [lp_MS_isWithin_2]
    by_cases hc : i = 256
    · subst hc
      rw [if_pos (show (256 : Int32) ≤ nI 256 from by decide)]
      exact ⟨1, rfl, Or.inl ⟨rfl, fun x hx => hlo x (by omega)⟩⟩
    · rw [if_neg (show ¬ (256 : Int32) ≤ nI i from nI_ge (b := 256) (by omega) (by omega)), if_pos (ib_nI (by omega) (by omega)), if_pos (ib_nI (by omega) (by omega)), nI_clamp (by omega)]
      by_cases h0 : u.2 (q + 1) i &&& (u.2 (q2 + 1) i ^^^ (-1)) = 0
      · rw [if_pos ((lg_cmp_eq _ _).mpr h0), nI_1]
        refine ih (i + 1) (by omega) (by omega) (fun x hx hxs => ?_)
        rcases Nat.lt_or_ge x (64 * i) with h | h
        · exact hlo x h hxs
        · unfold ms_in at hxs ⊢
          rw [show x / 64 = i by omega] at hxs ⊢
          exact (w_sub _ _).mp h0 _ (by omega) hxs
      · rw [if_neg (fun h => h0 ((lg_cmp_eq _ _).mp h))]
        refine ⟨0, rfl, Or.inr ⟨rfl, ?_⟩⟩
        apply Classical.byContradiction
        intro hno
        apply h0
        rw [w_sub]
        intro j hj ha
        cases hb : (u.2 (q2 + 1) i).toBitVec.getLsbD j with
        | true => rfl
        | false =>
          exfalso
          refine hno ⟨64 * i + j, by omega, ?_, ?_⟩ <;> unfold ms_in <;> rw [show (64 * i + j) / 64 = i by omega, show (64 * i + j) % 64 = j by omega]
          · exact ha
          · exact hb
theorem ms_within {F : Nat} {u : St} {q q2 : Nat} {S S2 : Nat → Bool} (h : ms_ok u q S) (h2 : ms_ok u q2 S2) (hF : 256 < F) : ∃ r, sp_MS_isWithin F q q2 u = some (r, u) ∧ ((r = 1 ∧ ∀ x, x < 16384 → S x = true → S2 x = true) ∨ (r = 0 ∧ ∃ x, x < 16384 ∧ S x = true ∧ S2 x = false)) := by
  obtain ⟨r, h3, h4⟩ := pm_within F q q2 u F 0 (by omega) (by omega) (fun x hx => by omega)
  refine ⟨r, h3, ?_⟩
  rcases h4 with ⟨e, h5⟩ | ⟨e, x, hx, h5, h6⟩
  · exact Or.inl ⟨e, fun x hx => by rw [← h.1 x hx, ← h2.1 x hx]; exact h5 x hx⟩
  · exact Or.inr ⟨e, x, hx, by rw [← h.1 x hx]; exact h5, by rw [← h2.1 x hx]; exact h6⟩
