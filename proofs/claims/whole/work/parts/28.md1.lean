/-! the reference's search on -/
theorem sh_s : ∀ k, k < 64 → (((nI k).toInt64 &&& 63).toBitVec.smod 64).toNat = k := by decide +kernel
theorem bit_s (w : Int64) {k : Nat} (hk : k < 64) : (w >>> ((nI k).toInt64 &&& 63)) &&& 1 = 0 ↔ w.toBitVec.getLsbD k = false := by
  have e : ∀ i, (w >>> ((nI k).toInt64 &&& 63)).toBitVec.getLsbD i = (w.toBitVec.sshiftRight k).getLsbD i := fun i => by
    rw [Int64.toBitVec_shiftRight]
    show (w.toBitVec.sshiftRight (((nI k).toInt64 &&& 63).toBitVec.smod 64).toNat).getLsbD i = _
    rw [sh_s k hk]
  have b0 : (w >>> ((nI k).toInt64 &&& 63)).toBitVec.getLsbD 0 = w.toBitVec.getLsbD k := by
    rw [e 0, BitVec.getLsbD_sshiftRight]
    simp [hk]
  have h1 : ∀ i, ((1 : Int64).toBitVec).getLsbD i = decide (i = 0) := fun i => by
    show (BitVec.ofNat 64 1).getLsbD i = _
    rw [BitVec.getLsbD_ofNat]
    rcases i with _ | i
    · simp
    · simp [Nat.testBit_succ]
  constructor
  · intro h
    have := congrArg (fun z : Int64 => z.toBitVec.getLsbD 0) h
    simp only [Int64.toBitVec_and, BitVec.getLsbD_and, h1, b0] at this
    simpa using this
  · intro h
    apply Int64.toBitVec_inj.mp
    apply BitVec.eq_of_getLsbD_eq
    intro i hi
    rw [Int64.toBitVec_and, BitVec.getLsbD_and, h1]
    by_cases hi0 : i = 0
    · subst hi0; rw [b0, h]; simp
    · rw [decide_eq_false hi0]; simp
/-- the reference's queue: S the masks met, c of them, in the order qm -/
def bq_I (u : St) (S : Nat → Bool) (c : Nat) (qm : Nat → Nat) : Prop := (∀ x, x < 16384 → ms_in u 20 x = S x) ∧ u.1 0 26 = nI c ∧ c = mk_cn S 16384 ∧ (∀ i, i < c → u.1 22 i = nI (qm i) ∧ qm i < 16384 ∧ S (qm i) = true) ∧ ∀ x, x < 16384 → S x = true → ∃ i, i < c ∧ qm i = x
def fr_m (u u' : St) : Prop := (∀ k j, k ≠ 22 → (k ≠ 0 ∨ j ≠ 26) → u'.1 k j = u.1 k j) ∧ ∀ k, k ≠ 21 → u'.2 k = u.2 k
theorem fr_m_rf (u : St) : fr_m u u := ⟨fun _ _ _ _ => rfl, fun _ _ => rfl⟩
theorem fr_m_tr {u v w : St} (h : fr_m u v) (k : fr_m v w) : fr_m u w := ⟨fun a b c d => (k.1 a b c d).trans (h.1 a b c d), fun a b => (k.2 a b).trans (h.2 a b)⟩
theorem pi_ne {u : St} {q j q2 j2 : Nat} {v : Int32} (h : q2 ≠ q ∨ j2 ≠ j) : (ly_pi u q j v).1 q2 j2 = u.1 q2 j2 := by
  show va_up u.1 q _ q2 j2 = _
  by_cases hq : q2 = q
  · subst hq
    rw [va_up_self, pk_un (h.elim (fun h => absurd rfl h) id)]
  · rw [va_up_ne _ _ hq]
theorem pl_ne {u : St} {q j q2 : Nat} {v : Int64} (h : q2 ≠ q) : (ly_pl u q j v).2 q2 = u.2 q2 := va_up_ne _ _ h
theorem bq_meet {u : St} {S : Nat → Bool} {c x : Nat} {qm : Nat → Nat} (h : bq_I u S c qm) (hx : x < 16384) : ∃ u' S' c' qm', sp_Md_meet (nI x) u = some (0, u') ∧ fr_m u u' ∧ bq_I u' S' c' qm' ∧ c ≤ c' ∧ (∀ i, i < c → qm' i = qm i) ∧ (∀ y, S y = true → S' y = true) ∧ S' x = true ∧ ∀ y, S' y = true → S y = true ∨ y = x := by
  obtain ⟨h1, h2, h3, h4, h5⟩ := h
  unfold sp_Md_meet
  rw [nI_sh6 (by omega), nI_lo6 (by omega), if_pos (ib_nI (by omega) (by omega)), nI_clamp (by omega)]
  have hb : ms_in u 20 x = (u.2 21 (x / 64)).toBitVec.getLsbD (x % 64) := rfl
  by_cases hS : S x = true
  · rw [if_neg]
    · exact ⟨u, S, c, qm, rfl, fr_m_rf u, ⟨h1, h2, h3, h4, h5⟩, Nat.le_refl _, fun _ _ => rfl, fun _ h => h, hS, fun _ h => Or.inl h⟩
    · rw [lg_cmp_eq, bit_s _ (by omega), ← hb, h1 x hx, hS]
      exact fun h => nomatch h
  · have hS' : S x = false := Bool.eq_false_iff.mpr hS
    rw [if_pos (by rw [lg_cmp_eq, bit_s _ (by omega), ← hb, h1 x hx, hS']), if_pos (ib_nI (by omega) (by omega)), if_pos (ib_nI (by omega) (by omega))]
    simp only [nm_k]
    have hc : c < 16384 := by rw [h3]; exact mk_cn_lt hS' 16384 hx
    have e1 : (ly_pl u 21 (x / 64) (u.2 21 (x / 64) ||| ((1 : Int64) <<< ((nI (x % 64)).toInt64 &&& 63)))).1 0 26 = nI c := h2
    rw [e1, if_pos (ib_nI hc (by omega)), nI_clamp (by omega), pi_ne (Or.inl (by omega)), e1, nI_1]
    have hms : ∀ y, ms_in (ly_pl u 21 (x / 64) (u.2 21 (x / 64) ||| ((1 : Int64) <<< ((nI (x % 64)).toInt64 &&& 63)))) 20 y = (decide (y = x) || ms_in u 20 y) := fun y => by
      rw [show ly_pl u 21 (x / 64) (u.2 21 (x / 64) ||| ((1 : Int64) <<< ((nI (x % 64)).toInt64 &&& 63))) = ly_pl u (20 + 1) (x / 64) (u.2 21 (x / 64) ||| ((1 : Int64) <<< ((nI (x % 64)).toInt64 &&& 63))) from rfl, ms_pl]
      by_cases hq : y / 64 = x / 64
      · rw [if_pos hq, Int64.toBitVec_or, BitVec.getLsbD_or, sh_l _ (by omega), tp_bit _ _ (by omega)]
        have e : decide (x % 64 = y % 64) = decide (y = x) := by
          by_cases hy : y = x
          · subst hy; simp
          · rw [decide_eq_false hy, decide_eq_false]; omega
        rw [e, Bool.or_comm]
        unfold ms_in
        rw [hq]
      · rw [if_neg hq, decide_eq_false (fun hy => hq (by rw [hy]))]; rfl
    refine ⟨_, fun y => decide (y = x) || S y, c + 1, va_up qm c x, rfl, ⟨fun k j h1 h2 => ?_, fun k hk => pl_ne hk⟩, ⟨fun y hy => ?_, pi_at _ _ _ _, ?_, fun i hi => ?_, fun y hy hSy => ?_⟩, by omega, fun i hi => va_up_ne _ _ (by omega), fun y hy => by simp [hy], by simp, fun y hy => ?_⟩
    · rw [pi_ne h2, pi_ne (Or.inl h1)]; rfl
    · rw [ms_pi, ms_pi, hms, h1 y hy]
    · rw [mk_cn_add hS' (by simp) 16384 hx (fun i _ hi => by simp [hi]), ← h3]
    · rw [pi_ne (Or.inl (by omega))]
      by_cases hic : i = c
      · subst hic
        rw [pi_at, va_up_self]
        exact ⟨rfl, hx, by simp⟩
      · rw [pi_ne (Or.inr hic), va_up_ne _ _ hic]
        obtain ⟨g1, g2, g3⟩ := h4 i (by omega)
        exact ⟨g1, g2, by simp [g3]⟩
    · by_cases hyx : y = x
      · exact ⟨c, by omega, by rw [va_up_self, hyx]⟩
      · simp [hyx] at hSy
        obtain ⟨i, g1, g2⟩ := h5 y hy hSy
        exact ⟨i, by omega, by rw [va_up_ne _ _ (by omega), g2]⟩
    · simp only [Bool.or_eq_true, decide_eq_true_eq] at hy
      exact hy.symm
