/-! the search back: words -/
theorem nx_nd (a b : Nat) : nI a &&& (nI b ^^^ (-1)) = nI (mk_nd a b) := by
  apply Int32.toBitVec_inj.1
  rw [Int32.toBitVec_and, Int32.toBitVec_xor, show (-1 : Int32).toBitVec = BitVec.allOnes 32 from by decide]
  show BitVec.ofNat 32 a &&& (BitVec.ofNat 32 b ^^^ BitVec.allOnes 32) = BitVec.ofNat 32 (mk_nd a b)
  apply BitVec.eq_of_getLsbD_eq
  intro i hi
  rw [BitVec.getLsbD_and, BitVec.getLsbD_xor, BitVec.getLsbD_allOnes, BitVec.getLsbD_ofNat, BitVec.getLsbD_ofNat, BitVec.getLsbD_ofNat, mk_ndb]
  simp only [hi, decide_true, Bool.true_and, Bool.bne_true]
  try cases a.testBit i <;> cases b.testBit i <;> rfl
theorem mk_nd_lt {a b n : Nat} (h : a < 2 ^ n) : mk_nd a b < 2 ^ n := Nat.xor_lt_two_pow h (Nat.lt_of_le_of_lt Nat.and_le_left h)
theorem mk_sub_or {a b c : Nat} : mk_sub (a ||| b) c ↔ mk_sub a c ∧ mk_sub b c := by
  constructor
  · exact fun h => ⟨fun i hi => h i (by rw [Nat.testBit_or, hi, Bool.true_or]), fun i hi => h i (by rw [Nat.testBit_or, hi, Bool.or_true])⟩
  · rintro ⟨h1, h2⟩ i hi
    rw [Nat.testBit_or, Bool.or_eq_true] at hi
    exact hi.elim (h1 i) (h2 i)
theorem mk_nd_mono {a b c : Nat} (h : mk_sub a b) : mk_sub (mk_nd a c) (mk_nd b c) := by
  intro i hi
  rw [mk_ndb, Bool.and_eq_true] at hi ⊢
  exact ⟨h i hi.1, hi.2⟩
theorem mk_or_mono {a b c : Nat} (h : mk_sub a b) : mk_sub (a ||| c) (b ||| c) := by
  rw [mk_sub_or]
  exact ⟨fun i hi => by rw [Nat.testBit_or, h i hi, Bool.true_or], fun i hi => by rw [Nat.testBit_or, hi, Bool.or_true]⟩
/-- more marked places can do at least as much -/
theorem mv_mono {ok : Nat → Prop} {tk pt : Nat → Nat → Prop} {pl cr : Nat → Nat} {m n m' : Nat} (h : mk_sub m n) (hs : mv_st ok tk pt pl cr m m') : ∃ n', mv_st ok tk pt pl cr n n' ∧ mk_sub m' n' := by
  obtain ⟨t, ht, ⟨a, ha, h1, rfl⟩ | ⟨b, hb, h1, rfl⟩⟩ := hs
  · exact ⟨_, ⟨t, ht, Or.inl ⟨a, ha, mk_sub_tr h1 h, rfl⟩⟩, mk_or_mono (mk_nd_mono h)⟩
  · refine ⟨_, ⟨t, ht, Or.inr ⟨b, hb, fun h0 => h1 ?_, rfl⟩⟩, mk_or_mono (mk_nd_mono (mk_nd_mono h))⟩
    rw [mk_dis] at h0 ⊢
    exact fun i hi => h0 i (h i hi)
theorem mv_cov_mono {ok : Nat → Prop} {tk pt : Nat → Nat → Prop} {pl cr : Nat → Nat} {target : Nat} : ∀ {m n : Nat}, mk_sub m n → mv_cov (mv_st ok tk pt pl cr) m target → mv_cov (mv_st ok tk pt pl cr) n target := by
  rintro m n h ⟨k, m', hr, ht⟩
  induction k generalizing m n with
  | zero => cases hr; exact ⟨0, n, rfl, mk_sub_tr ht h⟩
  | succ k ih =>
    obtain ⟨c, h1, h2⟩ := hr
    obtain ⟨n', g1, g2⟩ := mv_mono h h1
    obtain ⟨j, n2, g3, g4⟩ := ih g2 h2
    exact ⟨j + 1, n2, ⟨n', g1, g3⟩, g4⟩
theorem mv_cov_step {st : Nat → Nat → Prop} {m m' target : Nat} (h : st m m') (hc : mv_cov st m' target) : mv_cov st m target := by
  obtain ⟨k, n, h1, h2⟩ := hc
  exact ⟨k + 1, n, ⟨m', h, h1⟩, h2⟩
theorem mv_cov_rf {st : Nat → Nat → Prop} {target : Nat} : mv_cov st target target := ⟨0, target, rfl, mk_sub_rf _⟩
/-- the net as the class holds it: df defined, cr cleared, tk takes (nt of them), pt puts (np of them) -/
def nw_ok (u : St) (df : Nat → Bool) (cr nt : Nat → Nat) (tk : Nat → Nat → Nat) (np : Nat → Nat) (pt : Nat → Nat → Nat) : Prop := ∀ t, t < 6 → u.1 (9 + 6 * t) 0 = nI (2 ^ (8 + t)) ∧ u.1 (9 + 6 * t) 1 = (if df t = true then 1 else 0) ∧ (df t = true → (u.1 (9 + 6 * t) 6 = nI (cr t) ∧ cr t < 16384) ∧ (u.1 (9 + 6 * t) 14 = nI (nt t) ∧ nt t ≤ 3 ∧ ∀ i, i < nt t → u.1 (9 + 6 * t + 1) i = nI (tk t i) ∧ tk t i < 256) ∧ (u.1 (9 + 6 * t) 15 = nI (np t) ∧ np t ≤ 7 ∧ ∀ i, i < np t → u.1 (9 + 6 * t + 2) i = nI (pt t i) ∧ pt t i < 256))
def fr_s (u u' : St) : Prop := (∀ k, k ≠ 3 → k ≠ 7 → u'.1 k = u.1 k) ∧ ∀ k, k ≠ 4 → k ≠ 8 → u'.2 k = u.2 k
theorem fr_s_rf (u : St) : fr_s u u := ⟨fun _ _ _ => rfl, fun _ _ _ => rfl⟩
theorem fr_s_tr {u v w : St} (h : fr_s u v) (k : fr_s v w) : fr_s u w := ⟨fun i a b => (k.1 i a b).trans (h.1 i a b), fun i a b => (k.2 i a b).trans (h.2 i a b)⟩
theorem fr_s_3 {u v : St} (h : ms_fr 3 u v) : fr_s u v := ⟨fun k a _ => h.1 k a, fun k a _ => h.2.2 k a⟩
theorem fr_s_7 {u v : St} (h : ms_fr 7 u v) : fr_s u v := ⟨fun k _ b => h.1 k b, fun k _ b => h.2.2 k b⟩
theorem nw_fr {u u' : St} {df : Nat → Bool} {cr nt : Nat → Nat} {tk : Nat → Nat → Nat} {np : Nat → Nat} {pt : Nat → Nat → Nat} (h : nw_ok u df cr nt tk np pt) (hk : ∀ k, 9 ≤ k → u'.1 k = u.1 k) : nw_ok u' df cr nt tk np pt := by
  intro t ht
  rw [hk _ (by omega), hk _ (by omega), hk _ (by omega)]
  exact h t ht
def nw_st (wo : Int32) (df : Nat → Bool) (cr nt : Nat → Nat) (tk : Nat → Nat → Nat) (np : Nat → Nat) (pt : Nat → Nat → Nat) : Nat → Nat → Prop := mv_st (fun t => t < 6 ∧ df t = true ∧ ¬ nI t = wo) (fun t a => ∃ i, i < nt t ∧ a = tk t i) (fun t b => ∃ i, i < np t ∧ b = pt t i) (fun t => 2 ^ (8 + t)) cr
section NET
variable {df : Nat → Bool} {cr nt : Nat → Nat} {tk : Nat → Nat → Nat} {np : Nat → Nat} {pt : Nat → Nat → Nat} {wo : Int32} {target : Nat} {Dr : Nat → Bool}
/-- what stays true while needs are gathered: C the masks gathered, O the needs still open, Dr those drawn -/
def cv_I (df : Nat → Bool) (cr nt : Nat → Nat) (tk : Nat → Nat → Nat) (np : Nat → Nat) (pt : Nat → Nat → Nat) (wo : Int32) (target : Nat) (Dr : Nat → Bool) (u : St) (C O : Nat → Bool) : Prop := nw_ok u df cr nt tk np pt ∧ ms_ok u 7 C ∧ ms_ok u 3 O ∧ (∀ x, x < 16384 → (C x = true ↔ ∃ nd, nd < 16384 ∧ (O nd = true ∨ Dr nd = true) ∧ x &&& nd = nd)) ∧ (∀ nd, nd < 16384 → O nd = true → Dr nd = true → False) ∧ ∀ nd, nd < 16384 → (O nd = true ∨ Dr nd = true) → mv_cov (nw_st wo df cr nt tk np pt) nd target
theorem cv_need {F x : Nat} {u : St} {C O : Nat → Bool} (h : cv_I df cr nt tk np pt wo target Dr u C O) (hx : x < 16384) (hc : mv_cov (nw_st wo df cr nt tk np pt) x target) (hF : 300 < F) : ∃ u' C' O', sp_Net_addNeed F (nI x) u = some (0, u') ∧ fr_s u u' ∧ cv_I df cr nt tk np pt wo target Dr u' C' O' ∧ (∀ y, C y = true → C' y = true) ∧ C' x = true := by
  obtain ⟨h1, h2, h3, h4, h5, h6⟩ := h
  unfold sp_Net_addNeed
  rw [ms_has h2 hx]
  by_cases hC : C x = true
  · rw [if_pos hC]
    exact ⟨u, C, O, rfl, fr_s_rf u, ⟨h1, h2, h3, h4, h5, h6⟩, fun _ h => h, hC⟩
  · rw [if_neg hC]
    simp only [cl_k]
    rw [if_pos trivial]
    obtain ⟨u1, a1, a2, a3⟩ := ms_above h2 hx hF
    have b3 : ms_ok u1 3 O := ms_ok_eq h3 (by rw [a2.1 3 (by omega)]) (a2.2.2 4 (by omega))
    obtain ⟨u2, c1, c2, c3⟩ := ms_add b3 hx
    rw [a1]
    simp only []
    rw [c1]
    have d7 : ms_ok u2 7 (fun y => decide (y &&& x = x) || C y) := ms_ok_eq a3 (by rw [c2.1 7 (by omega)]) (c2.2.2 8 (by omega))
    have hfr : fr_s u u2 := fr_s_tr (fr_s_7 a2) (fr_s_3 c2)
    refine ⟨u2, _, _, rfl, hfr, ⟨nw_fr h1 (fun k hk => hfr.1 k (by omega) (by omega)), d7, c3, fun y hy => ?_, fun nd hn ho hd => ?_, fun nd hn ho => ?_⟩, fun y hy => by simp [hy], by simp⟩
    · simp only [Bool.or_eq_true, decide_eq_true_eq]
      constructor
      · rintro (h | h)
        · exact ⟨x, hx, Or.inl (Or.inl rfl), h⟩
        · obtain ⟨nd, g1, g2, g3⟩ := (h4 y hy).mp h
          exact ⟨nd, g1, g2.elim (fun g => Or.inl (Or.inr g)) Or.inr, g3⟩
      · rintro ⟨nd, g1, (g2 | g2) | g2, g3⟩
        · subst g2; exact Or.inl g3
        · exact Or.inr ((h4 y hy).mpr ⟨nd, g1, Or.inl g2, g3⟩)
        · exact Or.inr ((h4 y hy).mpr ⟨nd, g1, Or.inr g2, g3⟩)
    · simp only [Bool.or_eq_true, decide_eq_true_eq] at ho
      rcases ho with rfl | ho
      · exact hC ((h4 nd hn).mpr ⟨nd, hn, Or.inr hd, Nat.and_self _⟩)
      · exact h5 nd hn ho hd
    · simp only [Bool.or_eq_true, decide_eq_true_eq] at ho
      rcases ho with (rfl | ho) | ho
      · exact hc
      · exact h6 nd hn (Or.inl ho)
      · exact h6 nd hn (Or.inr ho)
end NET
