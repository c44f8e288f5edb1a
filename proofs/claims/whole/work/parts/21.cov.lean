/-! masks as numbers: bits by testBit; what covers what -/
def mk_nd (a b : Nat) : Nat := a ^^^ (a &&& b)
theorem mk_ndb (a b i : Nat) : (mk_nd a b).testBit i = (a.testBit i && !b.testBit i) := by
  unfold mk_nd
  rw [Nat.testBit_xor, Nat.testBit_and]
  cases a.testBit i <;> cases b.testBit i <;> rfl
def mk_sub (a b : Nat) : Prop := ∀ i, a.testBit i = true → b.testBit i = true
theorem mk_sub_rf (a : Nat) : mk_sub a a := fun _ h => h
theorem mk_sub_tr {a b c : Nat} (h : mk_sub a b) (k : mk_sub b c) : mk_sub a c := fun i hi => k i (h i hi)
theorem mk_sub_and {a b : Nat} : b &&& a = a ↔ mk_sub a b := by
  constructor
  · intro h i hi
    rw [← h, Nat.testBit_and, Bool.and_eq_true] at hi
    exact hi.1
  · intro h
    apply Nat.eq_of_testBit_eq
    intro i
    rw [Nat.testBit_and]
    cases ha : a.testBit i with
    | false => simp
    | true => simp [h i ha]
theorem mk_dis {a b : Nat} : a &&& b = 0 ↔ ∀ i, a.testBit i = true → b.testBit i = false := by
  constructor
  · intro h i hi
    have : (a &&& b).testBit i = false := by rw [h]; exact Nat.zero_testBit i
    rw [Nat.testBit_and, hi] at this
    simpa using this
  · intro h
    apply Nat.eq_of_testBit_eq
    intro i
    rw [Nat.testBit_and, Nat.zero_testBit]
    cases ha : a.testBit i with
    | false => simp
    | true => simp [h i ha]
/-- a net's moves: begin takes a of tk t, end puts b of pt t; pl t the task's own place, cr t what it clears; ok t: it may move -/
def mv_beg (m a p m' : Nat) : Prop := mk_sub a m ∧ m' = mk_nd m a ||| p
def mv_end (m p c b m' : Nat) : Prop := m &&& p ≠ 0 ∧ m' = mk_nd (mk_nd m p) c ||| b
def mv_st (ok : Nat → Prop) (tk pt : Nat → Nat → Prop) (pl cr : Nat → Nat) (m m' : Nat) : Prop := ∃ t, ok t ∧ ((∃ a, tk t a ∧ mv_beg m a (pl t) m') ∨ (∃ b, pt t b ∧ mv_end m (pl t) (cr t) b m'))
/-- m' is reached from m -/
def mv_rc (st : Nat → Nat → Prop) : Nat → Nat → Nat → Prop
  | 0, a, b => a = b
  | n + 1, a, b => ∃ c, st a c ∧ mv_rc st n c b
def mv_cov (st : Nat → Nat → Prop) (m target : Nat) : Prop := ∃ n m', mv_rc st n m m' ∧ mk_sub target m'
/-- going back: what is closed under the steps back holds all that covers -/
theorem mv_back {st : Nat → Nat → Prop} {C : Nat → Prop} {target : Nat} (h0 : ∀ m, mk_sub target m → C m) (hs : ∀ m m', st m m' → C m' → C m) : ∀ m, mv_cov st m target → C m := by
  rintro m ⟨n, m', hr, ht⟩
  induction n generalizing m with
  | zero => exact hr ▸ h0 m' ht
  | succ n ih =>
    obtain ⟨c, h1, h2⟩ := hr
    exact hs m c h1 (ih c h2)
/-- going on: what is closed under the steps and holds the first holds all that is reached -/
theorem mv_on {st : Nat → Nat → Prop} {C : Nat → Prop} {n a b : Nat} (hr : mv_rc st n a b) (ha : C a) (hs : ∀ m m', st m m' → C m → C m') : C b := by
  induction n generalizing a with
  | zero => exact hr ▸ ha
  | succ n ih =>
    obtain ⟨c, h1, h2⟩ := hr
    exact ih h2 (hs a c h1 ha)
theorem mv_rc_app {st : Nat → Nat → Prop} {n a b c : Nat} (h : mv_rc st n a b) (k : st b c) : mv_rc st (n + 1) a c := by
  induction n generalizing a with
  | zero => cases h; exact ⟨c, k, rfl⟩
  | succ n ih =>
    obtain ⟨d, h1, h2⟩ := h
    exact ⟨d, h1, ih h2⟩
/-- the need before a beginning: what is needed but the task's place, and what is taken -/
theorem mv_beg_pre {need a p m m' : Nat} (h : mv_beg m a p m') (hn : mk_sub need m') : mk_sub need m ∨ (mk_nd need p ≠ need ∧ mk_nd need p &&& a = 0 ∧ mk_sub (mk_nd need p ||| a) m) := by
  obtain ⟨ha, rfl⟩ := h
  by_cases hp : mk_nd need p = need
  · refine Or.inl fun i hi => ?_
    have h1 := hn i hi
    rw [Nat.testBit_or, mk_ndb, Bool.or_eq_true, Bool.and_eq_true] at h1
    rcases h1 with h1 | h1
    · exact h1.1
    · rw [← hp, mk_ndb, h1] at hi
      simp at hi
  · refine Or.inr ⟨hp, ?_, ?_⟩
    · rw [mk_dis]
      intro i hi
      rw [mk_ndb, Bool.and_eq_true] at hi
      have h1 := hn i hi.1
      rw [Nat.testBit_or, mk_ndb] at h1
      have h2 := hi.2
      cases hpb : p.testBit i with
      | true => rw [hpb] at h2; simp at h2
      | false =>
        rw [hpb, Bool.or_false, Bool.and_eq_true] at h1
        simpa using h1.2
    · intro i hi
      rw [Nat.testBit_or, mk_ndb, Bool.or_eq_true, Bool.and_eq_true] at hi
      rcases hi with hi | hi
      · have h1 := hn i hi.1
        rw [Nat.testBit_or, mk_ndb] at h1
        have h2 := hi.2
        cases hpb : p.testBit i with
        | true => rw [hpb] at h2; simp at h2
        | false =>
          rw [hpb, Bool.or_false, Bool.and_eq_true] at h1
          exact h1.1
      · exact ha i hi
/-- and it is enough -/
theorem mv_beg_suf {need a p m : Nat} (hd : mk_nd need p &&& a = 0) (hm : mk_sub (mk_nd need p ||| a) m) : ∃ m', mv_beg m a p m' ∧ mk_sub need m' := by
  refine ⟨mk_nd m a ||| p, ⟨fun i hi => hm i (by rw [Nat.testBit_or, hi, Bool.or_true]), rfl⟩, fun i hi => ?_⟩
  rw [Nat.testBit_or, mk_ndb]
  cases hpb : p.testBit i with
  | true => simp
  | false =>
    have h1 : (mk_nd need p).testBit i = true := by rw [mk_ndb, hi, hpb]; rfl
    have h2 := mk_dis.mp hd i h1
    have h3 := hm i (by rw [Nat.testBit_or, h1, Bool.true_or])
    rw [h2, h3]; rfl
/-- the need before an end -/
theorem mv_end_pre {need p c b m m' : Nat} (hp1 : ∀ i, (m &&& p ≠ 0) → p.testBit i = true → m.testBit i = true) (h : mv_end m p c b m') (hn : mk_sub need m') : mk_sub need m ∨ (mk_nd need b ≠ need ∧ mk_nd need b &&& (c ||| p) = 0 ∧ mk_sub (mk_nd need b ||| p) m) := by
  obtain ⟨hp, rfl⟩ := h
  have key : ∀ i, (mk_nd need b).testBit i = true → m.testBit i = true ∧ p.testBit i = false ∧ c.testBit i = false := by
    intro i hi
    rw [mk_ndb, Bool.and_eq_true] at hi
    have h1 := hn i hi.1
    rw [Nat.testBit_or, mk_ndb, mk_ndb] at h1
    have h2 := hi.2
    cases hbb : b.testBit i with
    | true => rw [hbb] at h2; simp at h2
    | false =>
      rw [hbb, Bool.or_false, Bool.and_eq_true, Bool.and_eq_true] at h1
      exact ⟨h1.1.1, by simpa using h1.1.2, by simpa using h1.2⟩
  by_cases hb : mk_nd need b = need
  · exact Or.inl fun i hi => (key i (by rw [hb]; exact hi)).1
  · refine Or.inr ⟨hb, ?_, ?_⟩
    · rw [mk_dis]
      intro i hi
      rw [Nat.testBit_or, (key i hi).2.1, (key i hi).2.2]; rfl
    · intro i hi
      rw [Nat.testBit_or, Bool.or_eq_true] at hi
      rcases hi with hi | hi
      · exact (key i hi).1
      · exact hp1 i hp hi
theorem mv_end_suf {need p c b m : Nat} (hp0 : ∃ i, p.testBit i = true) (hd : mk_nd need b &&& (c ||| p) = 0) (hm : mk_sub (mk_nd need b ||| p) m) : ∃ m', mv_end m p c b m' ∧ mk_sub need m' := by
  refine ⟨mk_nd (mk_nd m p) c ||| b, ⟨fun h => ?_, rfl⟩, fun i hi => ?_⟩
  · obtain ⟨i, hi⟩ := hp0
    have h1 := hm i (by rw [Nat.testBit_or, hi, Bool.or_true])
    have h2 := mk_dis.mp h i h1
    rw [hi] at h2; cases h2
  · rw [Nat.testBit_or, mk_ndb, mk_ndb]
    cases hbb : b.testBit i with
    | true => simp
    | false =>
      have h1 : (mk_nd need b).testBit i = true := by rw [mk_ndb, hi, hbb]; rfl
      have h2 := mk_dis.mp hd i h1
      rw [Nat.testBit_or, Bool.or_eq_false_iff] at h2
      have h3 := hm i (by rw [Nat.testBit_or, h1, Bool.true_or])
      rw [h2.1, h2.2, h3]; rfl
/-- how many of the first n numbers are in P -/
def mk_cn (P : Nat → Bool) : Nat → Nat
  | 0 => 0
  | n + 1 => mk_cn P n + (if P n = true then 1 else 0)
theorem mk_cn_le (P : Nat → Bool) : ∀ n, mk_cn P n ≤ n
  | 0 => Nat.le_refl _
  | n + 1 => by
    have := mk_cn_le P n
    unfold mk_cn
    split <;> omega
theorem mk_cn_eq {P Q : Nat → Bool} : ∀ n, (∀ i, i < n → P i = Q i) → mk_cn P n = mk_cn Q n
  | 0, _ => rfl
  | n + 1, h => by
    unfold mk_cn
    rw [mk_cn_eq n (fun i hi => h i (by omega)), h n (by omega)]
theorem mk_cn_add {P Q : Nat → Bool} {k : Nat} (hk : P k = false) (hq : Q k = true) : ∀ n, k < n → (∀ i, i < n → i ≠ k → Q i = P i) → mk_cn Q n = mk_cn P n + 1
  | 0, h, _ => absurd h (Nat.not_lt_zero _)
  | n + 1, h, hQ => by
    unfold mk_cn
    by_cases hn : n = k
    · subst hn
      rw [mk_cn_eq n (fun i hi => hQ i (by omega) (by omega)), hk, hq]; simp
    · rw [mk_cn_add hk hq n (by omega) (fun i hi h => hQ i (by omega) h), hQ n (by omega) hn]
      omega
theorem mk_cn_lt {P : Nat → Bool} {k : Nat} (hk : P k = false) : ∀ n, k < n → mk_cn P n < n
  | 0, h => absurd h (Nat.not_lt_zero _)
  | n + 1, h => by
    unfold mk_cn
    by_cases hn : n = k
    · subst hn
      have := mk_cn_le P n
      rw [hk]; simp; omega
    · have := mk_cn_lt hk n (by omega)
      split <;> omega
