/-! counting items: both sides -/
def cn_n (P : Nat → Bool) (a : Nat) : Nat → Nat
  | 0 => 0
  | n + 1 => cn_n P a n + (if P (a + n) = true then 1 else 0)
theorem cn_le (P : Nat → Bool) (a : Nat) : ∀ n, cn_n P a n ≤ n
  | 0 => Nat.le_refl 0
  | n + 1 => by
    have := cn_le P a n
    unfold cn_n
    split <;> omega
theorem cn_eq {P Q : Nat → Bool} {a : Nat} : ∀ n, (∀ i, a ≤ i → i < a + n → P i = Q i) → cn_n P a n = cn_n Q a n
  | 0, _ => rfl
  | n + 1, h => by
    unfold cn_n
    rw [cn_eq n (fun i h1 h2 => h i h1 (by omega)), h (a + n) (by omega) (by omega)]
theorem cn_0 {P : Nat → Bool} {a : Nat} : ∀ n, cn_n P a n = 0 ↔ ∀ i, a ≤ i → i < a + n → P i = false
  | 0 => ⟨fun _ i h1 h2 => by omega, fun _ => rfl⟩
  | n + 1 => by
    unfold cn_n
    constructor
    · intro h i h1 h2
      by_cases e : i = a + n
      · subst e
        cases hp : P (a + n) with
        | false => rfl
        | true => rw [if_pos hp] at h; omega
      · exact (cn_0 n).mp (by omega) i h1 (by omega)
    · intro h
      rw [(cn_0 n).mpr (fun i h1 h2 => h i h1 (by omega)), h (a + n) (by omega) (by omega)]
      rfl
theorem cn_more {P : Nat → Bool} {a n : Nat} : ∀ d, (∀ i, a + n ≤ i → i < a + n + d → P i = false) → cn_n P a (n + d) = cn_n P a n
  | 0, _ => rfl
  | d + 1, h => by
    rw [← Nat.add_assoc, cn_n, cn_more d (fun i h1 h2 => h i h1 (by omega)), h (a + (n + d)) (by omega) (by omega)]
    rfl
theorem ct_cn (ss : Nat → Nat) (a : Nat) : ∀ n, ct_n ss a n = cn_n (fun i => decide (ss i = 3)) a n
  | 0 => rfl
  | n + 1 => by
    unfold ct_n cn_n
    rw [ct_cn ss a n]
    by_cases e : ss (a + n) = 3
    · rw [if_pos e, if_pos (decide_eq_true e)]
    · rw [if_neg e, if_neg (fun h => e (of_decide_eq_true h))]
section COUNT
variable {F : Nat}
theorem cc_C {a b mm : Nat} {ss : Nat → Nat} {u : St} (hmm : mm ≤ 60) (ha : 1 ≤ a) (hab : a + b ≤ mm + 1) (hs : ∀ j, 1 ≤ j → j ≤ mm → u.1 47 j = nI (ss j) ∧ ss j ≤ 5) (k : Int32 → Int32 → St → Option (Int32 × St)) : ∀ (n d : Nat), d ≤ b → b - d < n → lp_Work_countCompleted_5 F (nI a) (nI b) k n (nI (ct_n ss a d)) (nI (a + d)) u = k (nI (ct_n ss a b)) (nI (a + b)) u := by
  intro n
  induction n with
  | zero => intro d _ h; omega
  | succ n ih =>
    intro d hd hn
    rw [lp_Work_countCompleted_5, nI_add]
    by_cases hc : d = b
    · subst hc; rw [if_pos (nI_le (Nat.le_refl _) (by omega))]
    · obtain ⟨e, l5⟩ := hs (a + d) (by omega) (by omega)
      rw [if_neg (nI_ge (by omega) (by omega)), if_pos (ib_nI (by omega) (by omega)), nI_clamp (by omega), e, nI_1, nI_1]
      have ih' := ih (d + 1) (by omega) (by omega)
      rw [ct_n] at ih'
      by_cases h3 : ss (a + d) = 3
      · rw [if_pos h3] at ih'
        rw [if_pos (show nI (ss (a + d)) = (3 : Int32) from by rw [h3]; rfl)]
        exact ih'
      · rw [if_neg h3] at ih'
        rw [if_neg (show ¬ nI (ss (a + d)) = (3 : Int32) from fun h => h3 ((nI_eq (b := 3) (by omega) (by omega)).mp h))]
        exact ih'
theorem ao_C {a b mm : Nat} {ss : Nat → Nat} {u : St} (hmm : mm ≤ 60) (ha : 1 ≤ a) (hab : a + b ≤ mm + 1) (hs : ∀ j, 1 ≤ j → j ≤ mm → u.1 47 j = nI (ss j) ∧ 1 ≤ ss j ∧ ss j ≤ 5) : ∀ (n d : Nat), d ≤ b → b - d < n → (∀ i, a ≤ i → i < a + d → ¬ ss i ≤ 2) → ∃ r, lp_Work_isAnyOpen_2 F (nI a) (nI b) (fun (v3_4 : Int32) (u5 : St) => (some ((0 : Int32), u5))) n (nI (a + d)) u = some (r, u) ∧ ((r = 1 ∧ ∃ i, a ≤ i ∧ i < a + b ∧ ss i ≤ 2) ∨ (r = 0 ∧ ∀ i, a ≤ i → i < a + b → ¬ ss i ≤ 2)) := by
  intro n
  induction n with
  | zero => intro d _ h; omega
  | succ n ih =>
    intro d hd hn hno
    rw [lp_Work_isAnyOpen_2, nI_add]
    by_cases hc : d = b
    · subst hc
      rw [if_pos (nI_le (Nat.le_refl _) (by omega))]
      exact ⟨0, rfl, Or.inr ⟨rfl, hno⟩⟩
    · obtain ⟨e, l1, l5⟩ := hs (a + d) (by omega) (by omega)
      rw [if_neg (nI_ge (by omega) (by omega)), op_C (by omega) l1 l5 e, cl_some, nI_1]
      by_cases ho : ss (a + d) ≤ 2
      · rw [if_pos ho, if_neg (show ¬ (1 : Int32) = 0 from by decide)]
        exact ⟨1, rfl, Or.inl ⟨rfl, a + d, by omega, by omega, ho⟩⟩
      · rw [if_neg ho, if_pos rfl]
        exact ih (d + 1) (by omega) (by omega) (fun i h1 h2 => by
          by_cases ei : i = a + d
          · subst ei; exact ho
          · exact hno i h1 (by omega))
/-- the reference's inState counts from a to the last item -/
def is_P (ss tt : Nat → Nat) (t lo hi : Nat) : Nat → Bool := fun i => decide (tt i = t ∧ lo ≤ ss i ∧ ss i ≤ hi)
theorem is_M {a t lo hi mm : Nat} {ss tt : Nat → Nat} {u : St} (hmm : mm ≤ 60) (ha : 1 ≤ a) (ht : t < 6) (hlo : lo < 10) (hhi : hi < 10) (hu : u.1 0 19 = nI mm) (h17 : ∀ j, 1 ≤ j → j ≤ mm → u.1 17 j = nI (tt j) ∧ tt j < 6) (hs : ∀ j, 1 ≤ j → j ≤ mm → u.1 18 j = nI (ss j) ∧ ss j ≤ 5) (k : Int32 → Int32 → St → Option (Int32 × St)) : ∀ (n d : Nat), a + d ≤ mm + 1 → mm + 1 - (a + d) < n → lp_Md_inState_11 F (nI t) (nI lo) (nI hi) k n (nI (cn_n (is_P ss tt t lo hi) a d)) (nI (a + d)) u = k (nI (cn_n (is_P ss tt t lo hi) a (mm + 1 - a))) (nI (mm + 1)) u := by
  intro n
  induction n with
  | zero => intro d _ h; omega
  | succ n ih =>
    intro d hd hn
    rw [lp_Md_inState_11, hu]
    by_cases hc : a + d = mm + 1
    · rw [if_pos (nI_lt (by omega) (by omega)), hc, show d = mm + 1 - a by omega]
    · obtain ⟨e, l5⟩ := hs (a + d) (by omega) (by omega)
      obtain ⟨e17, lt⟩ := h17 (a + d) (by omega) (by omega)
      rw [if_neg (nI_nlt (by omega) (by omega)), if_pos (ib_nI (by omega) (by omega)), nI_clamp (by omega), e17, e]
      simp only [nm_k]
      rw [nI_1, nI_1, show (0 : Int32) = nI 0 from rfl, nI_add]
      have ih' := ih (d + 1) (by omega) (by omega)
      rw [cn_n] at ih'
      unfold is_P at ih'
      have hib : ib (nI (a + d)) 61 = true := ib_nI (by omega) (by omega)
      by_cases et : tt (a + d) = t
      · rw [if_pos (by rw [et]), if_pos hib]
        by_cases h1 : lo ≤ ss (a + d)
        · rw [if_neg (nI_nlt h1 (by omega)), if_pos hib]
          by_cases h2 : ss (a + d) ≤ hi
          · rw [if_neg (nI_nlt h2 (by omega))]
            rw [if_pos (decide_eq_true ⟨et, h1, h2⟩)] at ih'
            exact ih'
          · rw [if_pos (nI_lt (by omega) (by omega))]
            rw [if_neg (fun h => h2 (of_decide_eq_true h).2.2)] at ih'
            exact ih'
        · rw [if_pos (nI_lt (by omega) (by omega))]
          rw [if_neg (fun h => h1 (of_decide_eq_true h).2.1)] at ih'
          exact ih'
      · rw [if_neg (fun h => et ((nI_eq (by omega) (by omega)).mp h))]
        rw [if_neg (fun h => et (of_decide_eq_true h).1)] at ih'
        exact ih'
theorem ins_M {t lo hi mm fi nn : Nat} {ss tt : Nat → Nat} {u : St} (hF : 100 < F) (hmm : mm ≤ 60) (ha : 1 ≤ fi) (ht : t < 6) (hlo : lo < 10) (hhi : hi < 10) (hb : fi + nn ≤ mm + 1) (b3 : ∀ i, fi ≤ i → i < fi + nn → tt i = t) (b4 : ∀ i, fi + nn ≤ i → i ≤ mm → tt i ≠ t) (hf : u.1 20 t = nI fi) (hu : u.1 0 19 = nI mm) (h17 : ∀ j, 1 ≤ j → j ≤ mm → u.1 17 j = nI (tt j) ∧ tt j < 6) (hs : ∀ j, 1 ≤ j → j ≤ mm → u.1 18 j = nI (ss j) ∧ ss j ≤ 5) : sp_Md_inState F (nI t) (nI lo) (nI hi) u = some (nI (cn_n (fun i => decide (lo ≤ ss i ∧ ss i ≤ hi)) fi nn), u) := by
  unfold sp_Md_inState
  rw [if_pos (ib_nI ht (by omega)), nI_clamp (by omega), hf]
  simp only [nm_k]
  have h := is_M (F := F) (a := fi) (t := t) (lo := lo) (hi := hi) hmm ha ht hlo hhi hu h17 hs (fun (v4_10 : Int32) (v5_11 : Int32) (u12 : St) => (some (v4_10, u12))) F 0 (by omega) (by omega)
  rw [Nat.add_zero] at h
  rw [show (0 : Int32) = nI (cn_n (is_P ss tt t lo hi) fi 0) from rfl, h]
  rw [show mm + 1 - fi = nn + (mm + 1 - fi - nn) by omega, cn_more _ (fun i h1 h2 => ?_), cn_eq nn (fun i h1 h2 => ?_)]
  · unfold is_P
    have := b3 i h1 h2
    simp [this]
  · unfold is_P
    exact decide_eq_false (fun h => b4 i h1 (by omega) h.1)
end COUNT
