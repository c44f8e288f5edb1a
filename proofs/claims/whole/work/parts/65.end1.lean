/-! what a task puts when it ends: both sides -/
def gs_n (x : Nat) (g : Nat → Bool) : Nat → Nat
  | 0 => 0
  | c + 1 => gs_n x g c ||| (if x.testBit c = true ∧ g c = true then 2 ^ c else 0)
def hb_n (x : Nat) : Nat → Nat
  | 0 => 0
  | c + 1 => if x.testBit c = true then 2 ^ c else hb_n x c
def lb_n (x : Nat) : Nat → Nat
  | 0 => 0
  | k + 1 => if bk_n x k = 0 then lb_n x k else bk_n x k
theorem hb_lb : ∀ x, x < 256 → go_n x = true → hb_n x 8 = lb_n x 3 ∧ hb_n x 8 < 256 := by decide +kernel
theorem gs_lt (x : Nat) (g : Nat → Bool) : ∀ c, gs_n x g c < 2 ^ c
  | 0 => by unfold gs_n; omega
  | c + 1 => by
    unfold gs_n
    have h := gs_lt x g c
    have h2 : 2 ^ c < 2 ^ (c + 1) := Nat.pow_lt_pow_right (by omega) (by omega)
    apply Nat.or_lt_two_pow (by omega)
    split <;> omega
theorem co_C {F t x : Nat} {g : Nat → Bool} {u : St} (hx : x < 256) (h5 : u.1 (9 + 6 * t) 5 = nI x) (hg : ∀ c, c < 8 → sp_Task_guardHolds t (nI c) u = some (if g c = true then 1 else 0, u)) (k : Int32 → Int32 → Int32 → St → Option (Int32 × St)) : ∀ (n c : Nat), c ≤ 8 → 8 - c < n → lp_Task_chosenOutputs_19 F t k n (nI (gs_n x g c)) (nI (hb_n x c)) (nI c) u = k (nI (gs_n x g 8)) (nI (hb_n x 8)) (nI 8) u := by
  intro n
  induction n with
  | zero => intro c _ h; omega
  | succ n ih =>
    intro c hc hn
    rw [lp_Task_chosenOutputs_19]
    by_cases he : c = 8
    · subst he; rw [if_pos (show (8 : Int32) ≤ nI 8 from by decide)]
    · rw [if_neg (show ¬ (8 : Int32) ≤ nI c from nI_ge (b := 8) (by omega) (by omega)), h5, nI_1]
      have ih' := ih (c + 1) (by omega) (by omega)
      rw [gs_n, hb_n] at ih'
      by_cases hb : x.testBit c = true
      · rw [if_pos hb] at ih'
        rw [if_neg (fun e => by rw [bit_0 (by omega), hb] at e; cases e)]
        simp only [nm_k]
        rw [hg c (by omega), cl_some, sh_one (by omega)]
        by_cases hgc : g c = true
        · rw [if_pos ⟨hb, hgc⟩] at ih'
          rw [if_pos hgc, if_neg (show ¬ (1 : Int32) = 0 from by decide), nx_or]
          exact ih'
        · rw [if_neg (fun h => hgc h.2)] at ih'
          rw [if_neg hgc, if_pos rfl, show (0 : Int32) = nI 0 from rfl, nx_or]
          exact ih'
      · rw [if_neg hb, if_neg (fun h => hb h.1), Nat.or_zero] at ih'
        rw [if_pos ((bit_0 (by omega)).mpr (Bool.eq_false_iff.mpr hb))]
        exact ih'
theorem gs_M {F t x : Nat} {g : Nat → Bool} {gv : Nat → Nat} {va lo hi : Nat → Int32} {u : St} (ht : t < 6) (hx : x < 256) (h5 : u.1 5 t = nI x) (h9 : ∀ c, c < 8 → u.1 9 (8 * t + c) = nI (gv c) ∧ gv c < 4) (h16 : ∀ i, i < 4 → u.1 16 i = va i) (h10 : ∀ c, c < 8 → u.1 10 (8 * t + c) = lo c ∧ u.1 11 (8 * t + c) = hi c) (hg : ∀ c, c < 8 → (g c = true ↔ ¬ va (gv c) < lo c ∧ ¬ hi c < va (gv c))) (k : Int32 → Int32 → St → Option (Int32 × St)) : ∀ (n c : Nat), c ≤ 8 → 8 - c < n → lp_Md_end_74 F (nI t) k n (nI (gs_n x g c)) (nI c) u = k (nI (gs_n x g 8)) (nI 8) u := by
  intro n
  induction n with
  | zero => intro c _ h; omega
  | succ n ih =>
    intro c hc hn
    rw [lp_Md_end_74]
    by_cases he : c = 8
    · subst he; rw [if_pos (show (8 : Int32) ≤ nI 8 from by decide)]
    · obtain ⟨a9, b9⟩ := h9 c (by omega)
      obtain ⟨a10, a11⟩ := h10 c (by omega)
      have hib : ib (nI (8 * t + c)) 48 = true := ib_nI (by omega) (by omega)
      have hibt : ib (nI t) 6 = true := ib_nI ht (by omega)
      rw [if_neg (show ¬ (8 : Int32) ≤ nI c from nI_ge (b := 8) (by omega) (by omega)), ix_8, nI_1, nI_clamp (show 8 * t + c < 2 ^ 31 by omega), nI_clamp (show t < 2 ^ 31 by omega), a9, nI_clamp (show gv c < 2 ^ 31 by omega), h16 _ b9, a10, a11, h5, sh_bit (by omega) (by omega), if_pos hib, if_pos (ib_nI b9 (by omega))]
      simp only [nm_k]
      rw [if_pos hibt, if_pos hib, if_pos hib, show (0 : Int32) = nI 0 from rfl, nx_or, Nat.or_zero, sh_one (by omega), nx_or]
      have ih' := ih (c + 1) (by omega) (by omega)
      rw [gs_n] at ih'
      by_cases hb : x.testBit c = true
      · have hb1 : x / 2 ^ c % 2 = 1 := by
          rw [Nat.testBit_eq_decide_div_mod_eq, decide_eq_true_eq] at hb; exact hb
        rw [if_pos ((nI_o (by omega)).mpr hb1)]
        by_cases c1 : va (gv c) < lo c
        · rw [if_neg (fun h => ((hg c (by omega)).mp h.2).1 c1), Nat.or_zero] at ih'
          rw [if_pos c1]
          exact ih'
        · by_cases c2 : hi c < va (gv c)
          · rw [if_neg (fun h => ((hg c (by omega)).mp h.2).2 c2), Nat.or_zero] at ih'
            rw [if_neg c1, if_pos c2]
            exact ih'
          · rw [if_pos ⟨hb, (hg c (by omega)).mpr ⟨c1, c2⟩⟩] at ih'
            rw [if_neg c1, if_neg c2]
            exact ih'
      · rw [if_neg (fun h => hb h.1), Nat.or_zero] at ih'
        have hb0 : ¬ x / 2 ^ c % 2 = 1 := fun e => hb (by rw [Nat.testBit_eq_decide_div_mod_eq, decide_eq_true_eq]; exact e)
        rw [if_neg (fun e => hb0 ((nI_o (by omega)).mp e))]
        exact ih'
theorem lb_M {F t x : Nat} {v2 : Int32} {u : St} (ht : t < 6) (hx : x < 256) (h7 : ∀ k, k < 3 → u.1 7 (3 * t + k) = nI (bk_n x k)) (k : Int32 → Int32 → St → Option (Int32 × St)) : ∀ (n c : Nat), c ≤ 3 → 3 - c < n → lp_Md_end_177 F (nI t) v2 k n (nI (lb_n x c)) (nI c) u = k (nI (lb_n x 3)) (nI 3) u := by
  intro n
  induction n with
  | zero => intro c _ h; omega
  | succ n ih =>
    intro c hc hn
    rw [lp_Md_end_177]
    by_cases he : c = 3
    · subst he; rw [if_pos (show (3 : Int32) ≤ nI 3 from by decide)]
    · have hib : ib (nI (3 * t + c)) 18 = true := ib_nI (by omega) (by omega)
      have hlt := bk_lt x hx c (by omega)
      rw [if_neg (show ¬ (3 : Int32) ≤ nI c from nI_ge (b := 3) (by omega) (by omega)), ix_3, nI_clamp (by omega), h7 c (by omega), nI_1, if_pos hib]
      simp only [nm_k]
      rw [if_pos hib]
      have ih' := ih (c + 1) (by omega) (by omega)
      rw [lb_n] at ih'
      by_cases h0 : bk_n x c = 0
      · rw [if_pos h0] at ih'
        rw [if_pos ((nI_z (by omega)).mpr h0)]
        exact ih'
      · rw [if_neg h0] at ih'
        rw [if_neg (fun e => h0 ((nI_z (by omega)).mp e))]
        exact ih'
