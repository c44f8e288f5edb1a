theorem nI_o {a : Nat} (h : a < 2 ^ 31) : nI a = 1 ↔ a = 1 := nI_eq (b := 1) h (by decide)
theorem sh_one {i : Nat} (hi : i < 31) : (1 : Int32) <<< (nI i &&& 31) = nI (2 ^ i) := by
  have := pk_shlN (n := 1) (nI i &&& 31) i (s_l i (by omega)) (by rw [Nat.one_mul]; exact Nat.pow_lt_pow_right (by omega) (by omega))
  rw [Nat.one_mul] at this
  exact this
theorem sh_bit {x i : Nat} (hx : x < 2 ^ 31) (hi : i < 31) : (nI x >>> (nI i &&& 31)) &&& (1 : Int32) = nI (x / 2 ^ i % 2) := by
  rw [pk_shrN hx (nI i &&& 31) i (s_l i (by omega))]
  have hle : x / 2 ^ i ≤ x := Nat.div_le_self _ _
  exact pk_andN (by omega) 1 (by decide)
def pc_s (x : Nat) : Nat → Nat
  | 0 => 0
  | i + 1 => pc_s x i + x / 2 ^ i % 2
theorem pc_14 : ∀ x, x < 256 → pc_s x 14 = pc_n x := by decide +kernel
theorem md_cnt (F : Nat) {x : Nat} (hx : x < 2 ^ 31) (k : Int32 → Int32 → St → Option (Int32 × St)) (u : St) : ∀ (n i : Nat), i ≤ 14 → 14 - i < n → lp_Md_count_4 F (nI x) k n (nI (pc_s x i)) (nI i) u = k (nI (pc_s x 14)) (nI 14) u := by
  intro n
  induction n with
  | zero => intro i _ h; omega
  | succ n ih =>
    intro i hi hn
    rw [lp_Md_count_4]
    by_cases h : i = 14
    · subst h; rw [if_pos (show (14 : Int32) ≤ nI 14 from by decide)]
    · rw [if_neg (show ¬ (14 : Int32) ≤ nI i from nI_ge (b := 14) (by omega) (by omega))]
      simp only [nm_k]
      rw [sh_bit hx (by omega), nI_add, nI_1]
      exact ih (i + 1) (by omega) (by omega)
theorem md_count {F x : Nat} (hF : 20 < F) (hx : x < 256) (u : St) : sp_Md_count F (nI x) u = some (nI (pc_n x), u) := by
  have h := md_cnt F (x := x) (by omega) (fun (v1_2 : Int32) (v2_3 : Int32) (u4 : St) => (some (v1_2, u4))) u F 0 (by omega) (by omega)
  rw [pc_14 x hx] at h
  exact h
theorem bk_lt : ∀ x, x < 256 → ∀ k, k < 3 → bk_n x k < 256 := by decide +kernel
theorem pu_lt : ∀ x, x < 256 → ∀ s, s < 8 → pu_n x s < 256 := by decide +kernel
theorem pc_lt (x : Nat) : pc_n x < 16 := by unfold pc_n; omega
/-- the reference's net -/
def md_W (df : Nat → Bool) (jo sp is os rg : Nat → Nat) (u : St) : Prop := ∀ t, t < 6 → u.1 1 t = (if df t = true then 1 else 0) ∧ (df t = true → u.1 2 t = nI (jo t) ∧ u.1 3 t = nI (sp t) ∧ u.1 4 t = nI (is t) ∧ u.1 5 t = nI (os t) ∧ (∀ k, k < 3 → u.1 6 (3 * t + k) = nI (bk_n (is t) k)) ∧ (∀ k, k < 3 → u.1 7 (3 * t + k) = nI (bk_n (os t) k)) ∧ u.1 8 t = nI (rg t))
theorem ix_3 (t k : Nat) : (3 : Int32) * nI t + nI k = nI (3 * t + k) := by
  rw [show (3 : Int32) = nI 3 from rfl, pk_mul, nI_add]
theorem md_out1 {F t s x : Nat} (u : St) (k5 : Int32 → Int32 → St → Option (Int32 × St)) (ht : t < 6) (hs : s < 8) (hu : ∀ k, k < 3 → u.1 7 (3 * t + k) = nI (bk_n x k)) (n i a : Nat) (hi : i < 3) : lp_Md_outputs_5 F (nI t) (nI s) k5 (n + 1) (nI a) (nI i) u = lp_Md_outputs_5 F (nI t) (nI s) k5 n (nI (a ||| (if s / 2 ^ i % 2 = 1 then bk_n x i else 0))) (nI (i + 1)) u := by
  conv => lhs; rw [lp_Md_outputs_5]
  rw [if_neg (show ¬ (3 : Int32) ≤ nI i from nI_ge (b := 3) (by omega) (by omega)), sh_bit (by omega) (by omega), ix_3, nI_1]
  simp only [nm_k]
  by_cases h : s / 2 ^ i % 2 = 1
  · rw [if_pos (by rw [h]; rfl), if_pos (ib_nI (by omega) (by omega)), nI_clamp (by omega), hu i hi, nx_or, if_pos h]
  · rw [if_neg (fun e => h ((nI_o (by omega)).mp e)), show (0 : Int32) = nI 0 from rfl, nx_or, if_neg h]
theorem md_outputs {F t s x : Nat} (hF : 20 < F) (u : St) (ht : t < 6) (hs : s < 8) (hu : ∀ k, k < 3 → u.1 7 (3 * t + k) = nI (bk_n x k)) : sp_Md_outputs F (nI t) (nI s) u = some (nI (pu_n x s), u) := by
  unfold sp_Md_outputs
  obtain ⟨n, rfl⟩ : ∃ n, F = n + 4 := ⟨F - 4, by omega⟩
  rw [show (0 : Int32) = nI 0 from rfl, md_out1 u _ ht hs hu (n + 3) 0 0 (by omega), md_out1 u _ ht hs hu (n + 2) 1 _ (by omega), md_out1 u _ ht hs hu (n + 1) 2 _ (by omega)]
  rw [lp_Md_outputs_5, if_pos (show (3 : Int32) ≤ nI (2 + 1) from by decide)]
  unfold pu_n
  rw [Nat.zero_or]
  simp only [Nat.pow_zero, Nat.div_one, Nat.pow_one, show 2 ^ 2 = 4 from rfl]
theorem md_take {m a p : Nat} (u : St) (hm : m < 16384) (ha : a < 256) (hp : p < 16384) : (if nI a = 0 then some ((-1 : Int32), u) else if nI m &&& nI a = nI a then some ((nI m &&& (nI a ^^^ (-1 : Int32))) ||| nI p, u) else some ((-1 : Int32), u)) = some (af_v (if a ≠ 0 ∧ m &&& a = a then some (mk_nd m a ||| p) else none), u) := by
  have hle : m &&& a ≤ m := Nat.and_le_left
  by_cases h0 : a = 0
  · rw [if_pos ((nI_z (by omega)).mpr h0), if_neg (fun h => h.1 h0)]; rfl
  · rw [if_neg (fun e => h0 ((nI_z (by omega)).mp e)), nx_and]
    by_cases h1 : m &&& a = a
    · rw [if_pos (by rw [h1]), if_pos ⟨h0, h1⟩, nx_nd, nx_or]; rfl
    · rw [if_neg (fun e => h1 ((nI_eq (by omega) (by omega)).mp e)), if_neg (fun h => h1 h.2)]; rfl
theorem md_put {m b p rg : Nat} (u : St) (hm : m < 16384) : (if nI m &&& nI p = 0 then some ((-1 : Int32), u) else some (((nI m &&& (nI p ^^^ (-1 : Int32))) &&& (nI rg ^^^ (-1 : Int32))) ||| nI b, u)) = some (af_v (if m &&& p ≠ 0 then some (mk_nd (mk_nd m p) rg ||| b) else none), u) := by
  have hle : m &&& p ≤ m := Nat.and_le_left
  rw [nx_and]
  by_cases h : m &&& p = 0
  · rw [if_pos ((nI_z (by omega)).mpr h), if_neg (fun h2 => h2 h)]; rfl
  · rw [if_neg (fun e => h ((nI_z (by omega)).mp e)), if_pos h, nx_nd, nx_nd, nx_or]; rfl
theorem md_after {df : Nat → Bool} {jo sp is os rg : Nat → Nat} {F : Nat} (hF : 20 < F) (hD : ds_ok df jo sp is os rg) {u : St} (hW : md_W df jo sp is os rg u) {m t k : Nat} (hm : m < 16384) (ht : t < 6) (hd : df t = true) (hk : k < 10) : sp_Md_after F (nI m) (nI t) (nI k) u = some (af_v (af_n jo sp is os rg m t k), u) := by
  obtain ⟨-, hW⟩ := hW t ht
  obtain ⟨w2, w3, w4, w5, w6, w7, w8⟩ := hW hd
  obtain ⟨hj, hs, ⟨hi1, hi2⟩, ⟨ho1, ho2⟩, hr⟩ := hD t ht hd
  have hp := tp_lt ht
  unfold sp_Md_after af_n
  simp only [nm_k]
  rw [show (8 : Int32) + nI t = nI (8 + t) from by rw [show (8 : Int32) = nI 8 from rfl, nI_add], sh_one (by omega)]
  by_cases hk3 : k < 3
  · rw [if_neg (show ¬ (3 : Int32) ≤ nI k from nI_ge (b := 3) (by omega) (by omega)), if_pos hk3, if_pos (ib_nI ht (by omega)), nI_clamp (by omega), w2, ix_3]
    unfold tk_n
    by_cases hj0 : jo t = 0
    · rw [if_pos ((nI_z (by omega)).mpr hj0), if_pos hj0]
      by_cases hk0 : k = 0
      · rw [if_pos ((nI_z (by omega)).mpr hk0), if_pos hk0, if_pos (ib_nI ht (by omega)), w4]
        exact md_take u hm (by omega) hp
      · rw [if_neg (fun e => hk0 ((nI_z (by omega)).mp e)), if_neg hk0, if_neg (fun h => h.1 rfl)]; rfl
    · rw [if_neg (fun e => hj0 ((nI_z (by omega)).mp e)), if_neg hj0, if_pos (ib_nI (by omega) (by omega)), nI_clamp (by omega), w6 k hk3]
      exact md_take u hm (bk_lt _ hi1 k hk3) hp
  · rw [if_pos (show (3 : Int32) ≤ nI k from nI_le (a := 3) (by omega) (by omega)), if_neg hk3]
    rw [show nI k - (2 : Int32) = nI (k - 2) from by rw [show (2 : Int32) = nI 2 from rfl, pk_sub (by omega)]]
    have hpu := pu_lt _ ho1 (k - 2) (by omega)
    rw [md_outputs hF u ht (by omega) w7, cl_some, md_count hF hpu, cl_some, md_count hF (by omega), cl_some]
    have p1 := pc_lt (pu_n (os t) (k - 2))
    have p2 := pc_lt (k - 2)
    unfold ok_n
    by_cases hpc : pc_n (pu_n (os t) (k - 2)) = pc_n (k - 2)
    · rw [if_pos (by rw [hpc]), if_pos (ib_nI ht (by omega)), nI_clamp (by omega), w3]
      rw [show (pc_n (pu_n (os t) (k - 2)) == pc_n (k - 2)) = true from by simp [hpc], Bool.true_and]
      by_cases hs0 : sp t = 0
      · rw [if_pos ((nI_z (by omega)).mpr hs0), if_pos (ib_nI ht (by omega)), w5, if_pos hs0]
        by_cases he : pu_n (os t) (k - 2) = os t
        · rw [if_pos (by rw [he]), if_pos (ib_nI ht (by omega)), w8]
          rw [md_put u hm]
          simp [he]
        · rw [if_neg (fun e => he ((nI_eq (by omega) (by omega)).mp e)), if_neg (fun h => he (by simpa using h.1))]; rfl
      · rw [if_neg (fun e => hs0 ((nI_z (by omega)).mp e)), if_neg hs0, if_pos (ib_nI ht (by omega))]
        by_cases hs1 : sp t = 1
        · rw [if_pos (by rw [hs1]; rfl), md_count hF (by omega), cl_some, if_pos hs1]
          by_cases he : pc_n (k - 2) = 1
          · rw [if_pos (by rw [he]; rfl), if_pos (ib_nI ht (by omega)), w8, md_put u hm]
            simp [he]
          · rw [if_neg (fun e => he ((nI_o (by omega)).mp e)), if_neg (fun h => he (by simpa using h.1))]; rfl
        · rw [if_neg (fun e => hs1 ((nI_o (by omega)).mp e)), if_pos (ib_nI ht (by omega)), w8, md_put u hm, if_neg hs1]
          simp
    · rw [if_neg (fun e => hpc ((nI_eq (by omega) (by omega)).mp e)), if_neg (fun h => hpc (beq_iff_eq.mp (by have h1 := h.1; rw [Bool.and_eq_true] at h1; exact h1.1)))]; rfl
