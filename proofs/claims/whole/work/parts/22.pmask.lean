/-! mask sets as sets of numbers -/
def ms_in (u : St) (q x : Nat) : Bool := (u.2 (q + 1) (x / 64)).toBitVec.getLsbD (x % 64)
theorem ib_nI {n N : Nat} (h : n < N) (hN : N < 2 ^ 31) : ib (nI n) N = true := ib_in.mpr (vp_in_nI h hN)
theorem nI_sh6 {m : Nat} (h : m < 2 ^ 31) : nI m >>> ((6 : Int32) &&& 31) = nI (m / 64) := pk_shrN h _ 6 (by decide)
theorem nI_lo6 {m : Nat} (h : m < 2 ^ 31) : nI m &&& (63 : Int32) = nI (m % 64) := pk_andN (by omega) 6 (by decide)
theorem sh_u : ∀ k, k < 64 → ((nI k).toInt64.toUInt64 &&& Int64.toUInt64 63).toNat = k := by decide +kernel
theorem sh_l : ∀ k, k < 64 → ((1 : Int64) <<< ((nI k).toInt64 &&& 63)).toBitVec = BitVec.twoPow 64 k := by decide +kernel
theorem ms_pl (u : St) (q i : Nat) (v : Int64) (x : Nat) : ms_in (ly_pl u (q + 1) i v) q x = if x / 64 = i then v.toBitVec.getLsbD (x % 64) else ms_in u q x := by
  unfold ms_in ly_pl
  simp only [va_up_self]
  by_cases h : x / 64 = i
  · rw [if_pos h, h, pk_uLs]
  · rw [if_neg h, pk_uLn h]
theorem ms_pi (u : St) (k j q x : Nat) (v : Int32) : ms_in (ly_pi u k j v) q x = ms_in u q x := rfl
theorem pm_has {q m : Nat} (u : St) (hm : m < 16384) : sp_MS_has q (nI m) u = some (if ms_in u q m = true then 1 else 0, u) := by
  unfold sp_MS_has
  rw [nI_sh6 (by omega), nI_lo6 (by omega), if_pos (ib_nI (by omega) (by omega)), nI_clamp (by omega)]
  have hb := ts_bit (w := u.2 (q + 1) (m / 64)) (s := (nI (m % 64)).toInt64.toUInt64 &&& Int64.toUInt64 63) (j := m % 64) (by omega) (sh_u _ (by omega))
  by_cases h : ms_in u q m = true
  · rw [if_pos h, if_neg]
    rw [lg_cmp_eq, hb]
    unfold ms_in at h
    rw [h]; exact fun h => by cases h
  · rw [if_neg h, if_pos]
    rw [lg_cmp_eq, hb]
    unfold ms_in at h
    exact Bool.eq_false_iff.mpr h
/-- what a call on the mask set at place q leaves alone -/
def ms_fr (q : Nat) (u u' : St) : Prop := (∀ k, k ≠ q → u'.1 k = u.1 k) ∧ (∀ j, j ≠ 1 → u'.1 q j = u.1 q j) ∧ ∀ k, k ≠ q + 1 → u'.2 k = u.2 k
theorem ms_fr_rf (q : Nat) (u : St) : ms_fr q u u := ⟨fun _ _ => rfl, fun _ _ => rfl, fun _ _ => rfl⟩
theorem ms_fr_pl (q i : Nat) (v : Int64) {u u0 : St} (h : ms_fr q u0 u) : ms_fr q u0 (ly_pl u (q + 1) i v) := ⟨h.1, h.2.1, fun k hk => by
  show va_up u.2 (q + 1) _ k = _
  rw [va_up_ne _ _ hk]; exact h.2.2 k hk⟩
theorem ms_fr_pi (q : Nat) (v : Int32) {u u0 : St} (h : ms_fr q u0 u) : ms_fr q u0 (ly_pi u q 1 v) := ⟨fun k hk => by
  show va_up u.1 q _ k = _
  rw [va_up_ne _ _ hk]; exact h.1 k hk, fun j hj => by
  show va_up u.1 q _ q j = _
  rw [va_up_self, pk_un hj]; exact h.2.1 j hj, h.2.2⟩
theorem pi_at (u : St) (q j : Nat) (v : Int32) : (ly_pi u q j v).1 q j = v := by
  show va_up u.1 q _ q j = _
  rw [va_up_self, pk_us]
theorem tp_bit (k j : Nat) (hk : k < 64) : (BitVec.twoPow 64 k).getLsbD j = decide (k = j) := by
  rw [BitVec.getLsbD_twoPow]
  simp [hk]
theorem pm_add {q m : Nat} (u : St) (hm : m < 16384) : ∃ u', sp_MS_add q (nI m) u = some (0, u') ∧ ms_fr q u u' ∧ (∀ x, ms_in u' q x = (decide (x = m) || ms_in u q x)) ∧ u'.1 q 1 = (if u.1 q 1 ≤ nI (m / 64) then u.1 q 1 else nI (m / 64)) := by
  refine ⟨ly_pi (ly_pl u (q + 1) (m / 64) (u.2 (q + 1) (m / 64) ||| ((1 : Int64) <<< ((nI (m % 64)).toInt64 &&& 63)))) q 1 (if u.1 q 1 ≤ nI (m / 64) then u.1 q 1 else nI (m / 64)), ?_, ms_fr_pi q _ (ms_fr_pl q _ _ (ms_fr_rf q u)), fun x => ?_, pi_at _ _ _ _⟩
  · unfold sp_MS_add
    simp only [nm_k]
    rw [nI_sh6 (by omega), nI_lo6 (by omega), if_pos (ib_nI (by omega) (by omega)), if_pos (ib_nI (by omega) (by omega)), nI_clamp (by omega)]
    show (if u.1 q 1 ≤ nI (m / 64) then _ else _) = _
    by_cases h : u.1 q 1 ≤ nI (m / 64)
    · rw [if_pos h, if_pos h]; rfl
    · rw [if_neg h, if_neg h]
  · rw [ms_pi, ms_pl]
    by_cases h : x / 64 = m / 64
    · rw [if_pos h, Int64.toBitVec_or, BitVec.getLsbD_or, sh_l _ (by omega), tp_bit _ _ (by omega)]
      have e : decide (m % 64 = x % 64) = decide (x = m) := by
        by_cases hx : x = m
        · subst hx; simp
        · rw [decide_eq_false hx, decide_eq_false]; omega
      rw [e, Bool.or_comm]
      unfold ms_in
      rw [h]
    · rw [if_neg h, decide_eq_false (fun hx => h (by rw [hx]))]; rfl
/-- clear -/
def ms_fl (u : St) (q i : Nat) (v : Int64) : St := (u.1, va_up u.2 (q + 1) (fun j => if i ≤ j ∧ j < 256 then v else u.2 (q + 1) j))
theorem ms_fl_step (u : St) (q i : Nat) (v : Int64) (hi : i < 256) : ms_fl (ly_pl u (q + 1) i v) q (i + 1) v = ms_fl u q i v := by
  unfold ms_fl ly_pl
  refine Prod.ext rfl ?_
  funext k j
  by_cases hk : k = q + 1
  · subst hk
    simp only [va_up_self]
    by_cases hj : j = i
    · subst hj
      rw [if_neg (by omega), if_pos (by omega), pk_uLs]
    · rw [pk_uLn hj]
      by_cases h2 : i ≤ j ∧ j < 256
      · rw [if_pos h2, if_pos (by omega)]
      · rw [if_neg h2, if_neg (by omega)]
  · simp only [va_up_ne _ _ hk]
theorem ms_fl_end (u : St) (q : Nat) (v : Int64) : ms_fl u q 256 v = u := by
  unfold ms_fl
  refine Prod.ext rfl ?_
  funext k j
  by_cases hk : k = q + 1
  · subst hk
    simp only [va_up_self]
    rw [if_neg (by omega)]
  · simp only [va_up_ne _ _ hk]
theorem pm_fill (F q : Nat) (v : Int64) (k : Int32 → St → Option (Int32 × St)) : ∀ (n i : Nat) (u : St), i ≤ 256 → 256 - i < n → lp_Arrays_fill_6 F q v (256 : Int32) k n (nI i) u = k (nI 256) (ms_fl u q i v) := by
  intro n
  induction n with
  | zero => intro i u _ h; omega
  | succ n ih =>
    intro i u hi hn
    rw [lp_Arrays_fill_6]
    by_cases h : i = 256
    · subst h
      rw [if_pos (show (256 : Int32) ≤ nI 256 from by decide), ms_fl_end]
    · rw [if_neg (show ¬ (256 : Int32) ≤ nI i from nI_ge (b := 256) (by omega) (by omega)), if_pos (ib_nI (by omega) (by omega)), nI_clamp (by omega)]
      simp only [nm_k]
      rw [nI_1, ih (i + 1) _ (by omega) (by omega), ms_fl_step u q i v (by omega)]
theorem pm_clear {F q : Nat} (u : St) (hF : 256 < F) : ∃ u', sp_MS_clear F q u = some (0, u') ∧ ms_fr q u u' ∧ (∀ x, x < 16384 → ms_in u' q x = false) ∧ u'.1 q 1 = nI 256 := by
  refine ⟨ly_pi (ms_fl u q 0 0) q 1 (256 : Int32), ?_, ms_fr_pi q _ ⟨fun _ _ => rfl, fun _ _ => rfl, fun k hk => va_up_ne _ _ hk⟩, fun x hx => ?_, pi_at _ _ _ _⟩
  · unfold sp_MS_clear sp_Arrays_fill
    have e := pm_fill F q 0 (fun (v3_3 : Int32) (u4 : St) => (some ((0 : Int32), u4))) F 0 u (by omega) (by omega)
    rw [show (0 : Int32) = nI 0 from rfl] at *
    rw [e]; rfl
  · rw [ms_pi]
    unfold ms_in ms_fl
    simp only [va_up_self]
    rw [if_pos (by omega)]
    simp
/-- the words above: which bits of a word belong to masks that have the low places of lo -/
def ab_s (lo i : Nat) (v : Int64) : Int64 := if lo.testBit i = true then v &&& hv_T i else v
def ab_v (lo : Nat) : Int64 := ab_s lo 5 (ab_s lo 4 (ab_s lo 3 (ab_s lo 2 (ab_s lo 1 (ab_s lo 0 (-1))))))
theorem ab_lo (m : Nat) : ab_v m = ab_v (m % 64) := by
  unfold ab_v ab_s
  have h : ∀ i, i < 6 → (m % 64).testBit i = m.testBit i := fun i hi => by
    rw [show 64 = 2 ^ 6 from rfl, Nat.testBit_mod_two_pow]; simp [hi]
  rw [h 0 (by omega), h 1 (by omega), h 2 (by omega), h 3 (by omega), h 4 (by omega), h 5 (by omega)]
theorem ab_bits : ∀ lo, lo < 64 → ∀ j, j < 64 → (ab_v lo).toBitVec.getLsbD j = decide (j &&& lo = lo) := by decide +kernel
theorem bit_0 {m i : Nat} (hi : i < 31) : nI m &&& ((1 : Int32) <<< (nI i &&& 31)) = 0 ↔ m.testBit i = false := by
  have e : (1 : Int32) <<< (nI i &&& 31) = nI (2 ^ i) := by
    have := pk_shlN (n := 1) (nI i &&& 31) i (s_l i (by omega)) (by rw [Nat.one_mul]; exact Nat.pow_lt_pow_right (by omega) (by omega))
    rw [Nat.one_mul] at this
    exact this
  rw [e, nx_and, show (0 : Int32) = nI 0 from rfl]
  have hlt : m &&& 2 ^ i < 2 ^ 31 := Nat.lt_of_le_of_lt Nat.and_le_right (Nat.pow_lt_pow_right (by omega) hi)
  rw [nI_eq hlt (by omega), mk_dis]
  constructor
  · intro h
    cases hb : m.testBit i with
    | false => rfl
    | true =>
      have := h i hb
      rw [Nat.testBit_two_pow_self] at this
      cases this
  · intro h j hj
    rw [Nat.testBit_two_pow]
    by_cases hij : i = j
    · subst hij; rw [h] at hj; cases hj
    · exact decide_eq_false hij
theorem pm_ab1 (F q : Nat) (m : Nat) (k : Int64 → Int32 → St → Option (Int32 × St)) (n i : Nat) (v : Int64) (u : St) (hi : i < 6) : lp_MS_addAllAbove_7 F q (nI m) k (n + 1) v (nI i) u = lp_MS_addAllAbove_7 F q (nI m) k n (ab_s m i v) (nI (i + 1)) u := by
  conv => lhs; rw [lp_MS_addAllAbove_7]
  rw [if_neg (show ¬ (6 : Int32) ≤ nI i from nI_ge (b := 6) (by omega) (by omega)), nI_1, nI_clamp (by omega)]
  unfold ab_s
  by_cases hb : m.testBit i = true
  · rw [if_neg (fun h => by rw [bit_0 (by omega), hb] at h; cases h), if_pos hb, if_pos (ib_nI hi (by omega))]
    rfl
  · rw [if_pos ((bit_0 (by omega)).mpr (Bool.eq_false_iff.mpr hb)), if_neg hb]
theorem pm_ab (F q : Nat) (m : Nat) (k : Int64 → Int32 → St → Option (Int32 × St)) (n : Nat) (u : St) : lp_MS_addAllAbove_7 F q (nI m) k (n + 7) (-1) (0 : Int32) u = k (ab_v m) (nI 6) u := by
  rw [show (0 : Int32) = nI 0 from rfl, pm_ab1 F q m k (n + 6) 0 _ u (by omega), pm_ab1 F q m k (n + 5) 1 _ u (by omega), pm_ab1 F q m k (n + 4) 2 _ u (by omega), pm_ab1 F q m k (n + 3) 3 _ u (by omega), pm_ab1 F q m k (n + 2) 4 _ u (by omega), pm_ab1 F q m k (n + 1) 5 _ u (by omega)]
  rw [lp_MS_addAllAbove_7, if_pos (show (6 : Int32) ≤ nI (5 + 1) from by decide)]
  rfl
theorem sup_next : ∀ h, h < 256 → ∀ w, w < 256 → w &&& h = h → ∀ d, d < ((w + 1) ||| h) - (w + 1) → ¬ (w + 1 + d) &&& h = h := by decide +kernel
