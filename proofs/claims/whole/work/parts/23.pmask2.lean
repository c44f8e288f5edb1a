/-- the words from w on that have all places of h -/
def ms_sa (u : St) (q w h : Nat) (v : Int64) : St := (u.1, va_up u.2 (q + 1) (fun j => if w ≤ j ∧ j < 256 ∧ j &&& h = h then u.2 (q + 1) j ||| v else u.2 (q + 1) j))
theorem or_self_sup (w h : Nat) : (w ||| h) &&& h = h := by
  rw [mk_sub_and]
  intro i hi
  rw [Nat.testBit_or, hi, Bool.or_true]
theorem ms_sa_step (u : St) (q w h : Nat) (v : Int64) (hw : w < 256) (hh : h < 256) (hs : w &&& h = h) : ms_sa (ly_pl u (q + 1) w (u.2 (q + 1) w ||| v)) q ((w + 1) ||| h) h v = ms_sa u q w h v := by
  unfold ms_sa ly_pl
  refine Prod.ext rfl ?_
  funext k j
  by_cases hk : k = q + 1
  · subst hk
    simp only [va_up_self]
    have hle : w + 1 ≤ (w + 1) ||| h := Nat.left_le_or
    by_cases hj : j = w
    · subst hj
      rw [if_neg (by omega), if_pos ⟨Nat.le_refl _, hw, hs⟩, pk_uLs]
    · rw [pk_uLn hj]
      by_cases h2 : w ≤ j ∧ j < 256 ∧ j &&& h = h
      · rw [if_pos h2, if_pos]
        refine ⟨?_, h2.2.1, h2.2.2⟩
        rcases Nat.lt_or_ge j ((w + 1) ||| h) with h3 | h3
        · exfalso
          refine sup_next h hh w hw hs (j - (w + 1)) (by omega) ?_
          rw [show w + 1 + (j - (w + 1)) = j by omega]; exact h2.2.2
        · exact h3
      · rw [if_neg h2, if_neg (fun h3 => h2 ⟨by omega, h3.2⟩)]
  · simp only [va_up_ne _ _ hk]
theorem ms_sa_end (u : St) (q w h : Nat) (v : Int64) (hw : 256 ≤ w) : ms_sa u q w h v = u := by
  unfold ms_sa
  refine Prod.ext rfl ?_
  funext k j
  by_cases hk : k = q + 1
  · subst hk
    simp only [va_up_self]
    rw [if_neg (by omega)]
  · simp only [va_up_ne _ _ hk]
theorem nx_or (a b : Nat) : nI a ||| nI b = nI (a ||| b) := by
  apply Int32.toBitVec_inj.1
  show BitVec.ofNat 32 a ||| BitVec.ofNat 32 b = BitVec.ofNat 32 (a ||| b)
  apply BitVec.eq_of_getLsbD_eq
  intro i hi
  simp [hi]
theorem pm_ab2 (F q : Nat) (v1 : Int32) (h : Nat) (v : Int64) (k : Int32 → St → Option (Int32 × St)) (hh : h < 256) : ∀ (n w : Nat) (u : St), w &&& h = h → w < 512 → 256 - w < n → ∃ z, lp_MS_addAllAbove_48 F q v1 v (nI h) k n (nI w) u = k z (ms_sa u q w h v) := by
  intro n
  induction n with
  | zero => intro w u _ _ hn; omega
  | succ n ih =>
    intro w u hs hw hn
    rw [lp_MS_addAllAbove_48]
    by_cases h2 : 256 ≤ w
    · refine ⟨nI w, ?_⟩
      rw [if_pos (show (256 : Int32) ≤ nI w from nI_le (a := 256) h2 (by omega)), ms_sa_end u q w h v h2]
    · rw [if_neg (show ¬ (256 : Int32) ≤ nI w from nI_ge (b := 256) (by omega) (by omega)), if_pos (ib_nI (by omega) (by omega)), if_pos (ib_nI (by omega) (by omega)), nI_clamp (by omega)]
      simp only [nm_k]
      rw [nI_1, nx_or]
      have hlt : (w + 1) ||| h < 512 := Nat.or_lt_two_pow (n := 9) (by omega) (by omega)
      have hle : w + 1 ≤ (w + 1) ||| h := Nat.left_le_or
      obtain ⟨z, hz⟩ := ih ((w + 1) ||| h) (ly_pl u (q + 1) w (u.2 (q + 1) w ||| v)) (or_self_sup _ _) hlt (by omega)
      exact ⟨z, by rw [hz, ms_sa_step u q w h v (by omega) hh hs]⟩
theorem and_split {x m : Nat} : x &&& m = m ↔ (x / 64 &&& m / 64 = m / 64 ∧ x % 64 &&& m % 64 = m % 64) := by
  have e1 : (x &&& m) / 64 = x / 64 &&& m / 64 := Nat.and_div_two_pow (n := 6)
  have e2 : (x &&& m) % 64 = (x % 64) &&& (m % 64) := Nat.and_mod_two_pow (n := 6)
  constructor
  · intro h
    rw [h] at e1 e2
    exact ⟨e1.symm, e2.symm⟩
  · rintro ⟨h1, h2⟩
    rw [h1] at e1
    rw [h2] at e2
    omega
theorem pm_above {F q m : Nat} (u : St) (hm : m < 16384) (hF : 300 < F) : ∃ u', sp_MS_addAllAbove F q (nI m) u = some (0, u') ∧ ms_fr q u u' ∧ (∀ x, x < 16384 → ms_in u' q x = (decide (x &&& m = m) || ms_in u q x)) ∧ u'.1 q 1 = (if u.1 q 1 ≤ nI (m / 64) then u.1 q 1 else nI (m / 64)) := by
  refine ⟨ly_pi (ms_sa u q (m / 64) (m / 64) (ab_v m)) q 1 (if u.1 q 1 ≤ nI (m / 64) then u.1 q 1 else nI (m / 64)), ?_, ms_fr_pi q _ ⟨fun _ _ => rfl, fun _ _ => rfl, fun k hk => va_up_ne _ _ hk⟩, fun x hx => ?_, pi_at _ _ _ _⟩
  · unfold sp_MS_addAllAbove
    simp only [nm_k]
    obtain ⟨n, rfl⟩ : ∃ n, F = n + 7 := ⟨F - 7, by omega⟩
    rw [pm_ab, nI_sh6 (by omega)]
    obtain ⟨z, hz⟩ := pm_ab2 (n + 7) q (nI m) (m / 64) (ab_v m) (fun (v5_12 : Int32) (u13 : St) => (if (u13.1 (q) 1) ≤ nI (m / 64) then (some ((0 : Int32), ly_pi u13 (q) 1 (u13.1 (q) 1))) else (some ((0 : Int32), ly_pi u13 (q) 1 (nI (m / 64)))))) (by omega) (n + 7) (m / 64) u (Nat.and_self _) (by omega) (by omega)
    rw [hz]
    show (if u.1 q 1 ≤ nI (m / 64) then _ else _) = _
    by_cases h : u.1 q 1 ≤ nI (m / 64)
    · rw [if_pos h, if_pos h]; rfl
    · rw [if_neg h, if_neg h]
  · rw [ms_pi]
    unfold ms_in ms_sa
    simp only [va_up_self]
    have hlo := ab_bits (m % 64) (by omega) (x % 64) (by omega)
    rw [← ab_lo] at hlo
    by_cases h : x / 64 &&& m / 64 = m / 64
    · rw [if_pos ⟨by rw [← h]; exact Nat.and_le_left, by omega, h⟩, Int64.toBitVec_or, BitVec.getLsbD_or, hlo, Bool.or_comm]
      congr 1
      by_cases h2 : x % 64 &&& m % 64 = m % 64
      · rw [decide_eq_true h2, decide_eq_true (and_split.mpr ⟨h, h2⟩)]
      · rw [decide_eq_false h2, decide_eq_false (fun h3 => h2 (and_split.mp h3).2)]
    · rw [if_neg (fun h2 => h h2.2.2), decide_eq_false (fun h3 => h (and_split.mp h3).1)]
      rfl
/-- the least member is drawn -/
def bc_L (x : Int64) : Int32 := ((sp_Long_bitCount x uM0).map (fun q => q.1)).getD 0
theorem bc_Le (x : Int64) (u : St) : sp_Long_bitCount x u = some (bc_L x, u) := rfl
theorem bc_tp : ∀ k, k < 64 → bc_L (Int64.ofBitVec (BitVec.twoPow 64 k) - 1) = nI k := by decide +kernel
theorem low_bit {v : BitVec 64} {k : Nat} (hk : v.getLsbD k = true) (hl : ∀ j, j < k → v.getLsbD j = false) : v &&& -v = BitVec.twoPow 64 k := by
  have hk64 : k < 64 := BitVec.lt_of_getLsbD hk
  apply BitVec.eq_of_getLsbD_eq
  intro i hi
  rw [BitVec.getLsbD_and, BitVec.getLsbD_neg, tp_bit _ _ hk64]
  by_cases hik : k = i
  · subst hik
    have : ¬ ∃ j, j < k ∧ v.getLsbD j = true := fun ⟨j, h1, h2⟩ => by rw [hl j h1] at h2; cases h2
    simp [hk, this]
  · rw [decide_eq_false hik]
    rcases Nat.lt_or_gt_of_ne hik with h | h
    · have : ∃ j, j < i ∧ v.getLsbD j = true := ⟨k, h, hk⟩
      simp [hi, this]
    · simp [hl i h]
