theorem ft_use {x j : Nat} (hx : x < 256) (hg : go_n x = true) (hj : j < 3) : (ls_n (if j = 0 then 0 else 1) x).length ≤ 3 ∧ (∀ e, e ∈ ls_n (if j = 0 then 0 else 1) x → e ≠ 0 ∧ ∃ k, k < 3 ∧ tk_n j x k = e) ∧ ∀ k, k < 3 → tk_n j x k ≠ 0 → tk_n j x k ∈ ls_n (if j = 0 then 0 else 1) x := by
  have h := ft_all x hx hg j hj
  unfold ft_n at h
  simp only [Bool.and_eq_true, decide_eq_true_eq, List.all_eq_true, List.any_eq_true, List.mem_range, Bool.or_eq_true, bne_iff_ne, ne_eq, beq_iff_eq, List.contains_eq_mem] at h
  refine ⟨h.1.1, fun e he => h.1.2 e he, fun k hk hne => (h.2 k hk).elim (fun e => absurd e hne) id⟩
theorem fp_use {x s : Nat} (hx : x < 256) (hg : go_n x = true) (hs : s < 3) : (ls_n s x).length ≤ 7 ∧ (∀ e, e ∈ ls_n s x → e ≠ 0 ∧ ∃ k, k < 8 ∧ k ≠ 0 ∧ ok_n s x k = true ∧ pu_n x k = e) ∧ ∀ k, k < 8 → k ≠ 0 → ok_n s x k = true → pu_n x k ∈ ls_n s x := by
  have h := fp_all x hx hg s hs
  unfold fp_n at h
  simp only [Bool.and_eq_true, decide_eq_true_eq, List.all_eq_true, List.any_eq_true, List.mem_range, Bool.or_eq_true, bne_iff_ne, ne_eq, beq_iff_eq, List.contains_eq_mem, Bool.not_eq_true'] at h
  refine ⟨h.1.1, fun e he => ?_, fun k hk h0 hok => ?_⟩
  · obtain ⟨h1, k, h2, ⟨h3, h4⟩, h5⟩ := h.1.2 e he
    exact ⟨h1, k, h2, h3, h4, h5⟩
  · rcases h.2 k hk with (h1 | h1) | h1
    · exact absurd h1 h0
    · rw [hok] at h1; cases h1
    · exact h1
theorem gd_mem {l : List Nat} {e : Nat} : e ∈ l ↔ ∃ i, i < l.length ∧ e = l.getD i 0 := by
  constructor
  · intro h
    obtain ⟨i, hi, e1⟩ := List.getElem_of_mem h
    exact ⟨i, hi, by rw [List.getD_eq_getElem?_getD, List.getElem?_eq_getElem hi, e1]; rfl⟩
  · rintro ⟨i, hi, rfl⟩
    rw [List.getD_eq_getElem?_getD, List.getElem?_eq_getElem hi]
    exact List.getElem_mem hi
/-- the reference's move number k of task t -/
def af_n (jo sp is os rg : Nat → Nat) (m t k : Nat) : Option Nat := if k < 3 then (if tk_n (jo t) (is t) k ≠ 0 ∧ m &&& tk_n (jo t) (is t) k = tk_n (jo t) (is t) k then some (mk_nd m (tk_n (jo t) (is t) k) ||| 2 ^ (8 + t)) else none) else (if ok_n (sp t) (os t) (k - 2) = true ∧ m &&& 2 ^ (8 + t) ≠ 0 then some (mk_nd (mk_nd m (2 ^ (8 + t))) (rg t) ||| pu_n (os t) (k - 2)) else none)
/-- the class's lists of what its tasks take and put -/
def lt_n (jo is : Nat → Nat) (t : Nat) : List Nat := ls_n (if jo t = 0 then 0 else 1) (is t)
def lp_n (sp os : Nat → Nat) (t : Nat) : List Nat := ls_n (sp t) (os t)
def ds_ok (df : Nat → Bool) (jo sp is os rg : Nat → Nat) : Prop := ∀ t, t < 6 → df t = true → jo t < 3 ∧ sp t < 3 ∧ (is t < 256 ∧ go_n (is t) = true) ∧ (os t < 256 ∧ go_n (os t) = true) ∧ rg t < 16384
theorem st_eq {df : Nat → Bool} {jo sp is os rg : Nat → Nat} (hD : ds_ok df jo sp is os rg) (wo : Int32) : af_st df (af_n jo sp is os rg) wo = nw_st wo df rg (fun t => (lt_n jo is t).length) (fun t i => (lt_n jo is t).getD i 0) (fun t => (lp_n sp os t).length) (fun t i => (lp_n sp os t).getD i 0) := by
  funext m m'
  apply propext
  constructor
  · rintro ⟨t, ht, hd, hw, k, hk, ha⟩
    obtain ⟨hj, hs, ⟨hi1, hi2⟩, ⟨ho1, ho2⟩, hr⟩ := hD t ht hd
    refine ⟨t, ⟨ht, hd, hw⟩, ?_⟩
    unfold af_n at ha
    by_cases hk3 : k < 3
    · rw [if_pos hk3] at ha
      by_cases hc : tk_n (jo t) (is t) k ≠ 0 ∧ m &&& tk_n (jo t) (is t) k = tk_n (jo t) (is t) k
      · rw [if_pos hc] at ha
        have ha := Option.some.inj ha
        exact Or.inl ⟨tk_n (jo t) (is t) k, gd_mem.mp ((ft_use hi1 hi2 hj).2.2 k hk3 hc.1), mk_sub_and.mp hc.2, ha.symm⟩
      · rw [if_neg hc] at ha; cases ha
    · rw [if_neg hk3] at ha
      by_cases hc : ok_n (sp t) (os t) (k - 2) = true ∧ m &&& 2 ^ (8 + t) ≠ 0
      · rw [if_pos hc] at ha
        have ha := Option.some.inj ha
        exact Or.inr ⟨pu_n (os t) (k - 2), gd_mem.mp ((fp_use ho1 ho2 hs).2.2 (k - 2) (by omega) (by omega) hc.1), hc.2, ha.symm⟩
      · rw [if_neg hc] at ha; cases ha
  · rintro ⟨t, ⟨ht, hd, hw⟩, ⟨a, ha, hm, rfl⟩ | ⟨b, hb, hm, rfl⟩⟩
    · obtain ⟨hj, hs, ⟨hi1, hi2⟩, ⟨ho1, ho2⟩, hr⟩ := hD t ht hd
      obtain ⟨h0, k, hk, e⟩ := (ft_use hi1 hi2 hj).2.1 a (gd_mem.mpr ha)
      refine ⟨t, ht, hd, hw, k, by omega, ?_⟩
      unfold af_n
      rw [if_pos hk, e, if_pos ⟨h0, mk_sub_and.mpr hm⟩]
    · obtain ⟨hj, hs, ⟨hi1, hi2⟩, ⟨ho1, ho2⟩, hr⟩ := hD t ht hd
      obtain ⟨h0, k, hk, hk0, hok, e⟩ := (fp_use ho1 ho2 hs).2.1 b (gd_mem.mpr hb)
      refine ⟨t, ht, hd, hw, k + 2, by omega, ?_⟩
      unfold af_n
      rw [if_neg (by omega), Nat.add_sub_cancel, if_pos ⟨hok, hm⟩, e]
