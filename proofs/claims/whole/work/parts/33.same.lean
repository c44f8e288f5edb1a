section SAME
variable {df : Nat → Bool} {jo sp is os rg : Nat → Nat}
theorem md_af {F : Nat} (hF : 20 < F) (hD : ds_ok df jo sp is os rg) : af_ok (md_W df jo sp is os rg) df (af_n jo sp is os rg) F := by
  refine ⟨fun u u' hfr hW t ht => ?_, fun u hW t ht => (hW t ht).1, fun u hW m t k hm ht hd hk => md_after hF hD hW hm ht hd hk, fun m t k m' hm ht hd hk ha => ?_⟩
  · have e : ∀ k j, k < 22 → k ≠ 0 → u'.1 k j = u.1 k j := fun k j h1 h2 => hfr.1 k j (by omega) (Or.inl h2)
    obtain ⟨h1, h2⟩ := hW t ht
    refine ⟨by rw [e 1 t (by omega) (by omega)]; exact h1, fun hd => ?_⟩
    obtain ⟨w2, w3, w4, w5, w6, w7, w8⟩ := h2 hd
    refine ⟨by rw [e _ _ (by omega) (by omega)]; exact w2, by rw [e _ _ (by omega) (by omega)]; exact w3, by rw [e _ _ (by omega) (by omega)]; exact w4, by rw [e _ _ (by omega) (by omega)]; exact w5, fun k hk => by rw [e _ _ (by omega) (by omega)]; exact w6 k hk, fun k hk => by rw [e _ _ (by omega) (by omega)]; exact w7 k hk, by rw [e _ _ (by omega) (by omega)]; exact w8⟩
  · obtain ⟨hj, hs, ⟨hi1, hi2⟩, ⟨ho1, ho2⟩, hr⟩ := hD t ht hd
    unfold af_n at ha
    by_cases hk3 : k < 3
    · rw [if_pos hk3] at ha
      split at ha
      · rw [← Option.some.inj ha]; exact or_lt14 (nd_lt14 hm) (tp_lt ht)
      · cases ha
    · rw [if_neg hk3] at ha
      split at ha
      · rw [← Option.some.inj ha]
        have := pu_lt _ ho1 (k - 2) (by omega)
        exact or_lt14 (nd_lt14 (nd_lt14 hm)) (by omega)
      · cases ha
/-- the class's net, with the lists that its tasks hold -/
def cn_W (df : Nat → Bool) (jo sp is os rg : Nat → Nat) (u : St) : Prop := nw_ok u df rg (fun t => (lt_n jo is t).length) (fun t i => (lt_n jo is t).getD i 0) (fun t => (lp_n sp os t).length) (fun t i => (lp_n sp os t).getD i 0)
theorem cov_same {F : Nat} (hF : 16500 < F) (hD : ds_ok df jo sp is os rg) {uC uM : St} (hC : cn_W df jo sp is os rg uC) (hM : md_W df jo sp is os rg uM) {fm target : Nat} (hf : fm < 16384) (ht : target < 16384) (wo : Int32) : ∃ r uC' uM', sp_Net_findCovering F (nI target) (nI fm) wo uC = some (r, uC') ∧ sp_Md_search F (nI fm) (nI target) wo uM = some (r, uM') ∧ fr_s uC uC' ∧ fr_m uM uM' ∧ (r = 0 ∨ r = 1) := by
  obtain ⟨r, uC', c1, c2, c3⟩ := cv_find (wo := wo) hC ht hf hF
  obtain ⟨r', uM', m1, m2, m3⟩ := bq_search (md_af (by omega) hD) hF wo hM hf (target := target) (by omega)
  rw [st_eq hD wo] at m3
  refine ⟨r, uC', uM', c1, ?_, c2, m2, ?_⟩
  · have e : r' = r := by
      rcases c3 with ⟨a1, a2⟩ | ⟨a1, a2, _⟩ <;> rcases m3 with ⟨b1, b2⟩ | ⟨b1, b2, _⟩
      · rw [a1, b1]
      · exact absurd a2 b2
      · exact absurd b2 a2
      · rw [a1, b1]
    rw [m1, e]
  · rcases c3 with ⟨a1, _⟩ | ⟨a1, _⟩
    · exact Or.inr a1
    · exact Or.inl a1
end SAME
