/-! a running task is stopped: both sides -/
def rr_B (uC uM : St) (df : Nat → Bool) (jo sp is os rg nn th vv dd fi : Nat → Nat) (gv : Nat → Nat → Nat) (on : Bool) (p mm : Nat) (tt ss : Nat → Nat) : Prop := rr_S uC uM on p mm ∧ rr_I uC uM mm tt ss ∧ rr_T uC uM df jo sp is os nn th vv dd fi gv mm ∧ (cn_W df jo sp is os rg uC ∧ md_W df jo sp is os rg uM ∧ ds_ok df jo sp is os rg)
/-- as rr_V, but task e's completed items are not counted -/
def rr_X (e : Nat) (df : Nat → Bool) (nn th fi : Nat → Nat) (on : Bool) (p mm : Nat) (tt ss : Nat → Nat) : Prop := (on = false → p = 0) ∧ (∀ t, t < 6 → p.testBit (8 + t) = true → df t = true ∧ 1 ≤ fi t ∧ fi t + nn t ≤ mm + 1 ∧ (∀ i, fi t ≤ i → i < fi t + nn t → tt i = t) ∧ (∀ i, fi t + nn t ≤ i → i ≤ mm → tt i ≠ t) ∧ (t ≠ e → ct_n ss (fi t) (nn t) < th t)) ∧ ∀ i, 1 ≤ i → i ≤ mm → ss i ≤ 2 → p.testBit (8 + tt i) = true ∧ fi (tt i) ≤ i ∧ i < fi (tt i) + nn (tt i)
theorem rr_VX {e : Nat} {df : Nat → Bool} {nn th fi : Nat → Nat} {on : Bool} {p mm : Nat} {tt ss : Nat → Nat} (h : rr_V df nn th fi on p mm tt ss) : rr_X e df nn th fi on p mm tt ss := ⟨h.1, fun t ht hr => by
  obtain ⟨a, b, c, d, f, g⟩ := h.2.1 t ht hr
  exact ⟨a, b, c, d, f, fun _ => g⟩, h.2.2⟩
theorem wd_3 (ss : Nat → Nat) (lo hi i : Nat) : wd_s ss lo hi i = 3 ↔ ss i = 3 := by
  unfold wd_s
  by_cases h : lo ≤ i ∧ i < hi ∧ ss i ≤ 2
  · rw [if_pos h]; omega
  · rw [if_neg h]
theorem rv_stop {t : Nat} {df : Nat → Bool} {nn th fi : Nat → Nat} {on : Bool} {p mm : Nat} {tt ss : Nat → Nat} (h : rr_X t df nn th fi on p mm tt ss) : rr_V df nn th fi on (mk_nd p (2 ^ (8 + t))) mm tt (wd_s ss (fi t) (fi t + nn t)) := by
  refine ⟨fun ho => ?_, fun s hs hr => ?_, fun i h1 h2 h3 => ?_⟩
  · rw [h.1 ho]
    apply Nat.eq_of_testBit_eq
    intro i
    rw [mk_ndb, Nat.zero_testBit, Bool.false_and]
  · rw [mk_ndb, Bool.and_eq_true, Nat.testBit_two_pow, Bool.not_eq_true', decide_eq_false_iff_not] at hr
    obtain ⟨a, b, c, d, f, g⟩ := h.2.1 s hs hr.1
    refine ⟨a, b, c, d, f, ?_⟩
    rw [ct_eq (nn s) (fun i _ _ => wd_3 ss _ _ i)]
    exact g (fun e => hr.2 (by rw [e]))
  · unfold wd_s at h3
    by_cases hx : fi t ≤ i ∧ i < fi t + nn t ∧ ss i ≤ 2
    · rw [if_pos hx] at h3; omega
    · rw [if_neg hx] at h3
      obtain ⟨a, b, c⟩ := h.2.2 i h1 h2 h3
      refine ⟨?_, b, c⟩
      rw [mk_ndb, a, Nat.testBit_two_pow, Bool.true_and, Bool.not_eq_true', decide_eq_false_iff_not]
      intro e
      have e : tt i = t := by omega
      rw [e] at b c
      exact hx ⟨b, c, h3⟩
theorem wd_wm {ss tt : Nat → Nat} {t a b mm : Nat} (h1 : ∀ i, a ≤ i → i < a + b → tt i = t) (h2 : ∀ i, a + b ≤ i → i ≤ mm → tt i ≠ t) {j : Nat} (hj : j ≤ mm) : wm_s ss tt t a j = wd_s ss a (a + b) j := by
  unfold wm_s wd_s
  by_cases c1 : a ≤ j
  · by_cases c2 : j < a + b
    · have := h1 j c1 c2
      by_cases c3 : ss j ≤ 2
      · rw [if_pos ⟨c1, this, c3⟩, if_pos ⟨c1, c2, c3⟩]
      · rw [if_neg (fun h => c3 h.2.2), if_neg (fun h => c3 h.2.2)]
    · rw [if_neg (fun h => h2 j (by omega) hj h.2.1), if_neg (fun h => c2 h.2.1)]
  · rw [if_neg (fun h => c1 h.1), if_neg (fun h => c1 h.1)]
theorem rr_S_p {uC uM : St} {on : Bool} {p mm : Nat} (h : rr_S uC uM on p mm) {p' : Nat} (hp : p' < 16384) : rr_S (ly_pi uC 0 4 (nI p')) (ly_pi uM 0 16 (nI p')) on p' mm := by
  obtain ⟨S1, S2, S3, S4, S5, S6, S7, S8, S9, S10⟩ := h
  refine ⟨?_, ?_, pi_at _ _ _ _, pi_at _ _ _ _, hp, ?_, fun i hi => ?_, ?_, ?_, S10⟩
  · rw [pi_ne (Or.inr (by omega))]; exact S1
  · rw [pi_ne (Or.inr (by omega))]; exact S2
  · rw [pi_ne (Or.inr (by omega)), pi_ne (Or.inr (by omega))]; exact S6
  · rw [pi_p (by omega), pi_p (by omega)]; exact S7 i hi
  · rw [pi_p (by omega)]; exact S8
  · rw [pi_ne (Or.inr (by omega))]; exact S9
section STOP
variable {df : Nat → Bool} {jo sp is os rg nn th vv dd fi : Nat → Nat} {gv : Nat → Nat → Nat} {on : Bool} {p mm : Nat} {tt ss : Nat → Nat} {F : Nat} {uC uM : St}
theorem rr_B_p (h : rr_B uC uM df jo sp is os rg nn th vv dd fi gv on p mm tt ss) {p' : Nat} (hp : p' < 16384) : rr_B (ly_pi uC 0 4 (nI p')) (ly_pi uM 0 16 (nI p')) df jo sp is os rg nn th vv dd fi gv on p' mm tt ss :=
  ⟨rr_S_p h.1 hp, rr_I_fr h.2.1 (fun k _ _ => pi_p (by omega)) (fun k _ _ => pi_p (by omega)), rr_T_fr h.2.2.1 (fun k _ _ => pi_p (by omega)) (fun k _ _ _ _ _ _ => pi_p (by omega)), nw_fr2 h.2.2.2.1 (fun k _ _ => pi_p (by omega)), md_fr2 h.2.2.2.2.1 (fun k _ _ => pi_p (by omega)), h.2.2.2.2.2⟩
/-- items' states change on both sides alike -/
theorem rr_B_s {uC' uM' : St} (h : rr_B uC uM df jo sp is os rg nn th vv dd fi gv on p mm tt ss) (ss' : Nat → Nat) (c : ∀ k, k ≠ 47 → uC'.1 k = uC.1 k) (m : ∀ k, k ≠ 18 → uM'.1 k = uM.1 k) (cs : ∀ j, 1 ≤ j → j ≤ mm → uC'.1 47 j = nI (ss' j)) (ms : ∀ j, 1 ≤ j → j ≤ mm → uM'.1 18 j = nI (ss' j)) (hs : ∀ j, 1 ≤ j → j ≤ mm → 1 ≤ ss' j ∧ ss' j ≤ 5) : rr_B uC' uM' df jo sp is os rg nn th vv dd fi gv on p mm tt ss' := by
  obtain ⟨hS, hI, hT, hW, hWm, hD⟩ := h
  refine ⟨?_, fun i h1 h2 => ?_, rr_T_fr hT (fun k _ _ => c k (by omega)) (fun k _ _ _ _ h _ => m k h), nw_fr2 hW (fun k _ _ => c k (by omega)), md_fr2 hWm (fun k _ _ => m k (by omega)), hD⟩
  · unfold rr_S at hS ⊢
    rw [c 0 (by omega), c 45 (by omega), c 49 (by omega), m 0 (by omega), m 16 (by omega)]
    exact hS
  · rw [c 46 (by omega), c 48 (by omega), m 17 (by omega), m 19 (by omega)]
    obtain ⟨a1, a2, a3⟩ := hI i h1 h2
    exact ⟨a1, ⟨cs i h1 h2, ms i h1 h2, hs i h1 h2⟩, a3⟩
theorem st_same (hF : 100 < F) {t : Nat} (ht : t < 6) (h : rr_B uC uM df jo sp is os rg nn th vv dd fi gv on p mm tt ss) (hX : rr_X t df nn th fi on p mm tt ss) (hr : p.testBit (8 + t) = true) : ∃ uC' uM', sp_CN_stop F t uC = some (0, uC') ∧ sp_Md_stop F (nI t) uM = some (0, uM') ∧ rr_B uC' uM' df jo sp is os rg nn th vv dd fi gv on (mk_nd p (2 ^ (8 + t))) mm tt (wd_s ss (fi t) (fi t + nn t)) := by
  obtain ⟨hd, b1, b2, b3, b4, -⟩ := hX.2.1 t ht hr
  have h' := h
  obtain ⟨hS, hI, hT, hW, hWm, hD⟩ := h
  have hmm := hS.2.2.2.2.2.2.2.2.2
  obtain ⟨⟨f1, f2, -⟩, hT2⟩ := hT t ht
  obtain ⟨-, ⟨n1, -, -, n4⟩, -⟩ := hT2 hd
  obtain ⟨z, u1, g1, g2, g3, g4⟩ := wd_C (F := F) (a := fi t) (b := nn t) hmm b2 F (fi t) uC ss b1 (by omega) (by omega) (fun j q1 q2 => ⟨(hI j q1 q2).2.1.1, (hI j q1 q2).2.1.2.2⟩)
  obtain ⟨z', u2, k1, k2, k3, k4⟩ := wd_M (F := F) (t := t) (mm := mm) (tt := tt) hmm ht F (fi t) uM ss b1 (by omega) (by omega) hS.2.2.2.2.2.2.2.2.1 (fun j q1 q2 => ⟨(hI j q1 q2).1.2.1, (hI j q1 q2).1.2.2⟩) (fun j q1 q2 => ⟨(hI j q1 q2).2.1.2.1, (hI j q1 q2).2.1.2.2⟩)
  have hB : rr_B u1 u2 df jo sp is os rg nn th vv dd fi gv on p mm tt (wd_s ss (fi t) (fi t + nn t)) := rr_B_s h' _ g2 k2 g4 (fun j q1 q2 => by rw [k4 j q1 q2, wd_wm b3 b4 q2]) (fun j q1 q2 => by
    unfold wd_s
    split
    · omega
    · exact (hI j q1 q2).2.1.2.2)
  have hp' : mk_nd p (2 ^ (8 + t)) < 16384 := nd_lt14 hS.2.2.2.2.1
  refine ⟨_, _, ?_, ?_, rr_B_p hB hp'⟩
  · unfold sp_CN_stop sp_Work_withdrawOpen
    rw [f1, n1, g1, cl_some]
    simp only [nm_k]
    rw [hB.1.2.2.1, (hB.2.2.2.1 t ht).1, nx_nd]
  · unfold sp_Md_stop
    rw [if_pos (ib_nI ht (by omega)), nI_clamp (by omega), f2]
    simp only [nm_k]
    rw [k1]
    rw [hB.1.2.2.2.1, show (8 : Int32) + nI t = nI (8 + t) from by rw [show (8 : Int32) = nI 8 from rfl, nI_add], sh_one (by omega), nx_nd]
end STOP
