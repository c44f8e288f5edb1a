/-! the relation between the two states -/
def b_2 (b : Bool) : Int32 := if b = true then 1 else 0
/-- how many of n items from a on are completed -/
def ct_n (ss : Nat → Nat) (a : Nat) : Nat → Nat
  | 0 => 0
  | n + 1 => ct_n ss a n + (if ss (a + n) = 3 then 1 else 0)
def rr_S (uC uM : St) (on : Bool) (p mm : Nat) : Prop := uC.1 0 3 = b_2 on ∧ uM.1 0 15 = b_2 on ∧ uC.1 0 4 = nI p ∧ uM.1 0 16 = nI p ∧ p < 16384 ∧ uM.1 0 17 = uC.1 0 5 ∧ (∀ i, i < 4 → uM.1 16 i = uC.1 49 i) ∧ uC.1 45 3 = nI mm ∧ uM.1 0 19 = nI mm ∧ mm ≤ 60
def rr_I (uC uM : St) (mm : Nat) (tt ss : Nat → Nat) : Prop := ∀ i, 1 ≤ i → i ≤ mm → (uC.1 46 i = nI (tt i) ∧ uM.1 17 i = nI (tt i) ∧ tt i < 6) ∧ (uC.1 47 i = nI (ss i) ∧ uM.1 18 i = nI (ss i) ∧ 1 ≤ ss i ∧ ss i ≤ 5) ∧ uM.1 19 i = uC.1 48 i
def rr_T (uC uM : St) (df : Nat → Bool) (jo sp is os : Nat → Nat) (nn th vv dd fi : Nat → Nat) (gv : Nat → Nat → Nat) (mm : Nat) : Prop := ∀ t, t < 6 → (uC.1 (9 + 6 * t) 11 = nI (fi t) ∧ uM.1 20 t = nI (fi t) ∧ fi t ≤ mm) ∧ (df t = true → (uC.1 (9 + 6 * t) 2 = nI (jo t) ∧ uC.1 (9 + 6 * t) 3 = nI (sp t) ∧ uC.1 (9 + 6 * t) 4 = nI (is t) ∧ uC.1 (9 + 6 * t) 5 = nI (os t)) ∧ (uC.1 (9 + 6 * t) 7 = nI (nn t) ∧ uM.1 12 t = nI (nn t) ∧ 1 ≤ nn t ∧ nn t ≤ 4) ∧ (uC.1 (9 + 6 * t) 8 = nI (th t) ∧ uM.1 13 t = nI (th t) ∧ 1 ≤ th t ∧ th t ≤ nn t) ∧ (uC.1 (9 + 6 * t) 9 = nI (vv t) ∧ uM.1 14 t = nI (vv t) ∧ vv t < 4) ∧ (uC.1 (9 + 6 * t) 10 = nI (dd t) ∧ uM.1 15 t = nI (dd t) ∧ dd t ≤ 100) ∧ ∀ c, c < 8 → (uC.1 (9 + 6 * t + 3) c = nI (gv t c) ∧ uM.1 9 (8 * t + c) = nI (gv t c) ∧ gv t c < 4) ∧ uM.1 10 (8 * t + c) = uC.1 (9 + 6 * t + 4) c ∧ uM.1 11 (8 * t + c) = uC.1 (9 + 6 * t + 5) c)
def rr_V (df : Nat → Bool) (nn th fi : Nat → Nat) (on : Bool) (p mm : Nat) (tt ss : Nat → Nat) : Prop := (on = false → p = 0) ∧ (∀ t, t < 6 → p.testBit (8 + t) = true → df t = true ∧ 1 ≤ fi t ∧ fi t + nn t ≤ mm + 1 ∧ (∀ i, fi t ≤ i → i < fi t + nn t → tt i = t) ∧ (∀ i, fi t + nn t ≤ i → i ≤ mm → tt i ≠ t) ∧ ct_n ss (fi t) (nn t) < th t) ∧ ∀ i, 1 ≤ i → i ≤ mm → ss i ≤ 2 → p.testBit (8 + tt i) = true ∧ fi (tt i) ≤ i ∧ i < fi (tt i) + nn (tt i)
def rr_D (uC uM : St) (df : Nat → Bool) (jo sp is os rg nn th vv dd fi : Nat → Nat) (gv : Nat → Nat → Nat) (on : Bool) (p mm : Nat) (tt ss : Nat → Nat) : Prop := rr_S uC uM on p mm ∧ rr_I uC uM mm tt ss ∧ rr_T uC uM df jo sp is os nn th vv dd fi gv mm ∧ (cn_W df jo sp is os rg uC ∧ md_W df jo sp is os rg uM ∧ ds_ok df jo sp is os rg) ∧ rr_V df nn th fi on p mm tt ss
def RR (uC uM : St) : Prop := ∃ df jo sp is os rg nn th vv dd fi gv on p mm tt ss, rr_D uC uM df jo sp is os rg nn th vv dd fi gv on p mm tt ss
theorem rr_0 : RR uC0 uM0 := by
  refine ⟨fun _ => false, fun _ => 0, fun _ => 0, fun _ => 0, fun _ => 0, fun _ => 0, fun _ => 0, fun _ => 0, fun _ => 0, fun _ => 0, fun _ => 0, fun _ _ => 0, false, 0, 0, fun _ => 0, fun _ => 0, ⟨rfl, rfl, rfl, rfl, by omega, rfl, fun _ _ => rfl, rfl, rfl, by omega⟩, fun i h1 h2 => by omega, fun t ht => ⟨⟨?_, rfl, Nat.le_refl _⟩, (fun h => nomatch h)⟩, ⟨fun t ht => ⟨?_, ?_, (fun h => nomatch h)⟩, fun t ht => ⟨rfl, (fun h => nomatch h)⟩, (fun t ht h => nomatch h)⟩, fun _ => rfl, fun t ht h => ?_, fun i h1 h2 => by omega⟩
  · exact (match t, ht with | 0, _ => rfl | 1, _ => rfl | 2, _ => rfl | 3, _ => rfl | 4, _ => rfl | 5, _ => rfl)
  · exact (match t, ht with | 0, _ => by decide | 1, _ => by decide | 2, _ => by decide | 3, _ => by decide | 4, _ => by decide | 5, _ => by decide)
  · exact (match t, ht with | 0, _ => rfl | 1, _ => rfl | 2, _ => rfl | 3, _ => rfl | 4, _ => rfl | 5, _ => rfl)
  · rw [Nat.zero_testBit] at h; cases h
/-- what the searches write is no part of the relation -/
theorem rr_fr {uC uM uC' uM' : St} (h : RR uC uM) (hC : fr_n uC uC') (hM : fr_v uM uM') : RR uC' uM' := by
  obtain ⟨df, jo, sp, is, os, rg, nn, th, vv, dd, fi, gv, on, p, mm, tt, ss, hS, hI, hT, ⟨hW, hWm, hD⟩, hV⟩ := h
  have c9 : ∀ k, 9 ≤ k → uC'.1 k = uC.1 k := fun k hk => hC.1 k (by omega) (by omega) (by omega) (by omega)
  have c0 : uC'.1 0 = uC.1 0 := hC.1 0 (by omega) (by omega) (by omega) (by omega)
  have m0 : ∀ j, j ≠ 26 → uM'.1 0 j = uM.1 0 j := fun j hj => hM 0 j (by omega) (Or.inr hj)
  have m1 : ∀ k j, 0 < k → k < 22 → uM'.1 k j = uM.1 k j := fun k j h1 h2 => hM k j (by omega) (Or.inl (by omega))
  refine ⟨df, jo, sp, is, os, rg, nn, th, vv, dd, fi, gv, on, p, mm, tt, ss, ?_, ?_, ?_, ⟨nw_fr hW c9, ?_, hD⟩, hV⟩
  · unfold rr_S at hS ⊢
    rw [c0, c9 45 (by omega), c9 49 (by omega), m0 15 (by omega), m0 16 (by omega), m0 17 (by omega), m0 19 (by omega)]
    refine ⟨hS.1, hS.2.1, hS.2.2.1, hS.2.2.2.1, hS.2.2.2.2.1, hS.2.2.2.2.2.1, fun i hi => ?_, hS.2.2.2.2.2.2.2⟩
    rw [m1 16 i (by omega) (by omega)]
    exact hS.2.2.2.2.2.2.1 i hi
  · intro i h1 h2
    rw [c9 46 (by omega), c9 47 (by omega), c9 48 (by omega), m1 17 i (by omega) (by omega), m1 18 i (by omega) (by omega), m1 19 i (by omega) (by omega)]
    exact hI i h1 h2
  · intro t ht
    rw [c9 (9 + 6 * t) (by omega), c9 (9 + 6 * t + 3) (by omega), c9 (9 + 6 * t + 4) (by omega), c9 (9 + 6 * t + 5) (by omega), m1 20 t (by omega) (by omega), m1 12 t (by omega) (by omega), m1 13 t (by omega) (by omega), m1 14 t (by omega) (by omega), m1 15 t (by omega) (by omega)]
    obtain ⟨a, b⟩ := hT t ht
    refine ⟨a, fun hd => ?_⟩
    obtain ⟨b1, b2, b3, b4, b5, b6⟩ := b hd
    refine ⟨b1, b2, b3, b4, b5, fun c hc => ?_⟩
    rw [m1 9 _ (by omega) (by omega), m1 10 _ (by omega) (by omega), m1 11 _ (by omega) (by omega)]
    exact b6 c hc
  · intro t ht
    rw [m1 1 t (by omega) (by omega), m1 2 t (by omega) (by omega), m1 3 t (by omega) (by omega), m1 4 t (by omega) (by omega), m1 5 t (by omega) (by omega), m1 8 t (by omega) (by omega)]
    obtain ⟨a, b⟩ := hWm t ht
    refine ⟨a, fun hd => ?_⟩
    obtain ⟨w2, w3, w4, w5, w6, w7, w8⟩ := b hd
    exact ⟨w2, w3, w4, w5, fun k hk => by rw [m1 6 _ (by omega) (by omega)]; exact w6 k hk, fun k hk => by rw [m1 7 _ (by omega) (by omega)]; exact w7 k hk, w8⟩
theorem lt_nz {df : Nat → Bool} {jo sp is os rg : Nat → Nat} (hD : ds_ok df jo sp is os rg) : ∀ t, t < 6 → df t = true → ∀ j, j < (lt_n jo is t).length → (lt_n jo is t).getD j 0 ≠ 0 := fun t ht hd j hj => by
  obtain ⟨a, -, ⟨b, c⟩, -, -⟩ := hD t ht hd
  exact ((ft_use b c a).2.1 _ (gd_mem.mpr ⟨j, hj, rfl⟩)).1
theorem rs_verdict {F : Nat} (hF : 16500 < F) : RS_verdict RR F := by
  intro uC uM h
  have h' := h
  obtain ⟨df, jo, sp, is, os, rg, nn, th, vv, dd, fi, gv, on, p, mm, tt, ss, hS, hI, hT, ⟨hW, hWm, hD⟩, hV⟩ := h
  obtain ⟨r, uC', c1, c2, c3⟩ := jd_C (F := F) (jo := jo) hF hW (fun t ht hd => ⟨((hT t ht).2 hd).1.1, (hD t ht hd).1⟩) (lt_nz hD)
  obtain ⟨r', uM', m1, m2, m3⟩ := jd_M (F := F) hF hD hWm
  have e := vd_one c3 m3
  subst e
  refine ⟨r, uC', uM', ?_, m1, rr_fr h' c2 m2⟩
  unfold sp_CN_verdict
  rw [c1, cl_some]
