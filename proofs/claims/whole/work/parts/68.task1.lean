/-! defining a task: the class's side -/
def bc_I (a : Int32) : Int32 := ((sp_Integer_bitCount a uM0).map (fun q => q.1)).getD 0
theorem bc_Ie (a : Int32) (u : St) : sp_Integer_bitCount a u = some (bc_I a, u) := rfl
theorem bc_pc : ∀ x, x < 256 → bc_I (nI x) = nI (pc_n x) := by decide +kernel
theorem pc_z : ∀ x, x < 256 → x ≠ 0 → 1 ≤ pc_n x := by decide +kernel
theorem us_8 {n : Nat} (hn : n < 2 ^ 32) : (((nI n).toUInt32 >>> ((8 : Int32).toUInt32 &&& Int32.toUInt32 31)).toInt32) = 0 ↔ n < 256 := by
  rw [pk_ushrN hn (8 : Int32) 8 (by decide)]
  constructor
  · intro h
    have hd : n / 2 ^ 8 < 2 ^ 31 := by omega
    have := (nI_z hd).mp h
    omega
  · intro h
    rw [show n / 2 ^ 8 = 0 by omega]; rfl
theorem oc_C (a : Int32) (u : St) : (∃ x, x < 256 ∧ go_n x = true ∧ a = nI x ∧ sp_CN_isOneToThreeConditions a u = some (1, u)) ∨ (sp_CN_isOneToThreeConditions a u = some (0, u) ∧ (a < 1 ∨ (255 : Int32) < a ∨ ∃ x, x < 256 ∧ a = nI x ∧ 3 < pc_n x)) := by
  obtain ⟨n, hn, rfl⟩ := wb_of32 a
  unfold sp_CN_isOneToThreeConditions
  by_cases h : n < 256
  · have hpc := pc_lt n
    rw [if_pos ((us_8 hn).mpr h), bc_Ie, cl_some, bc_pc n h, bw_ca, cl_some]
    by_cases h0 : n = 0
    · subst h0
      refine Or.inr ⟨?_, Or.inl (by decide)⟩
      rw [if_neg (show ¬ (¬ nI (pc_n 0) < (1 : Int32) ∧ ¬ (3 : Int32) < nI (pc_n 0)) from by decide), if_pos (show (0 : Int32) = 0 from rfl)]
    · have h1 := pc_z n h h0
      by_cases h3 : pc_n n ≤ 3
      · refine Or.inl ⟨n, h, ?_, rfl, ?_⟩
        · unfold go_n
          simp [h0, h3]
        · rw [if_pos (show (¬ nI (pc_n n) < (1 : Int32) ∧ ¬ (3 : Int32) < nI (pc_n n)) from ⟨nI_nlt (b := 1) h1 (by omega), nI_nlt (a := 3) h3 (by omega)⟩), if_neg (show ¬ (1 : Int32) = 0 from by decide)]
      · refine Or.inr ⟨?_, Or.inr (Or.inr ⟨n, h, rfl, by omega⟩)⟩
        rw [if_neg (show ¬ (¬ nI (pc_n n) < (1 : Int32) ∧ ¬ (3 : Int32) < nI (pc_n n)) from fun q => q.2 (nI_lt (a := 3) (by omega) (by omega))), if_pos (show (0 : Int32) = 0 from rfl)]
  · refine Or.inr ⟨by rw [if_neg (fun e => h ((us_8 hn).mp e))], ?_⟩
    by_cases hz : nI n < 0
    · refine Or.inl ?_
      rw [Int32.lt_iff_toInt_lt] at hz ⊢
      rw [show (0 : Int32).toInt = 0 from by decide] at hz
      rw [show (1 : Int32).toInt = 1 from by decide]
      omega
    · obtain ⟨j, hj, e⟩ := nI_of hz
      have : n = j := by
        have := congrArg (fun z : Int32 => z.toBitVec.toNat) e
        simp only [pk_tn hn, pk_tn (show j < 2 ^ 32 by omega)] at this
        exact this
      subst this
      exact Or.inr (Or.inl (nI_lt (a := 255) (by omega) hj))
theorem im_C {kind i x : Nat} (u : St) (hk : kind < 3) (hi : i < 256) (hx : x < 256) : sp_Task_isMoveOf (nI kind) (nI i) (nI x) u = some (if mf_n kind i x = true then 1 else 0, u) := by
  unfold sp_Task_isMoveOf mf_n
  by_cases k0 : kind = 0
  · subst k0
    rw [if_pos (show nI 0 = (0 : Int32) from rfl), if_pos (show 0 = 0 from rfl)]
    by_cases e : i = x
    · rw [if_pos (by rw [e]), if_pos (beq_iff_eq.mpr e)]
    · rw [if_neg (fun h => e ((nI_eq (by omega) (by omega)).mp h)), if_neg (fun h => e (beq_iff_eq.mp h))]
  · rw [if_neg (show ¬ nI kind = (0 : Int32) from fun e => k0 ((nI_z (by omega)).mp e)), if_neg k0]
    by_cases k1 : kind = 1
    · have hpc := pc_lt i
      rw [if_pos ((nI_o (by omega)).mpr k1), if_pos k1, bc_Ie, cl_some, bc_pc i hi]
      by_cases e : pc_n i = 1
      · rw [if_pos ((nI_o (by omega)).mpr e), if_pos (beq_iff_eq.mpr e)]
      · rw [if_neg (fun h => e ((nI_o (by omega)).mp h)), if_neg (fun h => e (beq_iff_eq.mp h))]
    · rw [if_neg (fun e => k1 ((nI_o (by omega)).mp e)), if_neg k1, if_pos rfl]
/-- a list by its first numbers -/
def pl_n (P : Nat → Bool) (i : Nat) : List Nat := (List.range i).filter P
theorem pl_s (P : Nat → Bool) (i : Nat) : pl_n P (i + 1) = pl_n P i ++ (if P i = true then [i] else []) := by
  unfold pl_n
  rw [List.range_succ, List.filter_append]
  by_cases h : P i = true
  · rw [if_pos h, List.filter_cons_of_pos h]; rfl
  · rw [if_neg h, List.filter_cons_of_neg h]; rfl
theorem pl_le (P : Nat → Bool) {i j : Nat} (h : i ≤ j) : (pl_n P i).length ≤ (pl_n P j).length := by
  unfold pl_n
  exact ((List.range_sublist.mpr h).filter P).length_le
theorem gd_app (l : List Nat) (a e : Nat) (he : e < l.length + 1) : (l ++ [a]).getD e 0 = if e = l.length then a else l.getD e 0 := by
  rw [List.getD_eq_getElem?_getD, List.getD_eq_getElem?_getD]
  by_cases h : e = l.length
  · subst h; rw [if_pos rfl, List.getElem?_append_right (Nat.le_refl _), Nat.sub_self]; rfl
  · rw [if_neg h, List.getElem?_append_left (by omega)]
theorem nd_0 {i x : Nat} : mk_nd i x = 0 ↔ i &&& x = i := by
  rw [Nat.and_comm, mk_sub_and]
  constructor
  · intro h j hj
    cases hx : x.testBit j with
    | true => rfl
    | false =>
      have := mk_ndb i x j
      rw [h, hj, hx, Nat.zero_testBit] at this
      cases this
  · intro h
    apply Nat.eq_of_testBit_eq
    intro j
    rw [mk_ndb, Nat.zero_testBit]
    cases hi : i.testBit j with
    | false => rfl
    | true => rw [h j hi]; rfl
theorem pf_e {kind x m : Nat} (hm : m ≠ 0) : pf_n kind x m = true ↔ (m &&& x = m ∧ mf_n kind m x = true) := by
  unfold pf_n
  rw [Bool.and_eq_true, Bool.and_eq_true, beq_iff_eq, bne_iff_ne]
  exact ⟨fun h => h.2, fun h => ⟨hm, h⟩⟩
section LISTS
variable {F t x : Nat}
theorem lt_C {j : Nat} (hx : x < 256) (hj : j < 3) (hl : (ls_n (if j = 0 then 0 else 1) x).length ≤ 3) : ∀ (n i : Nat) (u : St), 1 ≤ i → i ≤ x + 1 → x + 1 - i < n → u.1 (9 + 6 * t) 4 = nI x → u.1 (9 + 6 * t) 2 = nI j → u.1 (9 + 6 * t) 14 = nI (pl_n (pf_n (if j = 0 then 0 else 1) x) i).length → (∀ e, e < (pl_n (pf_n (if j = 0 then 0 else 1) x) i).length → u.1 (9 + 6 * t + 1) e = nI ((pl_n (pf_n (if j = 0 then 0 else 1) x) i).getD e 0)) → ∃ z u', (∀ k, lp_Task_listTakes_7 F t k n (nI i) u = k z u') ∧ (∀ q, q ≠ 9 + 6 * t → q ≠ 9 + 6 * t + 1 → u'.1 q = u.1 q) ∧ (∀ e, e ≠ 14 → u'.1 (9 + 6 * t) e = u.1 (9 + 6 * t) e) ∧ u'.1 (9 + 6 * t) 14 = nI (ls_n (if j = 0 then 0 else 1) x).length ∧ ∀ e, e < (ls_n (if j = 0 then 0 else 1) x).length → u'.1 (9 + 6 * t + 1) e = nI ((ls_n (if j = 0 then 0 else 1) x).getD e 0) := by
  intro n
  induction n with
  | zero => intro i u _ _ h; omega
  | succ n ih =>
    intro i u hi1 hi hn h4 h2 h14 ha
    by_cases hc : i = x + 1
    · subst hc
      refine ⟨nI (x + 1), u, fun k => ?_, fun _ _ _ => rfl, fun _ _ => rfl, h14, ha⟩
      rw [lp_Task_listTakes_7, h4, if_pos (nI_lt (by omega) (by omega))]
    · obtain ⟨kd, hkd⟩ : ∃ kd, kd = if j = 0 then 0 else 1 := ⟨_, rfl⟩
      have hkd3 : kd < 3 := by rw [hkd]; split <;> omega
      rw [← hkd] at h14 ha hl ih ⊢
      have hle := pl_le (pf_n kd x) (show i ≤ x + 1 by omega)
      have hlen : (pl_n (pf_n kd x) (x + 1)).length ≤ 3 := hl
      have hnd : mk_nd i x < 256 := mk_nd_lt (n := 8) (show i < 2 ^ 8 by omega)
      have head : ∀ k, lp_Task_listTakes_7 F t k (n + 1) (nI i) u = if pf_n kd x i = true then (if ib (nI (pl_n (pf_n kd x) i).length) 3 = true then lp_Task_listTakes_7 F t k n (nI (i + 1)) (ly_pi (ly_pi u (9 + 6 * t + 1) (pl_n (pf_n kd x) i).length (nI i)) (9 + 6 * t) 14 (nI ((pl_n (pf_n kd x) i).length + 1))) else none) else lp_Task_listTakes_7 F t k n (nI (i + 1)) u := fun k => by
        conv => lhs; rw [lp_Task_listTakes_7]
        rw [h4, if_neg (nI_nlt (by omega) (by omega)), nx_nd, h2, nI_1]
        simp only [nm_k]
        rw [show (0 : Int32) = nI 0 from rfl, show (1 : Int32) = nI 1 from rfl, im_C u (by omega) (by omega) hx, im_C u (by omega) (by omega) hx, cl_some, cl_some, h14, nI_clamp (show (pl_n (pf_n kd x) i).length < 2 ^ 31 by omega), pi_p (q := 9 + 6 * t + 1) (k := 9 + 6 * t) (by omega), h14, show nI (pl_n (pf_n kd x) i).length + nI 1 = nI ((pl_n (pf_n kd x) i).length + 1) from nI_1 _]
        by_cases hs : i &&& x = i
        · rw [if_pos (show nI (mk_nd i x) = nI 0 from by rw [nd_0.mpr hs])]
          have fin : ∀ kk, kk = kd → (if (if mf_n kk i x = true then nI 1 else nI 0) = nI 0 then lp_Task_listTakes_7 F t k n (nI (i + 1)) u else if ib (nI (pl_n (pf_n kd x) i).length) 3 = true then lp_Task_listTakes_7 F t k n (nI (i + 1)) (ly_pi (ly_pi u (9 + 6 * t + 1) (pl_n (pf_n kd x) i).length (nI i)) (9 + 6 * t) 14 (nI ((pl_n (pf_n kd x) i).length + 1))) else none) = if pf_n kd x i = true then (if ib (nI (pl_n (pf_n kd x) i).length) 3 = true then lp_Task_listTakes_7 F t k n (nI (i + 1)) (ly_pi (ly_pi u (9 + 6 * t + 1) (pl_n (pf_n kd x) i).length (nI i)) (9 + 6 * t) 14 (nI ((pl_n (pf_n kd x) i).length + 1))) else none) else lp_Task_listTakes_7 F t k n (nI (i + 1)) u := fun kk e => by
            subst e
            by_cases hm : mf_n kk i x = true
            · rw [if_pos hm, if_neg (show ¬ nI 1 = nI 0 from by decide), if_pos ((pf_e (by omega)).mpr ⟨hs, hm⟩)]
            · rw [if_neg hm, if_pos (show nI 0 = nI 0 from rfl), if_neg (fun h => hm ((pf_e (by omega)).mp h).2)]
          by_cases j0 : j = 0
          · rw [if_pos (show nI j = nI 0 from by rw [j0])]
            exact fin 0 (by rw [hkd, if_pos j0])
          · rw [if_neg (show ¬ nI j = nI 0 from fun e => j0 ((nI_eq (by omega) (by omega)).mp e))]
            exact fin 1 (by rw [hkd, if_neg j0])
        · rw [if_neg (show ¬ nI (mk_nd i x) = nI 0 from fun e => hs (nd_0.mp ((nI_eq (by omega) (by omega)).mp e))), if_neg (fun h => hs ((pf_e (by omega)).mp h).1)]
      by_cases hp : pf_n kd x i = true
      · have hps := pl_s (pf_n kd x) i
        rw [if_pos hp] at hps
        have hl1 : (pl_n (pf_n kd x) (i + 1)).length = (pl_n (pf_n kd x) i).length + 1 := by rw [hps, List.length_append]; rfl
        have hle1 := pl_le (pf_n kd x) (show i + 1 ≤ x + 1 by omega)
        obtain ⟨z, u', g1, g2, g3, g4, g5⟩ := ih (i + 1) (ly_pi (ly_pi u (9 + 6 * t + 1) (pl_n (pf_n kd x) i).length (nI i)) (9 + 6 * t) 14 (nI ((pl_n (pf_n kd x) i).length + 1))) (by omega) (by omega) (by omega) (by rw [pi_ne (Or.inr (by omega)), pi_p (by omega)]; exact h4) (by rw [pi_ne (Or.inr (by omega)), pi_p (by omega)]; exact h2) (by rw [pi_at, hl1]) (fun e he => by
          rw [pi_p (by omega), hps, gd_app _ _ _ (by omega)]
          by_cases ee : e = (pl_n (pf_n kd x) i).length
          · subst ee; rw [pi_at, if_pos rfl]
          · rw [pi_ne (Or.inr ee), if_neg ee]; exact ha e (by omega))
        refine ⟨z, u', fun k => by rw [head k, if_pos hp, if_pos (ib_nI (by omega) (by omega))]; exact g1 k, fun q h1 h2 => by rw [g2 q h1 h2, pi_p h1, pi_p h2], fun e he => by rw [g3 e he, pi_ne (Or.inr he), pi_p (by omega)], g4, g5⟩
      · have hps := pl_s (pf_n kd x) i
        rw [if_neg hp, List.append_nil] at hps
        obtain ⟨z, u', g1, g2, g3, g4, g5⟩ := ih (i + 1) u (by omega) (by omega) (by omega) h4 h2 (by rw [hps]; exact h14) (by rw [hps]; exact ha)
        exact ⟨z, u', fun k => by rw [head k, if_neg hp]; exact g1 k, g2, g3, g4, g5⟩
theorem lp_C {s : Nat} (hx : x < 256) (hs3 : s < 3) (hl : (ls_n s x).length ≤ 7) : ∀ (n i : Nat) (u : St), 1 ≤ i → i ≤ x + 1 → x + 1 - i < n → u.1 (9 + 6 * t) 5 = nI x → u.1 (9 + 6 * t) 3 = nI s → u.1 (9 + 6 * t) 15 = nI (pl_n (pf_n s x) i).length → (∀ e, e < (pl_n (pf_n s x) i).length → u.1 (9 + 6 * t + 2) e = nI ((pl_n (pf_n s x) i).getD e 0)) → ∃ z u', (∀ k, lp_Task_listPuts_7 F t k n (nI i) u = k z u') ∧ (∀ q, q ≠ 9 + 6 * t → q ≠ 9 + 6 * t + 2 → u'.1 q = u.1 q) ∧ (∀ e, e ≠ 15 → u'.1 (9 + 6 * t) e = u.1 (9 + 6 * t) e) ∧ u'.1 (9 + 6 * t) 15 = nI (ls_n s x).length ∧ ∀ e, e < (ls_n s x).length → u'.1 (9 + 6 * t + 2) e = nI ((ls_n s x).getD e 0) := by
  intro n
  induction n with
  | zero => intro i u _ _ h; omega
  | succ n ih =>
    intro i u hi1 hi hn h4 h2 h14 ha
    by_cases hc : i = x + 1
    · subst hc
      refine ⟨nI (x + 1), u, fun k => ?_, fun _ _ _ => rfl, fun _ _ => rfl, h14, ha⟩
      rw [lp_Task_listPuts_7, h4, if_pos (nI_lt (by omega) (by omega))]
    · have hle := pl_le (pf_n s x) (show i ≤ x + 1 by omega)
      have hlen : (pl_n (pf_n s x) (x + 1)).length ≤ 7 := hl
      have hnd : mk_nd i x < 256 := mk_nd_lt (n := 8) (show i < 2 ^ 8 by omega)
      have head : ∀ k, lp_Task_listPuts_7 F t k (n + 1) (nI i) u = if pf_n s x i = true then (if ib (nI (pl_n (pf_n s x) i).length) 7 = true then lp_Task_listPuts_7 F t k n (nI (i + 1)) (ly_pi (ly_pi u (9 + 6 * t + 2) (pl_n (pf_n s x) i).length (nI i)) (9 + 6 * t) 15 (nI ((pl_n (pf_n s x) i).length + 1))) else none) else lp_Task_listPuts_7 F t k n (nI (i + 1)) u := fun k => by
        conv => lhs; rw [lp_Task_listPuts_7]
        rw [h4, if_neg (nI_nlt (by omega) (by omega)), nx_nd, h2, nI_1]
        simp only [nm_k]
        rw [im_C u hs3 (by omega) hx, cl_some, h14, nI_clamp (show (pl_n (pf_n s x) i).length < 2 ^ 31 by omega), pi_p (q := 9 + 6 * t + 2) (k := 9 + 6 * t) (by omega), h14, nI_1]
        by_cases hs : i &&& x = i
        · rw [if_pos ((nI_z (by omega)).mpr (nd_0.mpr hs))]
          by_cases hm : mf_n s i x = true
          · rw [if_pos hm, if_neg (show ¬ (1 : Int32) = 0 from by decide), if_pos ((pf_e (by omega)).mpr ⟨hs, hm⟩)]
          · rw [if_neg hm, if_pos (show (0 : Int32) = 0 from rfl), if_neg (fun h => hm ((pf_e (by omega)).mp h).2)]
        · rw [if_neg (fun e => hs (nd_0.mp ((nI_z (by omega)).mp e))), if_neg (fun h => hs ((pf_e (by omega)).mp h).1)]
      by_cases hp : pf_n s x i = true
      · have hps := pl_s (pf_n s x) i
        rw [if_pos hp] at hps
        have hl1 : (pl_n (pf_n s x) (i + 1)).length = (pl_n (pf_n s x) i).length + 1 := by rw [hps, List.length_append]; rfl
        have hle1 := pl_le (pf_n s x) (show i + 1 ≤ x + 1 by omega)
        obtain ⟨z, u', g1, g2, g3, g4, g5⟩ := ih (i + 1) (ly_pi (ly_pi u (9 + 6 * t + 2) (pl_n (pf_n s x) i).length (nI i)) (9 + 6 * t) 15 (nI ((pl_n (pf_n s x) i).length + 1))) (by omega) (by omega) (by omega) (by rw [pi_ne (Or.inr (by omega)), pi_p (by omega)]; exact h4) (by rw [pi_ne (Or.inr (by omega)), pi_p (by omega)]; exact h2) (by rw [pi_at, hl1]) (fun e he => by
          rw [pi_p (by omega), hps, gd_app _ _ _ (by omega)]
          by_cases ee : e = (pl_n (pf_n s x) i).length
          · subst ee; rw [pi_at, if_pos rfl]
          · rw [pi_ne (Or.inr ee), if_neg ee]; exact ha e (by omega))
        refine ⟨z, u', fun k => by rw [head k, if_pos hp, if_pos (ib_nI (by omega) (by omega))]; exact g1 k, fun q h1 h2 => by rw [g2 q h1 h2, pi_p h1, pi_p h2], fun e he => by rw [g3 e he, pi_ne (Or.inr he), pi_p (by omega)], g4, g5⟩
      · have hps := pl_s (pf_n s x) i
        rw [if_neg hp, List.append_nil] at hps
        obtain ⟨z, u', g1, g2, g3, g4, g5⟩ := ih (i + 1) u (by omega) (by omega) (by omega) h4 h2 (by rw [hps]; exact h14) (by rw [hps]; exact ha)
        exact ⟨z, u', fun k => by rw [head k, if_neg hp]; exact g1 k, g2, g3, g4, g5⟩
end LISTS
