section RCH
variable {df : Nat → Bool} {cr nt : Nat → Nat} {tk : Nat → Nat → Nat} {np : Nat → Nat} {pt : Nat → Nat → Nat}
theorem mk_cn_f : mk_cn (fun _ => false) 16384 = 0 := by
  have : ∀ n, mk_cn (fun _ => false) n = 0 := fun n => by
    induction n with
    | zero => rfl
    | succ n ih => unfold mk_cn; rw [ih]; rfl
  exact this _
theorem rc_reach {F : Nat} {u : St} (hF : 16500 < F) (hN : nw_ok u df cr nt tk np pt) : rc_R df cr nt tk np pt u (sp_Net_reachFromStart F u) := by
  obtain ⟨u1, a1, a2, a3⟩ := ms_clear (F := F) (q := 5) u (by omega)
  obtain ⟨u2, b1, b2, b3⟩ := ms_clear (F := F) (q := 3) u1 (by omega)
  have hfr2 : fr_n u u2 := fr_n_tr (fr_n_5 a2) (fr_n_3 b2)
  have h0 : rc_I df cr nt tk np pt (fun _ => false) u2 (fun _ => false) (fun _ => false) := ⟨nw_fr hN (fun k hk => hfr2.1 k (by omega) (by omega) (by omega) (by omega)), ms_ok_eq a3 (by rw [b2.1 5 (by omega)]) (b2.2.2 6 (by omega)), b3, fun x hx => ⟨Or.inl, fun h => h.elim id id⟩, (fun x _ h => nomatch h)⟩
  unfold sp_Net_reachFromStart
  rw [a1, cl_some, b1, cl_some]
  simp only [nm_k]
  obtain ⟨u3, R3, O3, c1, c2, c3, c4, c5, c6, c7⟩ := rc_add (rc_1 (rc_1 h0 4 0) 5 1) (show 1 < 16384 by omega)
  have c1 : sp_Net_addReached (1 : Int32) (ly_pi (ly_pi u2 1 4 0) 1 5 1) = some (0, u3) := c1
  rw [c1, cl_some]
  refine rc_main u hF F 16384 (fun _ => false) u3 R3 O3 0 true (by omega) (by rw [mk_cn_f]) (fr_n_tr hfr2 (fr_n_tr (fr_n_1 u2 4 0) (fr_n_tr (fr_n_1 _ 5 1) c2))) c4 c6 (fun x hx hR => ?_) (fun x _ h => nomatch h) (by omega) ?_ (fun s => ?_) ?_ ⟨(fun _ x _ h => nomatch h), fun _ => rfl⟩
  · rcases c7 x hR with h | h
    · cases h
    · subst h; exact ⟨0, rfl⟩
  · rw [c3, pi_ne (Or.inr (by omega)), pi_at]; rfl
  · rw [Nat.zero_testBit]
    exact ⟨(fun h => nomatch h), fun ⟨_, _, x, _, h, _⟩ => nomatch h⟩
  · rw [c3, pi_at]; rfl
theorem dt_loop {F : Nat} (u : St) (hN : nw_ok u df cr nt tk np pt) (k : Int32 → Int32 → St → Option (Int32 × St)) : ∀ (n i D : Nat), i ≤ 6 → 6 - i < n → D < 64 → (∀ s, (D.testBit s = true ↔ s < i ∧ df s = true)) → ∃ D' z, lp_Net_definedTasks_4 F k n (nI D) (nI i) u = k (nI D') z u ∧ D' < 64 ∧ ∀ s, (D'.testBit s = true ↔ s < 6 ∧ df s = true) := by
  intro n
  induction n with
  | zero => intro i D _ h; omega
  | succ n ih =>
    intro i D hi hn hD hs
    rw [lp_Net_definedTasks_4]
    by_cases hc : i = 6
    · subst hc
      rw [if_pos (show (6 : Int32) ≤ nI 6 from by decide)]
      exact ⟨D, _, rfl, hD, hs⟩
    · rw [if_neg (show ¬ (6 : Int32) ≤ nI i from nI_ge (b := 6) (by omega) (by omega)), if_pos (ib_nI (by omega) (by omega)), nI_clamp (by omega), (hN i (by omega)).2.1]
      simp only [nm_k]
      rw [nI_1]
      by_cases hd : df i = true
      · rw [if_pos hd, if_neg (by decide), sh_one (by omega), nx_or]
        refine ih (i + 1) _ (by omega) (by omega) (Nat.or_lt_two_pow (n := 6) hD (Nat.pow_lt_pow_right (by omega) (by omega))) (fun s => ?_)
        rw [Nat.testBit_or, Bool.or_eq_true, hs s, Nat.testBit_two_pow, decide_eq_true_eq]
        constructor
        · rintro (⟨h1, h2⟩ | rfl)
          · exact ⟨by omega, h2⟩
          · exact ⟨by omega, hd⟩
        · rintro ⟨h1, h2⟩
          by_cases e : i = s
          · exact Or.inr e
          · exact Or.inl ⟨by omega, h2⟩
      · rw [if_neg hd, if_pos rfl, show (0 : Int32) = nI 0 from rfl, nx_or, Nat.or_zero]
        refine ih (i + 1) D (by omega) (by omega) hD (fun s => ?_)
        rw [hs s]
        constructor
        · rintro ⟨h1, h2⟩; exact ⟨by omega, h2⟩
        · rintro ⟨h1, h2⟩
          refine ⟨?_, h2⟩
          rcases Nat.lt_or_ge s i with h | h
          · exact h
          · exfalso
            have : s = i := by omega
            subst this
            exact hd h2
theorem dt_all {F : Nat} {u : St} (hF : 20 < F) (hN : nw_ok u df cr nt tk np pt) : ∃ D, sp_Net_definedTasks F u = some (nI D, u) ∧ D < 64 ∧ ∀ s, (D.testBit s = true ↔ s < 6 ∧ df s = true) := by
  obtain ⟨D, z, h1, h2, h3⟩ := dt_loop (F := F) u hN (fun (v1_5 : Int32) (v2_6 : Int32) (u7 : St) => (some (v1_5, u7))) F 0 0 (by omega) (by omega) (by omega) (fun s => by rw [Nat.zero_testBit]; exact ⟨(fun h => nomatch h), fun h => absurd h.1 (by omega)⟩)
  exact ⟨D, h1, h2, h3⟩
theorem js_loop {F : Nat} {jo : Nat → Nat} (u : St) (hN : nw_ok u df cr nt tk np pt) (hj : ∀ t, t < 6 → df t = true → u.1 (9 + 6 * t) 2 = nI (jo t) ∧ jo t < 3) : ∀ (n i : Nat), i ≤ 6 → 6 - i < n → (∀ t, t < i → ¬ (df t = true ∧ jo t = 2)) → ∃ r, lp_Net_hasJoinSome_2 F (fun (v1_9 : Int32) (u10 : St) => (some ((0 : Int32), u10))) n (nI i) u = some (r, u) ∧ ((r = 1 ∧ ∃ t, t < 6 ∧ df t = true ∧ jo t = 2) ∨ (r = 0 ∧ ∀ t, t < 6 → ¬ (df t = true ∧ jo t = 2))) := by
  intro n
  induction n with
  | zero => intro i _ h; omega
  | succ n ih =>
    intro i hi hn hno
    rw [lp_Net_hasJoinSome_2]
    by_cases hc : i = 6
    · subst hc
      rw [if_pos (show (6 : Int32) ≤ nI 6 from by decide)]
      exact ⟨0, rfl, Or.inr ⟨rfl, hno⟩⟩
    · rw [if_neg (show ¬ (6 : Int32) ≤ nI i from nI_ge (b := 6) (by omega) (by omega)), if_pos (ib_nI (by omega) (by omega)), nI_clamp (by omega), (hN i (by omega)).2.1, nI_1]
      by_cases hd : df i = true
      · rw [if_pos hd, if_neg (by decide), if_pos (ib_nI (by omega) (by omega)), (hj i (by omega) hd).1]
        have hl := (hj i (by omega) hd).2
        by_cases h2 : jo i = 2
        · rw [if_pos (by rw [h2]; rfl)]
          exact ⟨1, rfl, Or.inl ⟨rfl, i, by omega, hd, h2⟩⟩
        · rw [if_neg (show ¬ nI (jo i) = (2 : Int32) from fun e => h2 ((nI_eq (b := 2) (by omega) (by omega)).mp e))]
          refine ih (i + 1) (by omega) (by omega) (fun t ht => ?_)
          by_cases e : t = i
          · subst e; exact fun h => h2 h.2
          · exact hno t (by omega)
      · rw [if_neg hd, if_pos rfl]
        refine ih (i + 1) (by omega) (by omega) (fun t ht => ?_)
        by_cases e : t = i
        · subst e; exact fun h => hd h.1
        · exact hno t (by omega)
theorem js_all {F : Nat} {jo : Nat → Nat} {u : St} (hF : 20 < F) (hN : nw_ok u df cr nt tk np pt) (hj : ∀ t, t < 6 → df t = true → u.1 (9 + 6 * t) 2 = nI (jo t) ∧ jo t < 3) : ∃ r, sp_Net_hasJoinSome F u = some (r, u) ∧ ((r = 1 ∧ ∃ t, t < 6 ∧ df t = true ∧ jo t = 2) ∨ (r = 0 ∧ ∀ t, t < 6 → ¬ (df t = true ∧ jo t = 2))) := js_loop u hN hj F 0 (by omega) (by omega) (fun t ht => by omega)
theorem mk_sub_0 {a : Nat} (h : mk_sub a 0) : a = 0 := by
  apply Nat.eq_of_testBit_eq
  intro i
  rw [Nat.zero_testBit]
  cases ha : a.testBit i with
  | false => rfl
  | true => have := h i ha; rw [Nat.zero_testBit] at this; cases this
theorem no_0 {wo : Int32} (hz : ∀ t, t < 6 → df t = true → ∀ j, j < nt t → tk t j ≠ 0) : ¬ mv_cov (nw_st wo df cr nt tk np pt) 0 2 := by
  rintro ⟨n, m', hr, hs⟩
  cases n with
  | zero =>
    cases hr
    have := mk_sub_0 hs
    omega
  | succ n =>
    obtain ⟨c, ⟨t, ⟨h1, h2, _⟩, ⟨a, ⟨j, hj, rfl⟩, h3, _⟩ | ⟨b, _, h3, _⟩⟩, _⟩ := hr
    · exact hz t h1 h2 j hj (mk_sub_0 h3)
    · exact h3 (Nat.zero_and _)
/-- the verdict's number -/
def vd_n (w e b : Bool) : Int32 := (((if w = true then 1 else 0) ||| (if e = true then 2 else 0)) ||| (if b = true then 4 else 0))
def vd_R (df : Nat → Bool) (cr nt : Nat → Nat) (tk : Nat → Nat → Nat) (np : Nat → Nat) (pt : Nat → Nat → Nat) (jo : Nat → Nat) (r : Int32) : Prop := (r = -1 ∧ ((∀ t, t < 6 → ¬ df t = true) ∨ ∃ t, t < 6 ∧ df t = true ∧ jo t = 2)) ∨ ((¬ ((∀ t, t < 6 → ¬ df t = true) ∨ ∃ t, t < 6 ∧ df t = true ∧ jo t = 2)) ∧ ∃ w e b, r = vd_n w e b ∧ (w = true ↔ ∀ x, x < 16384 → (∃ n, mv_rc (nw_st (-1) df cr nt tk np pt) n 1 x) → mv_cov (nw_st (-1) df cr nt tk np pt) x 2) ∧ (e = true ↔ ∀ x, x < 16384 → (∃ n, mv_rc (nw_st (-1) df cr nt tk np pt) n 1 x) → (x &&& 2 = 0 ∨ x = 2)) ∧ (b = true ↔ ∀ s, s < 6 → df s = true → ∃ x, x < 16384 ∧ (∃ n, mv_rc (nw_st (-1) df cr nt tk np pt) n 1 x) ∧ ∃ j, j < nt s ∧ mk_sub (tk s j) x))
theorem jd_C {F : Nat} {jo : Nat → Nat} {u : St} (hF : 16500 < F) (hN : nw_ok u df cr nt tk np pt) (hj : ∀ t, t < 6 → df t = true → u.1 (9 + 6 * t) 2 = nI (jo t) ∧ jo t < 3) (hz : ∀ t, t < 6 → df t = true → ∀ j, j < nt t → tk t j ≠ 0) : ∃ r u', sp_Net_judge F u = some (r, u') ∧ fr_n u u' ∧ vd_R df cr nt tk np pt jo r := by
  obtain ⟨D, d1, d2, d3⟩ := dt_all (F := F) (by omega) hN
  obtain ⟨r4, s1, s2⟩ := js_all (F := F) (by omega) hN hj
  unfold sp_Net_judge
  rw [d1, cl_some]
  by_cases hD : D = 0
  · rw [if_pos ((nI_z (by omega)).mpr hD)]
    refine ⟨-1, u, rfl, fr_n_rf u, Or.inl ⟨rfl, Or.inl (fun t ht hd => ?_)⟩⟩
    have := (d3 t).mpr ⟨ht, hd⟩
    rw [hD, Nat.zero_testBit] at this
    cases this
  · rw [if_neg (fun e => hD ((nI_z (by omega)).mp e)), s1, cl_some]
    rcases s2 with ⟨e4, h4⟩ | ⟨e4, h4⟩
    · rw [e4, if_neg (by decide)]
      exact ⟨-1, u, rfl, fr_n_rf u, Or.inl ⟨rfl, Or.inr h4⟩⟩
    · rw [e4, if_pos rfl]
      obtain ⟨u8, R, B, E, a1, a2, a3, a4, a5, a6, a7, a8, a9, a10⟩ := rc_reach (F := F) hF hN
      rw [a1, cl_some]
      obtain ⟨r10, u11, c1, c2, c3⟩ := cv_find (F := F) (wo := -1) (target := 2) (sought := 0) a3 (by omega) (by omega) hF
      have c1 : sp_Net_findCovering F (2 : Int32) (0 : Int32) (-1 : Int32) u8 = some (r10, u11) := c1
      rw [c1, cl_some]
      rcases c3 with ⟨_, bad⟩ | ⟨_, _, C, c4, c5⟩
      · exact absurd bad (no_0 hz)
      · have r5 : ms_ok u11 5 R := ms_ok_eq a4 (by rw [c2.1 5 (by omega) (by omega)]) (c2.2 6 (by omega) (by omega))
        obtain ⟨r13, w1, w2⟩ := ms_within (F := F) r5 c4 (by omega)
        rw [w1, cl_some]
        have hN11 : nw_ok u11 df cr nt tk np pt := nw_fr a3 (fun k hk => c2.1 k (by omega) (by omega))
        obtain ⟨D', d1', d2', d3'⟩ := dt_all (F := F) (by omega) hN11
        have eD : D' = D := Nat.eq_of_testBit_eq (fun i => by
          have h1 := d3 i
          have h2 := d3' i
          cases hx : D.testBit i <;> cases hy : D'.testBit i
          · rfl
          · rw [hx] at h1; rw [hy] at h2; exact absurd (h1.mpr (h2.mp rfl)) (by decide)
          · rw [hx] at h1; rw [hy] at h2; exact absurd (h2.mpr (h1.mp rfl)) (by decide)
          · rfl)
        subst eD
        have e4 : u11.1 1 4 = nI B := by rw [c2.1 1 (by omega) (by omega)]; exact a7
        have e5 : u11.1 1 5 = (if E = true then 1 else 0) := by rw [c2.1 1 (by omega) (by omega)]; exact a9
        rw [e4, e5]
        simp only [nm_k, d1', cl_some]
        have hneg : ¬ ((∀ t, t < 6 → ¬ df t = true) ∨ ∃ t, t < 6 ∧ df t = true ∧ jo t = 2) := by
          rintro (h | ⟨t, h1, h2, h3⟩)
          · refine hD (Nat.eq_of_testBit_eq (fun i => ?_))
            rw [Nat.zero_testBit]
            cases hx : D'.testBit i with
            | false => rfl
            | true => have := (d3 i).mp hx; exact absurd this.2 (h i this.1)
          · exact h4 t h1 ⟨h2, h3⟩
        have hw : ∃ w : Bool, r13 = (if w = true then 1 else 0) ∧ (w = true ↔ ∀ x, x < 16384 → (∃ n, mv_rc (nw_st (-1) df cr nt tk np pt) n 1 x) → mv_cov (nw_st (-1) df cr nt tk np pt) x 2) := by
          rcases w2 with ⟨e, h⟩ | ⟨e, x, h1, h2, h3⟩
          · exact ⟨true, e, fun _ x hx hr => (c5 x hx).mp (h x hx ((a5 x hx).mpr hr)), fun _ => rfl⟩
          · refine ⟨false, e, (fun h => nomatch h), fun h => ?_⟩
            have := (c5 x h1).mpr (h x h1 ((a5 x h1).mp h2))
            rw [h3] at this; exact this
        obtain ⟨w, ew, hw⟩ := hw
        have hb : ∃ b : Bool, (b = true ↔ B = D') ∧ (b = true ↔ ∀ s, s < 6 → df s = true → ∃ x, x < 16384 ∧ (∃ n, mv_rc (nw_st (-1) df cr nt tk np pt) n 1 x) ∧ ∃ j, j < nt s ∧ mk_sub (tk s j) x) := by
          refine ⟨decide (B = D'), decide_eq_true_iff, ?_⟩
          rw [decide_eq_true_iff]
          constructor
          · rintro rfl s hs hd
            obtain ⟨_, _, x, hx, hR, hj⟩ := (a8 s).mp ((d3 s).mpr ⟨hs, hd⟩)
            exact ⟨x, hx, (a5 x hx).mp hR, hj⟩
          · intro h
            apply Nat.eq_of_testBit_eq
            intro i
            have h1 := a8 i
            have h2 := d3 i
            cases hx : B.testBit i <;> cases hy : D'.testBit i
            · rfl
            · exfalso
              rw [hx] at h1
              obtain ⟨q1, q2⟩ := h2.mp hy
              obtain ⟨x, g1, g2, g3⟩ := h i q1 q2
              exact absurd (h1.mpr ⟨q1, q2, x, g1, (a5 x g1).mpr g2, g3⟩) (by decide)
            · exfalso
              rw [hy] at h2
              obtain ⟨q1, q2, _⟩ := h1.mp hx
              exact absurd (h2.mpr ⟨q1, q2⟩) (by decide)
            · rfl
        obtain ⟨b, eb, hb⟩ := hb
        have hE2 : E = true ↔ ∀ x, x < 16384 → (∃ n, mv_rc (nw_st (-1) df cr nt tk np pt) n 1 x) → (x &&& 2 = 0 ∨ x = 2) := by
          rw [a10]
          exact ⟨fun h x hx hr => h x hx ((a5 x hx).mpr hr), fun h x hx hR => h x hx ((a5 x hx).mp hR)⟩
        have hBD : (nI B = nI D') ↔ b = true := by rw [eb]; exact nI_eq (by omega) (by omega)
        refine ⟨vd_n w E b, u11, ?_, fr_n_tr a2 (fr_n_s c2), Or.inr ⟨hneg, w, E, b, rfl, hw, hE2, hb⟩⟩
        subst ew
        by_cases hBb : nI B = nI D'
        · have hbt := hBD.mp hBb
          subst hbt
          simp only [hBb, if_true]
          cases w <;> cases E <;> rfl
        · have hbf : b = false := Bool.eq_false_iff.mpr (fun h => hBb (hBD.mpr h))
          subst hbf
          simp only [hBb, if_false]
          cases w <;> cases E <;> rfl
end RCH
