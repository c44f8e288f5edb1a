theorem nd_nd (m p c : Nat) : mk_nd (mk_nd m p) c = mk_nd m (c ||| p) := by
  apply Nat.eq_of_testBit_eq
  intro i
  rw [mk_ndb, mk_ndb, mk_ndb, Nat.testBit_or]
  cases m.testBit i <;> cases p.testBit i <;> cases c.testBit i <;> rfl
theorem nI_m1 {x : Nat} (h : x < 2 ^ 31) : ¬ nI x = -1 := fun e => by
  have := congrArg Int32.toInt e
  rw [nI_toInt h, show (-1 : Int32).toInt = -1 from by decide] at this
  omega
section RCH
variable {df : Nat → Bool} {cr nt : Nat → Nat} {tk : Nat → Nat → Nat} {np : Nat → Nat} {pt : Nat → Nat → Nat}
theorem rc_spE {F t m : Nat} {Dr : Nat → Bool} {u : St} {R O : Nat → Bool} (hF : 20 < F) (ht : t < 6) (hd : df t = true) (hm : m < 16384) (h : rc_I df cr nt tk np pt Dr u R O) : ∃ u' R' O', sp_Net_goOnByEnd F t (nI m) u = some (0, u') ∧ fr_n u u' ∧ u'.1 1 = u.1 1 ∧ rc_I df cr nt tk np pt Dr u' R' O' ∧ (∀ y, R y = true → R' y = true) ∧ (∀ j, j < np t → m &&& 2 ^ (8 + t) ≠ 0 → R' (mk_nd (mk_nd m (2 ^ (8 + t))) (cr t) ||| pt t j) = true) ∧ ∀ y, R' y = true → R y = true ∨ ∃ j, j < np t ∧ mv_end m (2 ^ (8 + t)) (cr t) (pt t j) y := by
  obtain ⟨e0, -, e2⟩ := h.1 t ht
  obtain ⟨⟨ecr, lcr⟩, -, enp, lnp, hpt⟩ := e2 hd
  have hle : m &&& 2 ^ (8 + t) ≤ m := Nat.and_le_left
  unfold sp_Net_goOnByEnd
  rw [e0, nx_and]
  by_cases hz : m &&& 2 ^ (8 + t) = 0
  · rw [if_pos ((nI_z (by omega)).mpr hz)]
    exact ⟨u, R, O, rfl, fr_n_rf u, rfl, h, fun _ h => h, fun j _ h => absurd hz h, fun _ h => Or.inl h⟩
  · rw [if_neg (fun e => hz ((nI_z (by omega)).mp e))]
    simp only [nm_k]
    rw [ecr, nx_or, nx_nd]
    obtain ⟨z, u', R', O', g1, g2, g3, g4, g5, g6, g7⟩ := rc_end (F := F) (Dr := Dr) (fun (v4_6 : Int32) (u7 : St) => (some ((0 : Int32), u7))) ht hd hm (nI m) F 0 u R O (by omega) (by omega) h
    refine ⟨u', R', O', g1, g2, g3, g4, g5, fun j hj _ => by rw [nd_nd]; exact g6 j (by omega) hj, fun y hy => ?_⟩
    rcases g7 y hy with h | ⟨j, hj, e⟩
    · exact Or.inl h
    · exact Or.inr ⟨j, hj, hz, by rw [nd_nd]; exact e⟩
theorem rc_t {F m : Nat} {Dr : Nat → Bool} (v1 : Int32) (k : Int32 → St → Option (Int32 × St)) (hF : 20 < F) (hm : m < 16384) : ∀ (n i : Nat) (u : St) (R O : Nat → Bool) (B : Nat), i ≤ 6 → 6 - i < n → B < 64 → u.1 1 4 = nI B → rc_I df cr nt tk np pt Dr u R O → ∃ z u' R' O' B', lp_Net_reachFromStart_69 F v1 (nI m) k n (nI i) u = k z u' ∧ fr_n u u' ∧ u'.1 1 5 = u.1 1 5 ∧ B' < 64 ∧ u'.1 1 4 = nI B' ∧ rc_I df cr nt tk np pt Dr u' R' O' ∧ (∀ y, R y = true → R' y = true) ∧ (∀ t, i ≤ t → t < 6 → df t = true → (∀ j, j < nt t → mk_sub (tk t j) m → R' (mk_nd m (tk t j) ||| 2 ^ (8 + t)) = true) ∧ ∀ j, j < np t → m &&& 2 ^ (8 + t) ≠ 0 → R' (mk_nd (mk_nd m (2 ^ (8 + t))) (cr t) ||| pt t j) = true) ∧ (∀ y, R' y = true → R y = true ∨ nw_st (-1) df cr nt tk np pt m y) ∧ ∀ s, (B'.testBit s = true ↔ B.testBit s = true ∨ (i ≤ s ∧ s < 6 ∧ df s = true ∧ ∃ j, j < nt s ∧ mk_sub (tk s j) m)) := by
  intro n
  induction n with
  | zero => intro i u R O B _ h; omega
  | succ n ih =>
    intro i u R O B hi hn hB hu4 h
    rw [lp_Net_reachFromStart_69]
    by_cases hc : i = 6
    · subst hc
      rw [if_pos (show (6 : Int32) ≤ nI 6 from by decide)]
      exact ⟨_, u, R, O, B, rfl, fr_n_rf u, rfl, hB, hu4, h, fun _ h => h, fun t h1 h2 => by omega, fun _ h => Or.inl h, fun s => ⟨Or.inl, fun h => h.elim id (fun ⟨h1, h2, _⟩ => by omega)⟩⟩
    · rw [if_neg (show ¬ (6 : Int32) ≤ nI i from nI_ge (b := 6) (by omega) (by omega)), if_pos (ib_nI (by omega) (by omega)), nI_clamp (by omega), nI_1]
      obtain ⟨e0, e1, e2⟩ := h.1 i (by omega)
      rw [e1]
      by_cases hd : df i = true
      · rw [if_pos hd, if_neg (by decide)]
        obtain ⟨⟨ecr, lcr⟩, ⟨ent, lnt, htk⟩, enp, lnp, hpt⟩ := e2 hd
        obtain ⟨z1, u1, R1, O1, B1, a1, a2, a3, a4, a5, a6, a7, a8, a9, a10⟩ := rc_beg (F := F) (Dr := Dr) (fun (v4_9 : Int32) (u10 : St) => (some ((0 : Int32), u10))) (show i < 6 by omega) hd hm F 0 u R O B (by omega) (by omega) hB hu4 h
        have s1 : sp_Net_goOnByBegin F (nI i) (nI m) u = some (0, u1) := by
          unfold sp_Net_goOnByBegin
          rw [if_pos (ib_nI (by omega) (by omega)), nI_clamp (by omega)]
          exact a1
        rw [s1, cl_some, if_pos (ib_nI (by omega) (by omega))]
        obtain ⟨u2, R2, O2, b1, b2, b3, b4, b5, b6, b7⟩ := rc_spE hF (show i < 6 by omega) hd hm a6
        rw [b1, cl_some]
        obtain ⟨z, u', R', O', B', g1, g2, g3, g4, g5, g6, g7, g8, g9, g10⟩ := ih (i + 1) u2 R2 O2 B1 (by omega) (by omega) a4 (by rw [b3]; exact a5) b4
        have hok : i < 6 ∧ df i = true ∧ ¬ nI i = -1 := ⟨by omega, hd, nI_m1 (by omega)⟩
        refine ⟨z, u', R', O', B', g1, fr_n_tr a2 (fr_n_tr b2 g2), by rw [g3, b3]; exact a3, g4, g5, g6, fun y hy => g7 y (b5 y (a7 y hy)), fun t h1 h2 h3 => ?_, fun y hy => ?_, fun s => ?_⟩
        · by_cases hj : t = i
          · subst hj
            exact ⟨fun j hj h => g7 _ (b5 _ (a8 j (by omega) hj h)), fun j hj h => g7 _ (b6 j hj h)⟩
          · exact g8 t (by omega) h2 h3
        · rcases g9 y hy with h | h
          · rcases b7 y h with h | ⟨j, hj, h⟩
            · rcases a9 y h with h | ⟨j, hj, h1, h2⟩
              · exact Or.inl h
              · exact Or.inr ⟨i, hok, Or.inl ⟨tk i j, ⟨j, hj, rfl⟩, h1, h2⟩⟩
            · exact Or.inr ⟨i, hok, Or.inr ⟨pt i j, ⟨j, hj, rfl⟩, h⟩⟩
          · exact Or.inr h
        · rw [g10 s, a10 s]
          constructor
          · rintro ((h | ⟨rfl, j, h1, h2, h3⟩) | ⟨h1, h2, h3, h4⟩)
            · exact Or.inl h
            · exact Or.inr ⟨Nat.le_refl _, by omega, hd, j, h2, h3⟩
            · exact Or.inr ⟨by omega, h2, h3, h4⟩
          · rintro (h | ⟨h1, h2, h3, j, h4, h5⟩)
            · exact Or.inl (Or.inl h)
            · by_cases hs : s = i
              · exact Or.inl (Or.inr ⟨hs, j, by omega, by rw [← hs]; exact h4, by rw [← hs]; exact h5⟩)
              · exact Or.inr ⟨by omega, h2, h3, j, h4, h5⟩
      · rw [if_neg hd, if_pos rfl]
        obtain ⟨z, u', R', O', B', g1, g2, g3, g4, g5, g6, g7, g8, g9, g10⟩ := ih (i + 1) u R O B (by omega) (by omega) hB hu4 h
        refine ⟨z, u', R', O', B', g1, g2, g3, g4, g5, g6, g7, fun t h1 h2 h3 => ?_, g9, fun s => ?_⟩
        · by_cases hj : t = i
          · subst hj; exact absurd h3 hd
          · exact g8 t (by omega) h2 h3
        · rw [g10 s]
          constructor
          · rintro (h | ⟨h1, h2, h3, h4⟩)
            · exact Or.inl h
            · exact Or.inr ⟨by omega, h2, h3, h4⟩
          · rintro (h | ⟨h1, h2, h3, h4⟩)
            · exact Or.inl h
            · refine Or.inr ⟨?_, h2, h3, h4⟩
              rcases Nat.lt_or_ge i s with h | h
              · exact h
              · exfalso
                have : s = i := by omega
                subst this
                exact hd h3
def rc_R (df : Nat → Bool) (cr nt : Nat → Nat) (tk : Nat → Nat → Nat) (np : Nat → Nat) (pt : Nat → Nat → Nat) (u : St) (o : Option (Int32 × St)) : Prop := ∃ u' R B E, o = some (0, u') ∧ fr_n u u' ∧ nw_ok u' df cr nt tk np pt ∧ ms_ok u' 5 R ∧ (∀ x, x < 16384 → (R x = true ↔ ∃ n, mv_rc (nw_st (-1) df cr nt tk np pt) n 1 x)) ∧ B < 64 ∧ u'.1 1 4 = nI B ∧ (∀ s, (B.testBit s = true ↔ s < 6 ∧ df s = true ∧ ∃ x, x < 16384 ∧ R x = true ∧ ∃ j, j < nt s ∧ mk_sub (tk s j) x)) ∧ u'.1 1 5 = (if E = true then 1 else 0) ∧ (E = true ↔ ∀ x, x < 16384 → R x = true → (x &&& 2 = 0 ∨ x = 2))
theorem rc_fin {Dr : Nat → Bool} {u0 u : St} {R O : Nat → Bool} {B : Nat} {E : Bool} (h : rc_I df cr nt tk np pt Dr u R O) (hO : ∀ x, x < 16384 → O x = false) (hfr : fr_n u0 u) (h1 : R 1 = true) (hre : ∀ x, x < 16384 → R x = true → ∃ n, mv_rc (nw_st (-1) df cr nt tk np pt) n 1 x) (hcl : ∀ x, x < 16384 → Dr x = true → ∀ y, nw_st (-1) df cr nt tk np pt x y → R y = true) (hB : B < 64) (h4 : u.1 1 4 = nI B) (hBs : ∀ s, (B.testBit s = true ↔ s < 6 ∧ df s = true ∧ ∃ x, x < 16384 ∧ Dr x = true ∧ ∃ j, j < nt s ∧ mk_sub (tk s j) x)) (h5 : u.1 1 5 = (if E = true then 1 else 0)) (hE : E = true ↔ ∀ x, x < 16384 → Dr x = true → (x &&& 2 = 0 ∨ x = 2)) : rc_R df cr nt tk np pt u0 (some (0, u)) := by
  have hRD : ∀ x, x < 16384 → (R x = true ↔ Dr x = true) := fun x hx => by
    rw [h.2.2.2.1 x hx, hO x hx]; simp
  refine ⟨u, R, B, E, rfl, hfr, h.1, h.2.1, fun x hx => ⟨hre x hx, fun ⟨n, hn⟩ => ?_⟩, hB, h4, fun s => ?_, h5, ?_⟩
  · exact (mv_on (C := fun y => y < 16384 ∧ R y = true) hn ⟨by omega, h1⟩ (fun m m' hs ⟨g1, g2⟩ => ⟨nw_st_lt h.1 hs g1, hcl m g1 ((hRD m g1).mp g2) m' hs⟩)).2
  · rw [hBs s]
    constructor
    · rintro ⟨a, b, x, c, d, e⟩; exact ⟨a, b, x, c, (hRD x c).mpr d, e⟩
    · rintro ⟨a, b, x, c, d, e⟩; exact ⟨a, b, x, c, (hRD x c).mp d, e⟩
  · rw [hE]
    exact ⟨fun g x hx hR => g x hx ((hRD x hx).mp hR), fun g x hx hR => g x hx ((hRD x hx).mpr hR)⟩
theorem rc_main {F : Nat} (u0 : St) (hF : 16500 < F) : ∀ (n l : Nat) (Dr : Nat → Bool) (u : St) (R O : Nat → Bool) (B : Nat) (E : Bool), l < n → l + mk_cn Dr 16384 = 16384 → fr_n u0 u → rc_I df cr nt tk np pt Dr u R O → R 1 = true → (∀ x, x < 16384 → R x = true → ∃ n, mv_rc (nw_st (-1) df cr nt tk np pt) n 1 x) → (∀ x, x < 16384 → Dr x = true → ∀ y, nw_st (-1) df cr nt tk np pt x y → R y = true) → B < 64 → u.1 1 4 = nI B → (∀ s, (B.testBit s = true ↔ s < 6 ∧ df s = true ∧ ∃ x, x < 16384 ∧ Dr x = true ∧ ∃ j, j < nt s ∧ mk_sub (tk s j) x)) → u.1 1 5 = (if E = true then 1 else 0) → (E = true ↔ ∀ x, x < 16384 → Dr x = true → (x &&& 2 = 0 ∨ x = 2)) →
    rc_R df cr nt tk np pt u0 (lp_Net_reachFromStart_33 F (fun (v1_32 : Int32) (u33 : St) => (some ((0 : Int32), u33))) n (nI l) u) := by
  intro n
  induction n with
  | zero => intro l Dr u R O B E h; omega
  | succ n ih =>
    intro l Dr u R O B E hn hcn hfr h h1 hre hcl hB h4 hBs h5 hE
    have hle := mk_cn_le Dr 16384
    rw [lp_Net_reachFromStart_33]
    by_cases hl : l = 0
    · subst hl
      rw [if_pos (show nI 0 ≤ 0 from by decide)]
      refine rc_fin h (fun x hx => ?_) hfr h1 hre hcl hB h4 hBs h5 hE
      cases ho : O x with
      | false => rfl
      | true =>
        exfalso
        have hD : Dr x = true := by
          cases hd : Dr x with
          | true => rfl
          | false => have := mk_cn_lt hd 16384 hx; omega
        exact h.2.2.2.2 x hx ho hD
    · rw [if_neg (nI_nle (by omega) (by omega))]
      rcases ms_draw h.2.2.1 (F := F) (by omega) with ⟨x, hx, hO, hmin, u1, a1, a2, a3⟩ | ⟨hno, u1, a1, a2, a3⟩
      · rw [a1, cl_some, if_neg (nI_m1 (by omega))]
        have hDx : Dr x = false := by
          cases hd : Dr x with
          | false => rfl
          | true => exact (h.2.2.2.2 x hx hO hd).elim
        have hRx : R x = true := (h.2.2.2.1 x hx).mpr (Or.inl hO)
        have h' : rc_I df cr nt tk np pt (fun y => Dr y || decide (y = x)) u1 R (fun y => O y && !decide (y = x)) := by
          refine ⟨nw_fr h.1 (fun k hk => a2.1 k (by omega)), ms_ok_eq h.2.1 (by rw [a2.1 5 (by omega)]) (a2.2.2 6 (by omega)), a3, fun y hy => ?_, fun y hy ho hd => ?_⟩
          · rw [h.2.2.2.1 y hy]
            by_cases e : y = x
            · subst e; simp [hO]
            · simp [e]
          · by_cases e : y = x
            · subst e; simp at ho
            · simp [e] at ho hd
              exact h.2.2.2.2 y hy ho hd
        have e4 : u1.1 1 4 = nI B := by rw [a2.1 1 (by omega)]; exact h4
        have e5 : u1.1 1 5 = (if E = true then 1 else 0) := by rw [a2.1 1 (by omega)]; exact h5
        obtain ⟨l', rfl⟩ : ∃ l', l = l' + 1 := ⟨l - 1, by omega⟩
        have hcn' : mk_cn (fun y => Dr y || decide (y = x)) 16384 = mk_cn Dr 16384 + 1 := mk_cn_add hDx (by simp) 16384 hx (fun i _ hi => by simp [hi])
        -- from the drawn mask on, with the flag as it then is
        have go : ∀ (u2 : St) (E2 : Bool), rc_I df cr nt tk np pt (fun y => Dr y || decide (y = x)) u2 R (fun y => O y && !decide (y = x)) → fr_n u0 u2 → u2.1 1 4 = nI B → u2.1 1 5 = (if E2 = true then 1 else 0) → (E2 = true ↔ ∀ y, y < 16384 → (Dr y || decide (y = x)) = true → (y &&& 2 = 0 ∨ y = 2)) → rc_R df cr nt tk np pt u0 (lp_Net_reachFromStart_69 F (nI (l' + 1)) (nI x) (fun (v3_25 : Int32) (u26 : St) => (lp_Net_reachFromStart_33 F (fun (v1_32 : Int32) (u33 : St) => (some ((0 : Int32), u33))) n (nI (l' + 1) + (-1 : Int32)) u26)) F (0 : Int32) u2) := by
          intro u2 E2 k1 k2 k3 k4 k5
          obtain ⟨z, u', R', O', B', g1, g2, g3, g4, g5, g6, g7, g8, g9, g10⟩ := rc_t (F := F) (nI (l' + 1)) (fun (v3_25 : Int32) (u26 : St) => (lp_Net_reachFromStart_33 F (fun (v1_32 : Int32) (u33 : St) => (some ((0 : Int32), u33))) n (nI (l' + 1) + (-1 : Int32)) u26)) (by omega) hx F 0 u2 R _ B (by omega) (by omega) hB k3 k1
          have g1 : lp_Net_reachFromStart_69 F (nI (l' + 1)) (nI x) _ F (0 : Int32) u2 = _ := g1
          rw [g1, pk_m1]
          refine ih l' (fun y => Dr y || decide (y = x)) u' R' O' B' E2 (by omega) (by omega) (fr_n_tr k2 g2) g6 (g7 1 h1) (fun y hy hR => ?_) (fun y hy hD w hs => ?_) g4 g5 (fun s => ?_) (by rw [g3]; exact k4) k5
          · rcases g9 y hR with h | h
            · exact hre y hy h
            · obtain ⟨k, hk⟩ := hre x hx hRx
              exact ⟨k + 1, mv_rc_app hk h⟩
          · by_cases e : y = x
            · subst e
              obtain ⟨t, ⟨t1, t2, t3⟩, ⟨a, ⟨j, hj, rfl⟩, b1, rfl⟩ | ⟨b, ⟨j, hj, rfl⟩, b1, rfl⟩⟩ := hs
              · exact (g8 t (by omega) t1 t2).1 j hj b1
              · exact (g8 t (by omega) t1 t2).2 j hj b1
            · simp [e] at hD
              exact g7 _ (hcl y hy hD w hs)
          · rw [g10 s, hBs s]
            constructor
            · rintro (⟨c1, c2, y, c3, c4, c5⟩ | ⟨_, c1, c2, c3⟩)
              · exact ⟨c1, c2, y, c3, by simp [c4], c5⟩
              · exact ⟨c1, c2, x, hx, by simp, c3⟩
            · rintro ⟨c1, c2, y, c3, c4, c5⟩
              by_cases e : y = x
              · subst e; exact Or.inr ⟨by omega, c1, c2, c5⟩
              · simp [e] at c4
                exact Or.inl ⟨c1, c2, y, c3, c4, c5⟩
        have hE2 : (x &&& 2 = 0 ∨ x = 2) → (E = true ↔ ∀ y, y < 16384 → (Dr y || decide (y = x)) = true → (y &&& 2 = 0 ∨ y = 2)) := fun hgood => by
          rw [hE]
          constructor
          · intro g y hy hD
            by_cases e : y = x
            · subst e; exact hgood
            · simp [e] at hD; exact g y hy hD
          · intro g y hy hD
            exact g y hy (by simp [hD])
        have hx2 : x &&& 2 ≤ x := Nat.and_le_left
        rw [show (nI x &&& (2 : Int32)) = nI (x &&& 2) from by rw [show (2 : Int32) = nI 2 from rfl, nx_and]]
        by_cases c1 : x &&& 2 = 0
        · rw [if_pos ((nI_z (by omega)).mpr c1)]
          exact go u1 E h' (fr_n_tr hfr (fr_n_3 a2)) e4 e5 (hE2 (Or.inl c1))
        · rw [if_neg (fun e => c1 ((nI_z (by omega)).mp e))]
          by_cases c2 : x = 2
          · rw [if_pos (show nI x = (2 : Int32) from by rw [c2]; rfl)]
            exact go u1 E h' (fr_n_tr hfr (fr_n_3 a2)) e4 e5 (hE2 (Or.inr c2))
          · rw [if_neg (show ¬ nI x = (2 : Int32) from fun e => c2 ((nI_eq (b := 2) (by omega) (by omega)).mp e))]
            simp only [nm_k]
            refine go (ly_pi u1 1 5 0) false (rc_1 h' 5 0) (fr_n_tr hfr (fr_n_tr (fr_n_3 a2) (fr_n_1 u1 5 0))) (by rw [pi_ne (Or.inr (by omega))]; exact e4) (by rw [pi_at]; rfl) ⟨(fun h => nomatch h), fun g => ?_⟩
            exact ((g x hx (by simp)).elim c1 c2).elim
      · rw [a1, cl_some, if_pos rfl]
        have h' : rc_I df cr nt tk np pt Dr u1 R O := ⟨nw_fr h.1 (fun k hk => a2.1 k (by omega)), ms_ok_eq h.2.1 (by rw [a2.1 5 (by omega)]) (a2.2.2 6 (by omega)), a3, h.2.2.2⟩
        exact rc_fin h' hno (fr_n_tr hfr (fr_n_3 a2)) h1 hre hcl hB (by rw [a2.1 1 (by omega)]; exact h4) hBs (by rw [a2.1 1 (by omega)]; exact h5) hE
end RCH
