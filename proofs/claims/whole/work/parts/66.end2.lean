theorem nd_255 {p q : Nat} (hp : p < 16384) (h : ∀ t, t < 6 → q.testBit (8 + t) = true → p.testBit (8 + t) = false) : mk_nd p (q &&& 255) = mk_nd p q := by
  apply Nat.eq_of_testBit_eq
  intro i
  rw [mk_ndb, mk_ndb, Nat.testBit_and, show (255 : Nat) = 2 ^ 8 - 1 from rfl, Nat.testBit_two_pow_sub_one]
  by_cases h8 : i < 8
  · rw [decide_eq_true h8, Bool.and_true]
  · by_cases h14 : i < 14
    · obtain ⟨t, rfl⟩ : ∃ t, i = 8 + t := ⟨i - 8, by omega⟩
      cases hq : q.testBit (8 + t) with
      | false => rw [Bool.false_and]
      | true => rw [h t (by omega) hq, Bool.false_and, Bool.false_and]
    · rw [Nat.testBit_lt_two_pow (Nat.lt_of_lt_of_le hp (Nat.pow_le_pow_right (n := 2) (i := 14) (by omega) (by omega))), Bool.false_and, Bool.false_and]
section END
variable {df : Nat → Bool} {jo sp is os rg nn th vv dd fi : Nat → Nat} {gv : Nat → Nat → Nat} {on : Bool} {p mm : Nat} {tt ss : Nat → Nat} {F : Nat} {uC uM : St}
theorem rr_V_p (h : rr_V df nn th fi on p mm tt ss) {p' : Nat} (ht : ∀ i, 1 ≤ i → i ≤ mm → tt i < 6) (h0 : on = false → p' = 0) (hb : ∀ s, s < 6 → p'.testBit (8 + s) = p.testBit (8 + s)) : rr_V df nn th fi on p' mm tt ss :=
  ⟨h0, fun s hs hr => h.2.1 s hs (by rw [← hb s hs]; exact hr), fun i h1 h2 h3 => by rw [hb _ (ht i h1 h2)]; exact h.2.2 i h1 h2 h3⟩
/-- what is put, out of the task's numbers and its guards -/
def ot_n (s x gs : Nat) : Nat := if s = 0 then x else if gs = 0 then hb_n x 8 else if s = 1 then lw_n gs else gs
theorem en_C {g : Nat → Bool} {t x s : Nat} (hF : 100 < F) (hx : x < 256) (hs : s < 3) (h3 : uC.1 (9 + 6 * t) 3 = nI s) (h5 : uC.1 (9 + 6 * t) 5 = nI x) (hg : ∀ c, c < 8 → sp_Task_guardHolds t (nI c) uC = some (if g c = true then 1 else 0, uC)) : sp_Task_chosenOutputs F t uC = some (nI (ot_n s x (gs_n x g 8)), uC) := by
  have hgs : gs_n x g 8 < 256 := gs_lt x g 8
  unfold sp_Task_chosenOutputs
  have hl := co_C (F := F) hx h5 hg (fun (v2_7 : Int32) (v3_8 : Int32) (v4_9 : Int32) (u10 : St) => (if v2_7 = 0 then (some (v3_8, u10)) else (if (u10.1 (9 + 6 * t) 3) = (1 : Int32) then (some ((v2_7 &&& (-v2_7)), u10)) else (some (v2_7, u10))))) F 0 (by omega) (by omega)
  have hl : lp_Task_chosenOutputs_19 F t (fun (v2_7 : Int32) (v3_8 : Int32) (v4_9 : Int32) (u10 : St) => (if v2_7 = 0 then (some (v3_8, u10)) else (if (u10.1 (9 + 6 * t) 3) = (1 : Int32) then (some ((v2_7 &&& (-v2_7)), u10)) else (some (v2_7, u10))))) F (0 : Int32) (0 : Int32) (0 : Int32) uC = _ := hl
  rw [hl, h3, h5]
  unfold ot_n
  by_cases s0 : s = 0
  · rw [if_pos ((nI_z (by omega)).mpr s0), if_pos s0]
  · rw [if_neg (fun e => s0 ((nI_z (by omega)).mp e)), if_neg s0]
    by_cases g0 : gs_n x g 8 = 0
    · rw [if_pos ((nI_z (by omega)).mpr g0), if_pos g0]
    · rw [if_neg (fun e => g0 ((nI_z (by omega)).mp e)), if_neg g0]
      by_cases s1 : s = 1
      · rw [if_pos ((nI_o (by omega)).mpr s1), if_pos s1, (lw_all _ hgs).1]
      · rw [if_neg (fun e => s1 ((nI_o (by omega)).mp e)), if_neg s1]
theorem ot_lt {s x : Nat} {g : Nat → Bool} (hx : x < 256) (hg : go_n x = true) : ot_n s x (gs_n x g 8) < 256 := by
  have hgs : gs_n x g 8 < 256 := gs_lt x g 8
  unfold ot_n
  split
  · exact hx
  · split
    · exact (hb_lb x hx hg).2
    · split
      · exact (lw_all _ hgs).2
      · exact hgs
theorem end_same (hF : 100 < F) {t : Nat} (ht : t < 6) (h : rr_B uC uM df jo sp is os rg nn th vv dd fi gv on p mm tt ss) (hX : rr_X t df nn th fi on p mm tt ss) (hr : p.testBit (8 + t) = true) : ∃ uC' uM', sp_CN_end F t uC = some (0, uC') ∧ sp_Md_end F (nI t) uM = some (0, uM') ∧ RR uC' uM' := by
  have hd := (hX.2.1 t ht hr).1
  obtain ⟨uC1, uM1, s1, s2, s3⟩ := st_same hF ht h hX hr
  have hV1 := rv_stop hX
  have hib : ib (nI t) 6 = true := ib_nI ht (by omega)
  have hcl : (nI t).toNatClampNeg = t := nI_clamp (by omega)
  have hrg : rg t < 16384 := (h.2.2.2.2.2 t ht hd).2.2.2.2
  obtain ⟨uC2, uM2, p2, ss2, g1, g2, g3, g4, g5, g6⟩ := sa_same (F := F) (q := rg t) hF (fun _ => True) (fun k n i u => lp_Md_end_7 F (nI t) k n i u) (fun _ _ _ => trivial) (fun k n u => by
      rw [lp_Md_end_7, if_pos (show (6 : Int32) ≤ nI 6 from by decide)]) (fun k n i u x hi hx1 hx2 hWu _ => by
      conv => lhs; rw [lp_Md_end_7]
      obtain ⟨-, -, -, -, -, -, w8⟩ := (hWu t ht).2 hd
      rw [if_neg (show ¬ (6 : Int32) ≤ nI i from nI_ge (b := 6) hi (by omega)), if_pos hib, hcl, w8, show (8 : Int32) + nI i = nI (8 + i) from by rw [show (8 : Int32) = nI 8 from rfl, nI_add], sh_bit (by omega) (by omega), md_runs hx2 hi hx1, cl_some, nI_1]
      by_cases hq : (rg t).testBit (8 + i) = true
      · have hq1 : rg t / 2 ^ (8 + i) % 2 = 1 := by
          rw [Nat.testBit_eq_decide_div_mod_eq, decide_eq_true_eq] at hq; exact hq
        rw [if_pos ((nI_o (by omega)).mpr hq1)]
        by_cases hb : x.testBit (8 + i) = true
        · rw [if_pos hb, if_neg (show ¬ (1 : Int32) = 0 from by decide), if_pos ⟨hb, hq⟩]
        · rw [if_neg hb, if_pos (show (0 : Int32) = 0 from rfl), if_neg (fun h => hb h.1)]
      · have hq0 : ¬ rg t / 2 ^ (8 + i) % 2 = 1 := fun e => hq (by rw [Nat.testBit_eq_decide_div_mod_eq, decide_eq_true_eq]; exact e)
        rw [if_neg (fun e => hq0 ((nI_o (by omega)).mp e)), if_neg (fun h => hq h.2)]) F 0 uC1 uM1 _ _ (by omega) (by omega) s3 hV1 trivial (fun t ht => absurd ht (by omega))
  have g3' := g3
  obtain ⟨hS, hI, hT, hW, hWm, hD⟩ := g3'
  obtain ⟨S1, S2, S3, S4, S5, S6, S7, S8, S9, S10⟩ := hS
  obtain ⟨⟨f1, f2, f3⟩, hT2⟩ := hT t ht
  obtain ⟨⟨j1, j2, j3, j4⟩, -, -, -, -, hG⟩ := hT2 hd
  obtain ⟨w2, w3, w4, w5, w6, w7, w8⟩ := (hWm t ht).2 hd
  obtain ⟨hj, hs, ⟨hi1, hi2⟩, ⟨ho1, ho2⟩, hr'⟩ := hD t ht hd
  have c6 : uC2.1 (9 + 6 * t) 6 = nI (rg t) := ((hW t ht).2.2 hd).1.1
  have c61 : uC1.1 (9 + 6 * t) 6 = nI (rg t) := ((s3.2.2.2.1 t ht).2.2 hd).1.1
  -- the guards
  obtain ⟨g, hg⟩ : ∃ g : Nat → Bool, ∀ c, c < 8 → (g c = true ↔ ¬ uC2.1 49 (gv t c) < uC2.1 (9 + 6 * t + 4) c ∧ ¬ uC2.1 (9 + 6 * t + 5) c < uC2.1 49 (gv t c)) := ⟨fun c => decide (¬ uC2.1 49 (gv t c) < uC2.1 (9 + 6 * t + 4) c ∧ ¬ uC2.1 (9 + 6 * t + 5) c < uC2.1 49 (gv t c)), fun c _ => decide_eq_true_iff⟩
  have hgh : ∀ c, c < 8 → sp_Task_guardHolds t (nI c) uC2 = some (if g c = true then 1 else 0, uC2) := fun c hc => by
    obtain ⟨⟨q1, -, q3⟩, -, -⟩ := hG c hc
    have hibc : ib (nI c) 8 = true := ib_nI hc (by omega)
    unfold sp_Task_guardHolds
    simp only [nm_k]
    rw [if_pos hibc, nI_clamp (show c < 2 ^ 31 by omega), q1, if_pos (ib_nI q3 (by omega)), if_pos hibc, if_pos hibc, nI_clamp (show gv t c < 2 ^ 31 by omega)]
    by_cases c1 : uC2.1 49 (gv t c) < uC2.1 (9 + 6 * t + 4) c
    · rw [if_pos c1, if_neg (fun h => ((hg c hc).mp h).1 c1)]
    · rw [if_neg c1]
      by_cases c2 : uC2.1 (9 + 6 * t + 5) c < uC2.1 49 (gv t c)
      · rw [if_pos c2, if_neg (fun h => ((hg c hc).mp h).2 c2)]
      · rw [if_neg c2, if_pos ((hg c hc).mpr ⟨c1, c2⟩)]
  have hgs : gs_n (os t) g 8 < 256 := gs_lt (os t) g 8
  have hot : ot_n (sp t) (os t) (gs_n (os t) g 8) < 256 := ot_lt ho1 ho2
  have EO := en_C (F := F) (uC := uC2) hF ho1 hs j2 j4 hgh
  have hp3 : mk_nd p2 (rg t) ||| ot_n (sp t) (os t) (gs_n (os t) g 8) < 16384 := or_lt14 (nd_lt14 S5) (by omega)
  have EC : sp_CN_end F t uC = some (0, ly_pi uC2 0 4 (nI (mk_nd p2 (rg t) ||| ot_n (sp t) (os t) (gs_n (os t) g 8)))) := by
    unfold sp_CN_end sp_CN_stopTasksAmong
    rw [s1, cl_some, c61, show (0 : Int32) = nI 0 from rfl, g1, cl_some, EO, cl_some, S3, c6, nx_nd, nx_or]
    rfl
  -- the reference
  have hk : ∀ k, k ≠ 0 → (ly_pi uM2 0 16 (nI (mk_nd p2 (rg t)))).1 k = uM2.1 k := fun k hk => pi_p hk
  have EM : sp_Md_end F (nI t) uM = some (0, ly_pi (ly_pi uM2 0 16 (nI (mk_nd p2 (rg t)))) 0 16 (nI (mk_nd p2 (rg t) ||| ot_n (sp t) (os t) (gs_n (os t) g 8)))) := by
    unfold sp_Md_end
    rw [s2, cl_some, show (0 : Int32) = nI 0 from rfl, g2, if_pos hib, hcl, S4, w8, show (255 : Int32) = nI 255 from rfl, nx_and, nx_nd, nd_255 S5 g5]
    simp only [nm_k]
    have l1 := gs_M (F := F) (t := t) (x := os t) (g := g) (gv := gv t) (va := uC2.1 49) (lo := uC2.1 (9 + 6 * t + 4)) (hi := uC2.1 (9 + 6 * t + 5)) (u := ly_pi uM2 0 16 (nI (mk_nd p2 (rg t)))) ht ho1 (by rw [hk 5 (by omega)]; exact w5) (fun c hc => by rw [hk 9 (by omega)]; exact ⟨(hG c hc).1.2.1, (hG c hc).1.2.2⟩) (fun i hi => by rw [hk 16 (by omega)]; exact S7 i hi) (fun c hc => by rw [hk 10 (by omega), hk 11 (by omega)]; exact (hG c hc).2) hg
    have l2 := fun v2 => lb_M (F := F) (t := t) (x := os t) (v2 := v2) (u := ly_pi uM2 0 16 (nI (mk_nd p2 (rg t)))) ht ho1 (fun k hk3 => by rw [hk 7 (by omega)]; exact w7 k hk3)
    have l1 := fun kk => l1 kk F 0 (by omega) (by omega)
    have l2 := fun v2 kk => l2 v2 kk F 0 (by omega) (by omega)
    have l1 : ∀ kk, lp_Md_end_74 F (nI t) kk F (nI 0) (nI 0) (ly_pi uM2 0 16 (nI (mk_nd p2 (rg t)))) = kk (nI (gs_n (os t) g 8)) (nI 8) (ly_pi uM2 0 16 (nI (mk_nd p2 (rg t)))) := l1
    have l2 : ∀ v2 kk, lp_Md_end_177 F (nI t) v2 kk F (nI 0) (nI 0) (ly_pi uM2 0 16 (nI (mk_nd p2 (rg t)))) = kk (nI (lb_n (os t) 3)) (nI 3) (ly_pi uM2 0 16 (nI (mk_nd p2 (rg t)))) := l2
    rw [l1, l2, if_pos hib, pi_at, hk 3 (by omega), hk 5 (by omega), w3, w5, if_pos hib]
    unfold ot_n
    by_cases s0 : sp t = 0
    · rw [if_pos (show nI (sp t) = nI 0 from by rw [s0]), if_pos s0, nx_or]
    · rw [if_neg (show ¬ nI (sp t) = nI 0 from fun e => s0 ((nI_eq (by omega) (by omega)).mp e)), if_neg s0]
      by_cases g0 : gs_n (os t) g 8 = 0
      · rw [if_pos (show nI (gs_n (os t) g 8) = nI 0 from by rw [g0]), if_pos g0, nx_or, (hb_lb _ ho1 ho2).1]
      · rw [if_neg (show ¬ nI (gs_n (os t) g 8) = nI 0 from fun e => g0 ((nI_eq (by omega) (by omega)).mp e)), if_neg g0, if_pos hib]
        by_cases s1 : sp t = 1
        · rw [if_pos ((nI_o (by omega)).mpr s1), if_pos s1, (lw_all _ hgs).1, nx_or]
        · rw [if_neg (fun e => s1 ((nI_o (by omega)).mp e)), if_neg s1, nx_or]
  refine ⟨_, _, EC, EM, ?_⟩
  have hon : on = true := by
    cases on with
    | true => rfl
    | false => have := hX.1 rfl; rw [this, Nat.zero_testBit] at hr; cases hr
  subst hon
  have hB3 := rr_B_p g3 hp3
  have hB4 : rr_B (ly_pi uC2 0 4 (nI (mk_nd p2 (rg t) ||| ot_n (sp t) (os t) (gs_n (os t) g 8)))) (ly_pi (ly_pi uM2 0 16 (nI (mk_nd p2 (rg t)))) 0 16 (nI (mk_nd p2 (rg t) ||| ot_n (sp t) (os t) (gs_n (os t) g 8)))) df jo sp is os rg nn th vv dd fi gv true (mk_nd p2 (rg t) ||| ot_n (sp t) (os t) (gs_n (os t) g 8)) mm tt ss2 := by
    have e : ly_pi (ly_pi uM2 0 16 (nI (mk_nd p2 (rg t)))) 0 16 (nI (mk_nd p2 (rg t) ||| ot_n (sp t) (os t) (gs_n (os t) g 8))) = ly_pi uM2 0 16 (nI (mk_nd p2 (rg t) ||| ot_n (sp t) (os t) (gs_n (os t) g 8))) := by
      refine Prod.ext (funext fun k => funext fun j => ?_) rfl
      by_cases e1 : k = 0
      · subst e1
        by_cases e2 : j = 16
        · subst e2; rw [pi_at, pi_at]
        · rw [pi_ne (Or.inr e2), pi_ne (Or.inr e2), pi_ne (Or.inr e2)]
      · rw [pi_p e1, pi_p e1, pi_p e1]
    rw [e]
    exact hB3
  refine rr_mk hB4 (rr_V_p g4 (fun i h1 h2 => (hI i h1 h2).1.2.2) (fun h => nomatch h) (fun s hs => ?_))
  rw [Nat.testBit_or, mk_ndb, Nat.testBit_lt_two_pow (Nat.lt_of_lt_of_le hot (Nat.pow_le_pow_right (n := 2) (i := 8) (by omega) (by omega))), Bool.or_false]
  cases hq : (rg t).testBit (8 + s) with
  | false => simp
  | true => rw [g5 s hs hq]; simp
end END
