section CANC
variable {df : Nat → Bool} {jo sp is os rg nn th vv dd fi : Nat → Nat} {gv : Nat → Nat → Nat} {on : Bool} {mm : Nat} {tt : Nat → Nat} {F : Nat}
theorem b3_0 {p q j : Nat} : (p &&& q) &&& 2 ^ j = 0 ↔ ¬ (p.testBit j = true ∧ q.testBit j = true) := by
  rw [tp_0, Nat.testBit_and, Bool.and_eq_false_iff]
  cases p.testBit j <;> cases q.testBit j <;> simp
/-- the tasks that run among q's places are stopped one after the other; L is the reference's loop -/
theorem sa_same (hF : 100 < F) {q : Nat} (Q : Nat → Prop) (L : (Int32 → St → Option (Int32 × St)) → Nat → Int32 → St → Option (Int32 × St)) (hQ : ∀ a b, Q a → Q (mk_nd a b)) (L0 : ∀ k n u, L k (n + 1) (nI 6) u = k (nI 6) u) (L1 : ∀ k n i u p, i < 6 → u.1 0 16 = nI p → p < 16384 → md_W df jo sp is os rg u → Q p → L k (n + 1) (nI i) u = if p.testBit (8 + i) = true ∧ q.testBit (8 + i) = true then cl_k (sp_Md_stop F (nI i) u) (fun _ u5 => L k n (nI (i + 1)) u5) else L k n (nI (i + 1)) u) : ∀ (n i : Nat) (uC uM : St) (p : Nat) (ss : Nat → Nat), i ≤ 6 → 6 - i < n → rr_B uC uM df jo sp is os rg nn th vv dd fi gv on p mm tt ss → rr_V df nn th fi on p mm tt ss → Q p → (∀ t, t < i → q.testBit (8 + t) = true → p.testBit (8 + t) = false) → ∃ uC' uM' p' ss', (∀ k, lp_CN_stopTasksAmong_2 F (nI q) k n (nI i) uC = k (nI 6) uC') ∧ (∀ k, L k n (nI i) uM = k (nI 6) uM') ∧ rr_B uC' uM' df jo sp is os rg nn th vv dd fi gv on p' mm tt ss' ∧ rr_V df nn th fi on p' mm tt ss' ∧ (∀ t, t < 6 → q.testBit (8 + t) = true → p'.testBit (8 + t) = false) ∧ mk_sub p' p := by
  intro n
  induction n with
  | zero => intro i uC uM p ss _ h; omega
  | succ n ih =>
    intro i uC uM p ss hi hn hB hV hq hdone
    by_cases hc : i = 6
    · subst hc
      refine ⟨uC, uM, p, ss, fun k => ?_, fun k => L0 k n uM, hB, hV, hdone, mk_sub_rf p⟩
      rw [lp_CN_stopTasksAmong_2, if_pos (show (6 : Int32) ≤ nI 6 from by decide)]
    · have hi6 : i < 6 := by omega
      have hp := hB.1.2.2.2.2.1
      have head : ∀ k, lp_CN_stopTasksAmong_2 F (nI q) k (n + 1) (nI i) uC = if p.testBit (8 + i) = true ∧ q.testBit (8 + i) = true then cl_k (sp_CN_stop F i uC) (fun _ u5 => lp_CN_stopTasksAmong_2 F (nI q) k n (nI (i + 1)) u5) else lp_CN_stopTasksAmong_2 F (nI q) k n (nI (i + 1)) uC := fun k => by
        conv => lhs; rw [lp_CN_stopTasksAmong_2]
        have hle : (p &&& q) &&& 2 ^ (8 + i) ≤ p &&& q := Nat.and_le_left
        have hle2 : p &&& q ≤ p := Nat.and_le_left
        rw [if_neg (show ¬ (6 : Int32) ≤ nI i from nI_ge (b := 6) hi6 (by omega)), if_pos (ib_nI hi6 (by omega)), nI_clamp (by omega), hB.1.2.2.1, (hB.2.2.2.1 i hi6).1, nx_and, nx_and, nI_1]
        by_cases hx : p.testBit (8 + i) = true ∧ q.testBit (8 + i) = true
        · rw [if_neg (fun e => b3_0.mp ((nI_z (by omega)).mp e) hx), if_pos hx]
        · rw [if_pos ((nI_z (by omega)).mpr (b3_0.mpr hx)), if_neg hx]
      by_cases hx : p.testBit (8 + i) = true ∧ q.testBit (8 + i) = true
      · obtain ⟨uC1, uM1, s1, s2, s3⟩ := st_same hF hi6 hB (rr_VX hV) hx.1
        obtain ⟨uC', uM', p', ss', g1, g2, g3, g4, g5, g6⟩ := ih (i + 1) uC1 uM1 _ _ (by omega) (by omega) s3 (rv_stop (rr_VX hV)) (hQ _ _ hq) (fun t ht hb => by
          rw [mk_ndb]
          by_cases e : t = i
          · subst e; rw [Nat.testBit_two_pow_self]; simp
          · rw [hdone t (by omega) hb, Bool.false_and])
        refine ⟨uC', uM', p', ss', fun k => ?_, fun k => ?_, g3, g4, g5, fun j hj => ?_⟩
        · rw [head k, if_pos hx, s1, cl_some, g1]
        · rw [L1 k n i uM p hi6 hB.1.2.2.2.1 hp hB.2.2.2.2.1 hq, if_pos hx, s2, cl_some, g2]
        · have := g6 j hj
          rw [mk_ndb, Bool.and_eq_true] at this
          exact this.1
      · obtain ⟨uC', uM', p', ss', g1, g2, g3, g4, g5, g6⟩ := ih (i + 1) uC uM p ss (by omega) (by omega) hB hV hq (fun t ht hb => by
          by_cases e : t = i
          · subst e
            cases hpb : p.testBit (8 + t) with
            | false => rfl
            | true => exact absurd ⟨hpb, hb⟩ hx
          · exact hdone t (by omega) hb)
        refine ⟨uC', uM', p', ss', fun k => ?_, fun k => ?_, g3, g4, g5, g6⟩
        · rw [head k, if_neg hx, g1]
        · rw [L1 k n i uM p hi6 hB.1.2.2.2.1 hp hB.2.2.2.2.1 hq, if_neg hx, g2]
end CANC
theorem rs_cancel {F : Nat} (hF : 100 < F) : RS_cancel RR F := by
  intro uC uM h
  have h' := h
  obtain ⟨df, jo, sp, is, os, rg, nn, th, vv, dd, fi, gv, on, p, mm, tt, ss, hS, hI, hT, hW, hV⟩ := h
  have hB : rr_B uC uM df jo sp is os rg nn th vv dd fi gv on p mm tt ss := ⟨hS, hI, hT, hW⟩
  cases on with
  | false =>
    refine ⟨0, uC, uM, ?_, ?_, h'⟩
    · unfold sp_CN_cancel; rw [hS.1, if_pos (show b_2 false = 0 from rfl)]
    · unfold sp_Md_cancel; rw [hS.2.1, if_pos (show b_2 false = 0 from rfl)]
  | true =>
    obtain ⟨uC1, uM1, p1, ss1, g1, g2, g3, g4, g5, g6⟩ := sa_same (F := F) (q := p) hF (fun x => mk_sub x p) (fun k n i u => lp_Md_cancel_11 F k n i u) (fun a b ha j hj => ha j (by rw [mk_ndb, Bool.and_eq_true] at hj; exact hj.1)) (fun k n u => by
        rw [lp_Md_cancel_11, if_pos (show (6 : Int32) ≤ nI 6 from by decide)]) (fun k n i u x hi hx1 hx2 _ hQ => by
        conv => lhs; rw [lp_Md_cancel_11]
        rw [if_neg (show ¬ (6 : Int32) ≤ nI i from nI_ge (b := 6) hi (by omega)), md_runs hx2 hi hx1, cl_some, nI_1]
        by_cases hb : x.testBit (8 + i) = true
        · rw [if_pos hb, if_neg (show ¬ (1 : Int32) = 0 from by decide), if_pos ⟨hb, hQ _ hb⟩]
        · rw [if_neg hb, if_pos (show (0 : Int32) = 0 from rfl), if_neg (fun h => hb h.1)]) F 0 uC uM p ss (by omega) (by omega) hB hV (mk_sub_rf p) (fun t ht => absurd ht (by omega))
    have hnone : ∀ t, t < 6 → p1.testBit (8 + t) = false := fun t ht => by
      cases hb : p1.testBit (8 + t) with
      | false => rfl
      | true => have := g5 t ht (g6 _ hb); rw [hb] at this; cases this
    refine ⟨1, ly_pi (ly_pi uC1 0 4 0) 0 3 0, ly_pi (ly_pi uM1 0 16 0) 0 15 0, ?_, ?_, df, jo, sp, is, os, rg, nn, th, vv, dd, fi, gv, false, 0, mm, tt, ss1, ?_, ?_, ?_, ⟨?_, ?_, hB.2.2.2.2.2⟩, fun _ => rfl, fun t ht hr => ?_, fun i h1 h2 h3 => ?_⟩
    · unfold sp_CN_cancel sp_CN_stopTasksAmong
      rw [hS.1, if_neg (show ¬ b_2 true = 0 from by decide), hS.2.2.1, show (0 : Int32) = nI 0 from rfl, g1, cl_some]
      rfl
    · unfold sp_Md_cancel
      rw [hS.2.1, if_neg (show ¬ b_2 true = 0 from by decide), show (0 : Int32) = nI 0 from rfl, g2]
      rfl
    · obtain ⟨S1, S2, S3, S4, S5, S6, S7, S8, S9, S10⟩ := g3.1
      refine ⟨pi_at _ _ _ _, pi_at _ _ _ _, ?_, ?_, by omega, ?_, fun i hi => ?_, ?_, ?_, S10⟩
      · rw [pi_ne (Or.inr (by omega)), pi_at]; rfl
      · rw [pi_ne (Or.inr (by omega)), pi_at]; rfl
      · rw [pi_ne (Or.inr (by omega)), pi_ne (Or.inr (by omega)), pi_ne (Or.inr (by omega)), pi_ne (Or.inr (by omega))]; exact S6
      · rw [pi_p (by omega), pi_p (by omega), pi_p (by omega), pi_p (by omega)]; exact S7 i hi
      · rw [pi_p (by omega), pi_p (by omega)]; exact S8
      · rw [pi_ne (Or.inr (by omega)), pi_ne (Or.inr (by omega))]; exact S9
    · exact rr_I_fr g3.2.1 (fun k _ _ => by rw [pi_p (by omega), pi_p (by omega)]) (fun k _ _ => by rw [pi_p (by omega), pi_p (by omega)])
    · exact rr_T_fr g3.2.2.1 (fun k _ _ => by rw [pi_p (by omega), pi_p (by omega)]) (fun k _ _ _ _ _ _ => by rw [pi_p (by omega), pi_p (by omega)])
    · exact nw_fr2 g3.2.2.2.1 (fun k _ _ => by rw [pi_p (by omega), pi_p (by omega)])
    · exact md_fr2 g3.2.2.2.2.1 (fun k _ _ => by rw [pi_p (by omega), pi_p (by omega)])
    · rw [Nat.zero_testBit] at hr; cases hr
    · exfalso
      have a := (g4.2.2 i h1 h2 h3).1
      rw [hnone _ (g3.2.1 i h1 h2).1.2.2] at a
      cases a
