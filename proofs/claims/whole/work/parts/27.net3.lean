theorem cl_some {α β γ : Type} (a : α) (b : β) (f : α → β → Option γ) : cl_k (some (a, b)) f = f a b := rfl
theorem and_tp {m j i : Nat} (h : m &&& 2 ^ j ≠ 0) (hi : (2 ^ j).testBit i = true) : m.testBit i = true := by
  rw [Nat.testBit_two_pow, decide_eq_true_eq] at hi
  subst hi
  cases hb : m.testBit j with
  | true => rfl
  | false =>
    exfalso
    apply h
    rw [mk_dis]
    intro i hi
    rw [Nat.testBit_two_pow]
    exact decide_eq_false (fun e => by subst e; rw [hb] at hi; cases hi)
section NET
variable {df : Nat → Bool} {cr nt : Nat → Nat} {tk : Nat → Nat → Nat} {np : Nat → Nat} {pt : Nat → Nat → Nat} {wo : Int32} {target : Nat} {Dr : Nat → Bool}
theorem nw_st_lt {m m' : Nat} {u : St} (hN : nw_ok u df cr nt tk np pt) (hs : nw_st wo df cr nt tk np pt m m') (hm : m < 16384) : m' < 16384 := by
  obtain ⟨t, ⟨ht, hd, _⟩, ⟨a, ⟨i, hi, rfl⟩, _, rfl⟩ | ⟨b, ⟨i, hi, rfl⟩, _, rfl⟩⟩ := hs
  · exact or_lt14 (nd_lt14 hm) (tp_lt ht)
  · obtain ⟨-, -, e2⟩ := hN t ht
    obtain ⟨-, -, -, -, hpt⟩ := e2 hd
    have := (hpt i hi).2
    exact or_lt14 (nd_lt14 (nd_lt14 hm)) (by omega)
/-- with nothing open, what is gathered is all that covers -/
theorem cv_full {u : St} {C O : Nat → Bool} (h : cv_I df cr nt tk np pt wo target Dr u C O) (hO : ∀ x, x < 16384 → O x = false) (hcl : ∀ nd, nd < 16384 → Dr nd = true → ∀ t, t < 6 → df t = true → ¬ nI t = wo → pr_T cr nt tk np pt nd t C) (ht : target < 16384) (hT : C target = true) {x : Nat} (hx : x < 16384) : C x = true ↔ mv_cov (nw_st wo df cr nt tk np pt) x target := by
  obtain ⟨h1, h2, h3, h4, h5, h6⟩ := h
  have up : ∀ {a b : Nat}, a < 16384 → b < 16384 → C a = true → mk_sub a b → C b = true := by
    intro a b ha hb hC hs
    obtain ⟨nd, g1, g2, g3⟩ := (h4 a ha).mp hC
    exact (h4 b hb).mpr ⟨nd, g1, g2, mk_sub_and.mpr (mk_sub_tr (mk_sub_and.mp g3) hs)⟩
  constructor
  · intro hC
    obtain ⟨nd, g1, g2, g3⟩ := (h4 x hx).mp hC
    exact mv_cov_mono (mk_sub_and.mp g3) (h6 nd g1 g2)
  · intro hc
    refine mv_back (C := fun m => m < 16384 → C m = true) (target := target) (fun m hs hm => ?_) (fun m m' hst hP hm => ?_) x hc hx
    · exact up ht hm hT hs
    · have hm' := nw_st_lt h1 hst hm
      obtain ⟨nd, g1, g2, g3⟩ := (h4 m' hm').mp (hP hm')
      have hD : Dr nd = true := g2.elim (fun g => by rw [hO nd g1] at g; cases g) id
      have g3 := mk_sub_and.mp g3
      obtain ⟨t, ⟨ht6, hd, hw⟩, ⟨a, ⟨i, hi, rfl⟩, hb⟩ | ⟨b, ⟨i, hi, rfl⟩, hb⟩⟩ := hst
      · obtain ⟨-, -, e2⟩ := h1 t ht6
        obtain ⟨-, ⟨-, -, htk⟩, -⟩ := e2 hd
        have ltk := (htk i hi).2
        rcases mv_beg_pre hb g3 with k1 | ⟨k1, k2, k3⟩
        · exact (h4 m hm).mpr ⟨nd, g1, g2, mk_sub_and.mpr k1⟩
        · exact up (or_lt14 (nd_lt14 g1) (by omega)) hm ((hcl nd g1 hD t ht6 hd hw).2 i hi k1 k2) k3
      · rcases mv_end_pre (fun i h1 h2 => and_tp h1 h2) hb g3 with k1 | ⟨k1, k2, k3⟩
        · exact (h4 m hm).mpr ⟨nd, g1, g2, mk_sub_and.mpr k1⟩
        · exact up (or_lt14 (nd_lt14 g1) (tp_lt ht6)) hm ((hcl nd g1 hD t ht6 hd hw).1 i hi k1 k2) k3
/-- what findCovering comes to -/
def cv_R (df : Nat → Bool) (cr nt : Nat → Nat) (tk : Nat → Nat → Nat) (np : Nat → Nat) (pt : Nat → Nat → Nat) (wo : Int32) (target sought : Nat) (u : St) (o : Option (Int32 × St)) : Prop := ∃ r u', o = some (r, u') ∧ fr_s u u' ∧ ((r = 1 ∧ mv_cov (nw_st wo df cr nt tk np pt) sought target) ∨ (r = 0 ∧ ¬ mv_cov (nw_st wo df cr nt tk np pt) sought target ∧ ∃ C, ms_ok u' 7 C ∧ ∀ x, x < 16384 → (C x = true ↔ mv_cov (nw_st wo df cr nt tk np pt) x target)))
theorem cv_main {F sought : Nat} (v1 : Int32) (u0 : St) (ht : target < 16384) (hs : sought < 16384) (hF : 16500 < F) : ∀ (n l : Nat) (Dr : Nat → Bool) (u : St) (C O : Nat → Bool), l < n → l + mk_cn Dr 16384 = 16384 → fr_s u0 u → cv_I df cr nt tk np pt wo target Dr u C O → (∀ nd, nd < 16384 → Dr nd = true → ∀ t, t < 6 → df t = true → ¬ nI t = wo → pr_T cr nt tk np pt nd t C) → C target = true →
    cv_R df cr nt tk np pt wo target sought u0 (lp_Net_findCovering_24 F v1 (nI sought) wo (fun (v4_30 : Int32) (u31 : St) => (cl_k (sp_MS_has 7 (nI sought) u31) (fun r32 u33 => (if r32 = 0 ∨ r32 = 1 then some (r32, u33) else none)))) n (nI l) u) := by
  intro n
  induction n with
  | zero => intro l Dr u C O h; omega
  | succ n ih =>
    intro l Dr u C O hn hcn hfr h hcl hT
    have hle := mk_cn_le Dr 16384
    rw [lp_Net_findCovering_24]
    have hfound : C sought = true → cv_R df cr nt tk np pt wo target sought u0 (cl_k (sp_MS_has 7 (nI sought) u) (fun r32 u33 => (if r32 = 0 ∨ r32 = 1 then some (r32, u33) else none))) := fun hC => by
      rw [ms_has h.2.1 hs, if_pos hC]
      refine ⟨1, u, rfl, hfr, Or.inl ⟨rfl, ?_⟩⟩
      obtain ⟨nd, g1, g2, g3⟩ := (h.2.2.2.1 sought hs).mp hC
      exact mv_cov_mono (mk_sub_and.mp g3) (h.2.2.2.2.2 nd g1 g2)
    by_cases hl : l = 0
    · subst hl
      rw [if_pos (show nI 0 ≤ 0 from by decide)]
      apply hfound
      have hall : Dr sought = true := by
        cases hd : Dr sought with
        | true => rfl
        | false => have := mk_cn_lt hd 16384 hs; omega
      exact (h.2.2.2.1 sought hs).mpr ⟨sought, hs, Or.inr hall, Nat.and_self _⟩
    · rw [if_neg (nI_nle (by omega) (by omega)), ms_has h.2.1 hs]
      by_cases hC : C sought = true
      · rw [if_pos hC, cl_some, if_neg (by decide)]
        exact hfound hC
      · rw [if_neg hC, cl_some, if_pos rfl]
        rcases ms_draw h.2.2.1 (F := F) (by omega) with ⟨x, hx, hO, hmin, u1, a1, a2, a3⟩ | ⟨hno, u1, a1, a2, a3⟩
        · rw [a1, cl_some]
          rw [if_neg (fun e : nI x = -1 => by
            have := congrArg Int32.toInt e
            rw [nI_toInt (by omega)] at this
            rw [show (-1 : Int32).toInt = -1 from by decide] at this
            omega)]
          have hfr1 : fr_s u u1 := fr_s_3 a2
          have hDx : Dr x = false := by
            cases hd : Dr x with
            | false => rfl
            | true => exact (h.2.2.2.2.1 x hx hO hd).elim
          have hor : ∀ nd, ((O nd && !decide (nd = x)) = true ∨ (Dr nd || decide (nd = x)) = true) ↔ (O nd = true ∨ Dr nd = true) := by
            intro nd
            by_cases e : nd = x
            · subst e; simp [hO]
            · simp [e]
          have h1 : cv_I df cr nt tk np pt wo target (fun y => Dr y || decide (y = x)) u1 C (fun y => O y && !decide (y = x)) := by
            refine ⟨nw_fr h.1 (fun k hk => hfr1.1 k (by omega) (by omega)), ms_ok_eq h.2.1 (by rw [a2.1 7 (by omega)]) (a2.2.2 8 (by omega)), a3, fun y hy => ?_, fun nd hn ho hd => ?_, fun nd hn ho => h.2.2.2.2.2 nd hn ((hor nd).mp ho)⟩
            · rw [h.2.2.2.1 y hy]
              constructor
              · rintro ⟨nd, g1, g2, g3⟩; exact ⟨nd, g1, (hor nd).mpr g2, g3⟩
              · rintro ⟨nd, g1, g2, g3⟩; exact ⟨nd, g1, (hor nd).mp g2, g3⟩
            · by_cases e : nd = x
              · subst e; simp at ho
              · simp [e] at ho hd
                exact h.2.2.2.2.1 nd hn ho hd
          obtain ⟨u', C', O', g1, g2, g3, g4, g5⟩ := cv_t (F := F) (Dr := fun y => Dr y || decide (y = x)) v1 (nI sought) (nI l) (fun (v6_28 : Int32) (u29 : St) => (lp_Net_findCovering_24 F v1 (nI sought) wo (fun (v4_30 : Int32) (u31 : St) => (cl_k (sp_MS_has 7 (nI sought) u31) (fun r32 u33 => (if r32 = 0 ∨ r32 = 1 then some (r32, u33) else none)))) n (nI l + (-1 : Int32)) u29)) hx (h.2.2.2.2.2 x hx (Or.inl hO)) (by omega) F 0 u1 C _ (by omega) (by omega) h1
          have g1 : lp_Net_findCovering_60 F v1 (nI sought) wo (nI l) (nI x) _ F (0 : Int32) u1 = _ := g1
          rw [g1]
          obtain ⟨l', rfl⟩ : ∃ l', l = l' + 1 := ⟨l - 1, by omega⟩
          rw [pk_m1]
          have hcn' : mk_cn (fun y => Dr y || decide (y = x)) 16384 = mk_cn Dr 16384 + 1 := mk_cn_add hDx (by simp) 16384 hx (fun i _ hi => by simp [hi])
          refine ih l' (fun y => Dr y || decide (y = x)) u' C' O' (by omega) (by omega) (fr_s_tr hfr (fr_s_tr hfr1 g2)) g3 (fun nd hn hd t h6 hdf hw => ?_) ?_
          · by_cases e : nd = x
            · subst e; exact g5 t (by omega) h6 hdf hw
            · simp [e] at hd
              exact pr_T_mono (hcl nd hn hd t h6 hdf hw) g4
          · exact g4 target hT
        · rw [a1, cl_some, if_pos rfl]
          refine ⟨0, u1, rfl, fr_s_tr hfr (fr_s_3 a2), Or.inr ⟨rfl, fun hc => hC ((cv_full h hno hcl ht hT hs).mpr hc), C, ms_ok_eq h.2.1 (by rw [a2.1 7 (by omega)]) (a2.2.2 8 (by omega)), fun x hx => cv_full h hno hcl ht hT hx⟩⟩
theorem cv_find {F sought : Nat} {u : St} (hN : nw_ok u df cr nt tk np pt) (ht : target < 16384) (hs : sought < 16384) (hF : 16500 < F) : cv_R df cr nt tk np pt wo target sought u (sp_Net_findCovering F (nI target) (nI sought) wo u) := by
  obtain ⟨u1, a1, a2, a3⟩ := ms_clear (F := F) (q := 7) u (by omega)
  obtain ⟨u2, b1, b2, b3⟩ := ms_clear (F := F) (q := 3) u1 (by omega)
  have hfr2 : fr_s u u2 := fr_s_tr (fr_s_7 a2) (fr_s_3 b2)
  have h0 : cv_I df cr nt tk np pt wo target (fun _ => false) u2 (fun _ => false) (fun _ => false) := ⟨nw_fr hN (fun k hk => hfr2.1 k (by omega) (by omega)), ms_ok_eq a3 (by rw [b2.1 7 (by omega)]) (b2.2.2 8 (by omega)), b3, fun x hx => ⟨(fun h => nomatch h), (fun ⟨nd, _, h, _⟩ => h.elim (fun h => nomatch h) (fun h => nomatch h))⟩, (fun nd _ h => nomatch h), fun nd _ h => h.elim (fun h => nomatch h) (fun h => nomatch h)⟩
  obtain ⟨u3, C3, O3, c1, c2, c3, c4, c5⟩ := cv_need (F := F) h0 ht mv_cov_rf (by omega)
  unfold sp_Net_findCovering
  rw [a1]
  simp only [cl_k]
  rw [b1]
  simp only []
  rw [c1]
  simp only []
  have z : mk_cn (fun _ => false) 16384 = 0 := by
    have : ∀ n, mk_cn (fun _ => false) n = 0 := fun n => by
      induction n with
      | zero => rfl
      | succ n ih => unfold mk_cn; rw [ih]; rfl
    exact this _
  exact cv_main (nI target) u ht hs hF F 16384 (fun _ => false) u3 C3 O3 (by omega) (by omega) (fr_s_tr hfr2 c2) c3 (fun nd _ h => nomatch h) c5
end NET
