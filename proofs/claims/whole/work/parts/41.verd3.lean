section VERD
variable {df : Nat → Bool} {jo sp is os rg : Nat → Nat} {F : Nat}
def fr_v (u u' : St) : Prop := ∀ k j, k ≠ 22 → (k ≠ 0 ∨ j ≠ 26) → u'.1 k j = u.1 k j
theorem md_Wg {u u' : St} (h : fr_g u u') (hW : md_W df jo sp is os rg u) : md_W df jo sp is os rg u' := by
  intro t ht
  rw [h.1]
  exact hW t ht
theorem jd_M {u : St} (hF : 16500 < F) (hD : ds_ok df jo sp is os rg) (hW : md_W df jo sp is os rg u) : ∃ r u', sp_Md_verdict F u = some (r, u') ∧ fr_v u u' ∧ vd_R df rg (fun t => (lt_n jo is t).length) (fun t i => (lt_n jo is t).getD i 0) (fun t => (lp_n sp os t).length) (fun t i => (lp_n sp os t).getD i 0) jo r := by
  have H := md_af (F := F) (by omega) hD
  unfold sp_Md_verdict
  rcases vj_loop (F := F) hW (fun t ht hd => (hD t ht hd).1) F 0 (by omega) (by omega) (fun t ht => by omega) with ⟨h1, h2⟩ | ⟨⟨z0, h1⟩, h2⟩
  · have h1 : ∀ k, lp_Md_verdict_2 F k F (0 : Int32) u = some (-1, u) := h1
    rw [h1]
    exact ⟨-1, u, rfl, fun _ _ _ _ => rfl, Or.inl ⟨rfl, Or.inr h2⟩⟩
  · have h1 : ∀ k, lp_Md_verdict_2 F k F (0 : Int32) u = k z0 u := h1
    rw [h1]
    obtain ⟨a, a1, a2⟩ := md_any (F := F) (df := df) (u := u) (by omega) (fun t ht => (hW t ht).1)
    rw [a1, cl_some]
    cases a with
    | false =>
      rw [if_neg (show ¬ (false = true) from by decide), if_pos rfl]
      refine ⟨-1, u, rfl, fun _ _ _ _ => rfl, Or.inl ⟨rfl, Or.inl (fun t ht hd => ?_)⟩⟩
      exact absurd (a2.mpr ⟨t, ht, hd⟩) (by decide)
    | true =>
      rw [if_pos (show true = true from rfl), if_neg (by decide)]
      have hneg : ¬ ((∀ t, t < 6 → ¬ df t = true) ∨ ∃ t, t < 6 ∧ df t = true ∧ jo t = 2) := by
        rintro (h | ⟨t, g1, g2, g3⟩)
        · obtain ⟨t, g1, g2⟩ := a2.mp rfl
          exact h t g1 g2
        · exact h2 t g1 ⟨g2, g3⟩
      obtain ⟨r8, u9, s1, s2, s3⟩ := bq_search H hF (-1) hW (fm := 1) (target := 16384) (by omega) (by omega)
      have s1 : sp_Md_search F (1 : Int32) (16384 : Int32) (-1 : Int32) u = some (r8, u9) := s1
      rw [s1, cl_some]
      have hlt : ∀ m m', m < 16384 → af_st df (af_n jo sp is os rg) (-1) m m' → m' < 16384 := fun m m' hm ⟨t, a1, a2, a3, k, a4, a5⟩ => H.2.2.2 m t k m' hm a1 a2 a4 a5
      rcases s3 with ⟨_, n, m', hr, hs⟩ | ⟨e8, _, S, c, qm, hq, hS⟩
      · exfalso
        have hm' : m' < 16384 := mv_on (C := fun y => y < 16384) hr (by omega) (fun m m' h1 h2 => hlt m m' h2 h1)
        have hb := hs 14 (by decide)
        rw [Nat.testBit_lt_two_pow (show m' < 2 ^ 14 from hm')] at hb
        cases hb
      · rw [e8, if_pos rfl]
        have hW9 := H.1 _ _ s2 hW
        have hcl := mk_cn_le S 16384
        have hq' := hq
        obtain ⟨q1, q2, q3, q4, q5⟩ := hq
        have hq2 : ∀ j, j < c → u9.1 22 j = nI (qm j) ∧ qm j < 16384 := fun j hj => ⟨(q4 j hj).1, (q4 j hj).2.1⟩
        obtain ⟨e, ze, v1, v2⟩ := vc_loop (F := F) (u := u9) (c := c) (qm := qm) (0 : Int32) (1 : Int32) (by omega) q2 hq2 F 0 true (by omega) (by omega)
        have v1 : ∀ k, lp_Md_verdict_69 F (0 : Int32) (1 : Int32) k F (1 : Int32) (0 : Int32) u9 = k (if e = true then 1 else 0) ze u9 := v1
        rw [v1]
        obtain ⟨b, zb, w1, w2⟩ := vb_loop (F := F) (u := u9) hF hD hW9 (c := c) (qm := qm) (0 : Int32) (if e = true then 1 else 0) (by omega) q2 hq2 F 0 true (by omega) (by omega)
        have w1 : ∀ k, lp_Md_verdict_120 F (0 : Int32) (if e = true then 1 else 0) k F (1 : Int32) (0 : Int32) u9 = k (if b = true then 1 else 0) zb u9 := w1
        rw [w1]
        have hSc : ∀ x y, x < 16384 → S x = true → af_st df (af_n jo sp is os rg) (-1) x y → S y = true := fun x y hx hSx hst => by
          obtain ⟨n, hn⟩ := (hS x hx).mp hSx
          exact (hS y (hlt x y hx hst)).mpr ⟨n + 1, mv_rc_app hn hst⟩
        obtain ⟨r, u', x1, x2, x3⟩ := ae_all H (fun u u' h1 h2 => md_Wg h1 h2) hF hW9 hq' hSc
        rw [x1, cl_some]
        have hfr : fr_v u u' := fun k j h1 h2 => by
          rw [x2.1]; exact s2.1 k j h1 h2
        rw [st_eq hD (-1)] at x3 hS
        have hqm : ∀ (P : Nat → Prop), (∀ j, 0 ≤ j → j < c → P (qm j)) ↔ ∀ x, x < 16384 → (∃ n, mv_rc (nw_st (-1) df rg (fun t => (lt_n jo is t).length) (fun t i => (lt_n jo is t).getD i 0) (fun t => (lp_n sp os t).length) (fun t i => (lp_n sp os t).getD i 0)) n 1 x) → P x := fun P => by
          constructor
          · intro h x hx hr
            obtain ⟨j, hj, ej⟩ := q5 x hx ((hS x hx).mpr hr)
            subst ej
            exact h j (by omega) hj
          · intro h j _ hj
            exact h (qm j) (q4 j hj).2.1 ((hS _ (q4 j hj).2.1).mp (q4 j hj).2.2)
        have he : e = true ↔ ∀ x, x < 16384 → (∃ n, mv_rc (nw_st (-1) df rg (fun t => (lt_n jo is t).length) (fun t i => (lt_n jo is t).getD i 0) (fun t => (lp_n sp os t).length) (fun t i => (lp_n sp os t).getD i 0)) n 1 x) → (x &&& 2 = 0 ∨ x = 2) := by
          rw [v2, ← hqm (fun x => x &&& 2 = 0 ∨ x = 2)]
          exact ⟨fun h => h.2, fun h => ⟨rfl, h⟩⟩
        have hb : b = true ↔ ∀ s, s < 6 → df s = true → ∃ x, x < 16384 ∧ (∃ n, mv_rc (nw_st (-1) df rg (fun t => (lt_n jo is t).length) (fun t i => (lt_n jo is t).getD i 0) (fun t => (lp_n sp os t).length) (fun t i => (lp_n sp os t).getD i 0)) n 1 x) ∧ ∃ j, j < (lt_n jo is s).length ∧ mk_sub ((lt_n jo is s).getD j 0) x := by
          rw [w2]
          constructor
          · rintro ⟨_, h⟩ s hs hd
            obtain ⟨l, hl, hj⟩ := h s (by omega) hs hd
            exact ⟨qm l, (q4 l hl).2.1, (hS _ (q4 l hl).2.1).mp (q4 l hl).2.2, hj⟩
          · intro h
            refine ⟨rfl, fun s _ hs hd => ?_⟩
            obtain ⟨x, hx, hr, hj⟩ := h s hs hd
            obtain ⟨l, hl, el⟩ := q5 x hx ((hS x hx).mpr hr)
            subst el
            exact ⟨l, hl, hj⟩
        rcases x3 with ⟨er, hw⟩ | ⟨er, x, hx, hSx, hno⟩
        · refine ⟨vd_n true e b, u', ?_, hfr, Or.inr ⟨hneg, true, e, b, rfl, ⟨fun _ x hx hr => hw x hx ((hS x hx).mpr hr), fun _ => rfl⟩, he, hb⟩⟩
          rw [er]
          cases e <;> cases b <;> rfl
        · refine ⟨vd_n false e b, u', ?_, hfr, Or.inr ⟨hneg, false, e, b, rfl, ⟨(fun h => nomatch h), fun h => absurd (h x hx ((hS x hx).mp hSx)) hno⟩, he, hb⟩⟩
          rw [er]
          cases e <;> cases b <;> rfl
theorem vd_one {df : Nat → Bool} {cr nt : Nat → Nat} {tk : Nat → Nat → Nat} {np : Nat → Nat} {pt : Nat → Nat → Nat} {jo : Nat → Nat} {r1 r2 : Int32} (h1 : vd_R df cr nt tk np pt jo r1) (h2 : vd_R df cr nt tk np pt jo r2) : r1 = r2 := by
  rcases h1 with ⟨e1, p1⟩ | ⟨n1, w1, e1, b1, f1, g1, g2, g3⟩ <;> rcases h2 with ⟨e2, p2⟩ | ⟨n2, w2, e2, b2, f2, k1, k2, k3⟩
  · rw [e1, e2]
  · exact absurd p1 n2
  · exact absurd p2 n1
  · have bw : w1 = w2 := Bool.eq_iff_iff.mpr (g1.trans k1.symm)
    have be : e1 = e2 := Bool.eq_iff_iff.mpr (g2.trans k2.symm)
    have bb : b1 = b2 := Bool.eq_iff_iff.mpr (g3.trans k3.symm)
    rw [f1, f2, bw, be, bb]
end VERD
