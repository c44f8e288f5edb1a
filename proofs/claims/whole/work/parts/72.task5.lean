def bd_c (a : Int32) : Prop := a < 1 ∨ (255 : Int32) < a ∨ ∃ x, x < 256 ∧ a = nI x ∧ 3 < pc_n x
def bd_t (a1 a2 a3 a4 a5 : Int32) : Prop := (a1 < 0 ∨ (5 : Int32) < a1) ∨ (a2 < 0 ∨ (2 : Int32) < a2) ∨ (a3 < 0 ∨ (2 : Int32) < a3) ∨ bd_c a4 ∨ bd_c a5
theorem bw_no {a lo hi : Int32} (h : ¬ (¬ a < lo ∧ ¬ hi < a)) : a < lo ∨ hi < a := by
  by_cases h1 : a < lo
  · exact Or.inl h1
  · by_cases h2 : hi < a
    · exact Or.inr h2
    · exact absurd ⟨h1, h2⟩ h
theorem tk_C {F : Nat} {uC : St} (a1 a2 a3 a4 a5 : Int32) (h3 : uC.1 0 3 = 0) : (∃ t j s x y, (t < 6 ∧ j < 3 ∧ s < 3 ∧ (x < 256 ∧ go_n x = true) ∧ y < 256 ∧ go_n y = true) ∧ (a1 = nI t ∧ a2 = nI j ∧ a3 = nI s ∧ a4 = nI x ∧ a5 = nI y) ∧ sp_CN_task F a1 a2 a3 a4 a5 uC = cl_k (sp_Task_define F t a2 a3 a4 a5 uC) (fun r18 u19 => (some ((1 : Int32), u19)))) ∨ (bd_t a1 a2 a3 a4 a5 ∧ sp_CN_task F a1 a2 a3 a4 a5 uC = some (0, uC)) := by
  have n1 : ¬ (1 : Int32) = 0 := by decide
  unfold sp_CN_task
  rw [h3, if_pos rfl, bw_ca, cl_some]
  by_cases c1 : ¬ a1 < 0 ∧ ¬ (5 : Int32) < a1
  · rw [if_pos c1, if_neg n1, bw_ca, cl_some]
    by_cases c2 : ¬ a2 < 0 ∧ ¬ (2 : Int32) < a2
    · rw [if_pos c2, if_neg n1, bw_ca, cl_some]
      by_cases c3 : ¬ a3 < 0 ∧ ¬ (2 : Int32) < a3
      · rw [if_pos c3, if_neg n1]
        rcases oc_C a4 uC with ⟨x, hx, gx, e4, q4⟩ | ⟨q4, b4⟩
        · rw [q4, cl_some, if_neg n1]
          rcases oc_C a5 uC with ⟨y, hy, gy, e5, q5⟩ | ⟨q5, b5⟩
          · obtain ⟨t, ht, e1⟩ := nI_of2 (M := 5) (n := 5) (by decide) c1.1 (i_nlt c1.2)
            obtain ⟨j, hj, e2⟩ := nI_of2 (M := 2) (n := 2) (by decide) c2.1 (i_nlt c2.2)
            obtain ⟨s, hs, e3⟩ := nI_of2 (M := 2) (n := 2) (by decide) c3.1 (i_nlt c3.2)
            refine Or.inl ⟨t, j, s, x, y, ⟨by omega, by omega, by omega, ⟨hx, gx⟩, hy, gy⟩, ⟨e1, e2, e3, e4, e5⟩, ?_⟩
            rw [q5, cl_some, if_neg n1, if_pos (by rw [e1]; exact ib_nI (by omega) (by omega)), show a1.toNatClampNeg = t from by rw [e1]; exact nI_clamp (by omega)]
          · rw [q5, cl_some, if_pos rfl]
            exact Or.inr ⟨Or.inr (Or.inr (Or.inr (Or.inr b5))), rfl⟩
        · rw [q4, cl_some, if_pos rfl]
          exact Or.inr ⟨Or.inr (Or.inr (Or.inr (Or.inl b4))), rfl⟩
      · rw [if_neg c3, if_pos rfl]
        exact Or.inr ⟨Or.inr (Or.inr (Or.inl (bw_no c3))), rfl⟩
    · rw [if_neg c2, if_pos rfl]
      exact Or.inr ⟨Or.inr (Or.inl (bw_no c2)), rfl⟩
  · rw [if_neg c1, if_pos rfl]
    exact Or.inr ⟨Or.inl (bw_no c1), rfl⟩
theorem i_1 {a : Int32} (h : ¬ a < 1) : ¬ a < 0 := fun h0 => h (by
  rw [Int32.lt_iff_toInt_lt] at h0 ⊢
  rw [show (0 : Int32).toInt = 0 from by decide] at h0
  rw [show (1 : Int32).toInt = 1 from by decide]
  omega)
theorem tk_M {F : Nat} (hF : 300 < F) {uM : St} (a1 a2 a3 a4 a5 : Int32) (h3 : uM.1 0 15 = 0) (hb : bd_t a1 a2 a3 a4 a5) : sp_Md_task F a1 a2 a3 a4 a5 uM = some (0, uM) := by
  have n1 : ¬ (1 : Int32) = 0 := by decide
  unfold sp_Md_task sp_Md_isTask
  rw [h3, if_pos rfl]
  by_cases c1 : a1 < 0
  · rw [if_pos c1, cl_some, if_pos rfl]
  rw [if_neg c1]
  by_cases c2 : (5 : Int32) < a1
  · rw [if_pos c2, cl_some, if_pos rfl]
  rw [if_neg c2, cl_some, if_neg n1]
  by_cases c3 : a2 < 0
  · rw [if_pos c3]
  rw [if_neg c3]
  by_cases c4 : (2 : Int32) < a2
  · rw [if_pos c4]
  rw [if_neg c4]
  by_cases c5 : a3 < 0
  · rw [if_pos c5]
  rw [if_neg c5]
  by_cases c6 : a3 ≤ (2 : Int32)
  · rw [if_pos c6]
    by_cases c7 : a4 < 1
    · rw [if_pos c7]
    rw [if_neg c7]
    by_cases c8 : (255 : Int32) < a4
    · rw [if_pos c8]
    rw [if_neg c8]
    by_cases c9 : a5 < 1
    · rw [if_pos c9]
    rw [if_neg c9]
    by_cases c10 : (255 : Int32) < a5
    · rw [if_pos c10]
    rw [if_neg c10]
    obtain ⟨x, hx, e4⟩ := nI_of2 (M := 255) (n := 255) (by decide) (i_1 c7) (i_nlt c8)
    obtain ⟨y, hy, e5⟩ := nI_of2 (M := 255) (n := 255) (by decide) (i_1 c9) (i_nlt c10)
    have px := pc_lt x
    have py := pc_lt y
    have Ex : sp_Md_count F a4 uM = some (nI (pc_n x), uM) := by rw [e4]; exact md_count (by omega) (by omega) uM
    have Ey : sp_Md_count F a5 uM = some (nI (pc_n y), uM) := by rw [e5]; exact md_count (by omega) (by omega) uM
    rw [Ex, cl_some]
    by_cases d1 : pc_n x ≤ 3
    · rw [if_neg (show ¬ (3 : Int32) < nI (pc_n x) from nI_nlt (a := 3) d1 (by omega)), Ey, cl_some]
      by_cases d2 : pc_n y ≤ 3
      · exfalso
        rcases hb with (h | h) | (h | h) | (h | h) | (h | h | ⟨x', q1, q2, q3⟩) | (h | h | ⟨y', q1, q2, q3⟩)
        · exact c1 h
        · exact c2 h
        · exact c3 h
        · exact c4 h
        · exact c5 h
        · exact i_lent c6 h
        · exact c7 h
        · exact c8 h
        · rw [e4] at q2
          have := (nI_eq (by omega) (by omega)).mp q2
          subst this
          omega
        · exact c9 h
        · exact c10 h
        · rw [e5] at q2
          have := (nI_eq (by omega) (by omega)).mp q2
          subst this
          omega
      · rw [if_neg (show ¬ nI (pc_n y) ≤ (3 : Int32) from nI_ge (a := 3) (by omega) (by omega))]
    · rw [if_pos (show (3 : Int32) < nI (pc_n x) from nI_lt (a := 3) (by omega) (by omega))]
  · rw [if_neg c6]
theorem ls_e {k x e : Nat} (h : e < (ls_n k x).length) : (ls_n k x).getD e 0 ≤ x := by
  have hm := gd_mem.mpr ⟨e, h, rfl⟩
  unfold ls_n at hm ⊢
  have := (List.mem_filter.mp hm).1
  rw [List.mem_range] at this
  omega
theorem rs_task {F : Nat} (hF : 300 < F) : RS_task RR F := by
  intro uC uM h a1 a2 a3 a4 a5
  have h' := h
  obtain ⟨df, jo, sp, is, os, rg, nn, th, vv, dd, fi, gv, on, p, mm, tt, ss, hS, hI, hT, ⟨hW, hWm, hD⟩, hV⟩ := h
  obtain ⟨S1, S2, S3, S4, S5, S6, S7, S8, S9, S10⟩ := hS
  cases on with
  | true =>
    refine ⟨0, uC, uM, ?_, ?_, h'⟩
    · unfold sp_CN_task; rw [S1, if_neg (show ¬ b_2 true = 0 from by decide)]
    · unfold sp_Md_task; rw [S2, if_neg (show ¬ b_2 true = 0 from by decide)]
  | false =>
    rcases tk_C (F := F) a1 a2 a3 a4 a5 S1 with ⟨t, j, s, x, y, ⟨ht, hj, hs, ⟨hx, gx⟩, hy, gy⟩, ⟨rfl, rfl, rfl, rfl, rfl⟩, E1⟩ | ⟨hb, E1⟩
    · obtain ⟨uC', q1, c1, ⟨c2, c3⟩, ⟨c4, c5, c6, c7, c8, c9⟩, ⟨c10, c11, c12, c13⟩, c14, ⟨c15, c16⟩, c17, c18⟩ := df_all (F := F) hF ht hj hs hx hy gx gy uC
      have e1 : sp_Md_isTask (nI t) uM = some (1, uM) := by
        unfold sp_Md_isTask
        rw [if_neg (nI_pos (by omega)), if_neg (show ¬ (5 : Int32) < nI t from nI_nlt (a := 5) (by omega) (by omega))]
      obtain ⟨uM', r1, m1, m2, m3, m4, ⟨m5, m6, m7, m8, m9, m10⟩, ⟨m11, m12, m13, m14⟩, m15, m16, m17⟩ := dm_all (F := F) hF ht hj hs hx hy gx gy uM S2 e1
      refine ⟨1, uC', uM', by rw [E1, q1, cl_some], r1, va_up df t true, va_up jo t j, va_up sp t s, va_up is t x, va_up os t y, va_up rg t 0, va_up nn t 1, va_up th t 1, va_up vv t 0, va_up dd t 0, fi, va_up gv t (fun _ => 0), false, p, mm, tt, ss, ?_, rr_I_fr hI (fun k _ _ => c1 k (by omega)) (fun k _ _ => m1 k (by omega)), fun r hr => ?_, ⟨fun r hr => ?_, fun r hr => ?_, fun r hr hdr => ?_⟩, rr_V0 hV⟩
      · unfold rr_S
        rw [c1 0 (by omega), c1 45 (by omega), c1 49 (by omega), m1 0 (by omega), m1 16 (by omega)]
        exact ⟨S1, S2, S3, S4, S5, S6, S7, S8, S9, S10⟩
      · obtain ⟨⟨f1, f2, f3⟩, b⟩ := hT r hr
        by_cases e : r = t
        · subst e
          simp only [va_up_self]
          rw [c3, m1 20 (by omega)]
          exact ⟨⟨f1, f2, f3⟩, fun _ => ⟨⟨c5, c6, c7, c8⟩, ⟨c10, m11, by omega, by omega⟩, ⟨c11, m12, by omega, by omega⟩, ⟨c12, m13, by omega⟩, ⟨c13, m14, by omega⟩, fun c hc => ⟨⟨(c14 c hc).1, (m15 c hc).1, by omega⟩, by rw [(c14 c hc).2.1]; exact (m15 c hc).2.1, by rw [(c14 c hc).2.2]; exact (m15 c hc).2.2⟩⟩⟩
        · simp only [va_up_ne _ _ e]
          rw [c1 (9 + 6 * r) (by omega), c1 (9 + 6 * r + 3) (by omega), c1 (9 + 6 * r + 4) (by omega), c1 (9 + 6 * r + 5) (by omega), m1 20 (by omega), m2 12 r (by omega) e, m2 13 r (by omega) e, m2 14 r (by omega) e, m2 15 r (by omega) e]
          refine ⟨⟨f1, f2, f3⟩, fun hdr => ?_⟩
          obtain ⟨d1, d2, d3, d4, d5, d6⟩ := b hdr
          refine ⟨d1, d2, d3, d4, d5, fun c hc => ?_⟩
          obtain ⟨g1, g2, g3⟩ := m4 (8 * r + c) (by omega)
          rw [g1, g2, g3]
          exact d6 c hc
      · by_cases e : r = t
        · subst e
          unfold lt_n lp_n
          simp only [va_up_self]
          rw [c2]
          refine ⟨(hW r hr).1, ?_, fun _ => ⟨⟨c9, by omega⟩, ⟨c15, (ft_use hx gx hj).1, fun i hi => ⟨c16 i hi, ?_⟩⟩, c17, (fp_use hy gy hs).1, fun i hi => ⟨c18 i hi, ?_⟩⟩⟩
          · rw [c4]; rfl
          · have := ls_e hi; omega
          · have := ls_e hi; omega
        · unfold lt_n lp_n
          simp only [va_up_ne _ _ e]
          rw [c1 (9 + 6 * r) (by omega), c1 (9 + 6 * r + 1) (by omega), c1 (9 + 6 * r + 2) (by omega)]
          exact hW r hr
      · by_cases e : r = t
        · subst e
          simp only [va_up_self]
          exact ⟨by rw [m5]; rfl, fun _ => ⟨m6, m7, m8, m9, m16, m17, m10⟩⟩
        · simp only [va_up_ne _ _ e]
          rw [m2 1 r (by omega) e, m2 2 r (by omega) e, m2 3 r (by omega) e, m2 4 r (by omega) e, m2 5 r (by omega) e, m2 8 r (by omega) e]
          obtain ⟨w1, w⟩ := hWm r hr
          refine ⟨w1, fun hdr => ?_⟩
          obtain ⟨w2, w3, w4, w5, w6, w7, w8⟩ := w hdr
          exact ⟨w2, w3, w4, w5, fun k hk => by rw [(m3 (3 * r + k) (by omega)).1]; exact w6 k hk, fun k hk => by rw [(m3 (3 * r + k) (by omega)).2]; exact w7 k hk, w8⟩
      · by_cases e : r = t
        · subst e
          simp only [va_up_self]
          exact ⟨hj, hs, ⟨hx, gx⟩, ⟨hy, gy⟩, by omega⟩
        · rw [va_up_ne _ _ e] at hdr
          simp only [va_up_ne _ _ e]
          exact hD r hr hdr
    · exact ⟨0, uC, uM, E1, tk_M hF a1 a2 a3 a4 a5 S2 hb, h'⟩
theorem rs_all : RS_all RR 20000 := ⟨rs_task (by omega), rs_region, rs_guard, rs_items, rs_launch (by omega), rs_cancel (by omega), rs_enabled (by omega), rs_fire (by omega), rs_start, rs_finish (by omega), rs_fail (by omega), rs_tick (by omega), rs_set, rs_variable, rs_marking, rs_item, rs_covers (by omega), rs_verdict (by omega)⟩
