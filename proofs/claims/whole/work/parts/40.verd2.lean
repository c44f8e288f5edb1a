section VERD
variable {df : Nat → Bool} {jo sp is os rg : Nat → Nat} {F : Nat}
theorem vj_loop {u : St} (hW : md_W df jo sp is os rg u) (hjo : ∀ t, t < 6 → df t = true → jo t < 3) : ∀ (n i : Nat), i ≤ 6 → 6 - i < n → (∀ t, t < i → ¬ (df t = true ∧ jo t = 2)) → ((∀ k, lp_Md_verdict_2 F k n (nI i) u = some (-1, u)) ∧ ∃ t, t < 6 ∧ df t = true ∧ jo t = 2) ∨ ((∃ z, ∀ k, lp_Md_verdict_2 F k n (nI i) u = k z u) ∧ ∀ t, t < 6 → ¬ (df t = true ∧ jo t = 2)) := by
  intro n
  induction n with
  | zero => intro i _ h; omega
  | succ n ih =>
    intro i hi hn hno
    by_cases hc : i = 6
    · subst hc
      refine Or.inr ⟨⟨nI 6, fun k => ?_⟩, hno⟩
      rw [lp_Md_verdict_2, if_pos (show (6 : Int32) ≤ nI 6 from by decide)]
    · obtain ⟨w1, w2⟩ := hW i (by omega)
      have e : ∀ k, lp_Md_verdict_2 F k (n + 1) (nI i) u = if df i = true ∧ jo i = 2 then some (-1, u) else lp_Md_verdict_2 F k n (nI (i + 1)) u := fun k => by
        conv => lhs; rw [lp_Md_verdict_2]
        rw [if_neg (show ¬ (6 : Int32) ≤ nI i from nI_ge (b := 6) (by omega) (by omega)), if_pos (ib_nI (by omega) (by omega)), nI_clamp (by omega), w1, nI_1]
        by_cases hd : df i = true
        · have hj3 := hjo i (by omega) hd
          rw [if_pos hd, if_neg (by decide), if_pos (ib_nI (by omega) (by omega)), (w2 hd).1]
          by_cases h2 : jo i = 2
          · rw [if_pos (show nI (jo i) = (2 : Int32) from by rw [h2]; rfl), if_pos ⟨hd, h2⟩]
          · rw [if_neg (show ¬ nI (jo i) = (2 : Int32) from fun e => h2 ((nI_eq (b := 2) (by omega) (by omega)).mp e)), if_neg (fun h => h2 h.2)]
        · rw [if_neg hd, if_pos rfl, if_neg (fun h => hd h.1)]
      by_cases hb : df i = true ∧ jo i = 2
      · exact Or.inl ⟨fun k => by rw [e k, if_pos hb], i, by omega, hb⟩
      · rcases ih (i + 1) (by omega) (by omega) (fun t ht => by
          by_cases et : t = i
          · subst et; exact hb
          · exact hno t (by omega)) with ⟨h1, h2⟩ | ⟨⟨z, h1⟩, h2⟩
        · exact Or.inl ⟨fun k => by rw [e k, if_neg hb]; exact h1 k, h2⟩
        · exact Or.inr ⟨⟨z, fun k => by rw [e k, if_neg hb]; exact h1 k⟩, h2⟩
theorem vc_loop {u : St} {c : Nat} {qm : Nat → Nat} (v1 v3 : Int32) (hc : c ≤ 16384) (hu : u.1 0 26 = nI c) (hq : ∀ j, j < c → u.1 22 j = nI (qm j) ∧ qm j < 16384) : ∀ (n i : Nat) (e : Bool), i ≤ c → c - i < n → ∃ e' : Bool, ∃ z, (∀ k, lp_Md_verdict_69 F v1 v3 k n (if e = true then 1 else 0) (nI i) u = k (if e' = true then 1 else 0) z u) ∧ (e' = true ↔ e = true ∧ ∀ j, i ≤ j → j < c → (qm j &&& 2 = 0 ∨ qm j = 2)) := by
  intro n
  induction n with
  | zero => intro i e _ h; omega
  | succ n ih =>
    intro i e hi hn
    by_cases he : i = c
    · subst he
      refine ⟨e, nI i, fun k => ?_, ⟨fun h => ⟨h, fun j h1 h2 => by omega⟩, fun h => h.1⟩⟩
      rw [lp_Md_verdict_69, hu, if_pos (nI_le (Nat.le_refl _) (by omega))]
    · obtain ⟨e22, lq⟩ := hq i (by omega)
      have hle : qm i &&& 2 ≤ qm i := Nat.and_le_left
      have es : ∀ k, lp_Md_verdict_69 F v1 v3 k (n + 1) (if e = true then 1 else 0) (nI i) u = lp_Md_verdict_69 F v1 v3 k n (if (e && decide (qm i &&& 2 = 0 ∨ qm i = 2)) = true then 1 else 0) (nI (i + 1)) u := fun k => by
        conv => lhs; rw [lp_Md_verdict_69]
        rw [hu, if_neg (nI_ge (by omega) (by omega)), nI_1]
        cases e with
        | false => rw [if_neg (show ¬ (false = true) from by decide), if_pos rfl]; rfl
        | true =>
          rw [if_pos (show true = true from rfl), if_neg (by decide), if_pos (ib_nI (by omega) (by omega)), nI_clamp (by omega), e22, show (nI (qm i) &&& (2 : Int32)) = nI (qm i &&& 2) from by rw [show (2 : Int32) = nI 2 from rfl, nx_and], Bool.true_and]
          by_cases h1 : qm i &&& 2 = 0
          · rw [if_pos ((nI_z (by omega)).mpr h1), decide_eq_true (Or.inl h1), if_pos rfl]
          · rw [if_neg (fun e => h1 ((nI_z (by omega)).mp e)), if_pos (ib_nI (by omega) (by omega))]
            by_cases h2 : qm i = 2
            · rw [if_pos (show nI (qm i) = (2 : Int32) from by rw [h2]; rfl), decide_eq_true (Or.inr h2), if_pos rfl]
            · rw [if_neg (show ¬ nI (qm i) = (2 : Int32) from fun e => h2 ((nI_eq (b := 2) (by omega) (by omega)).mp e)), decide_eq_false (fun h => h.elim h1 h2)]; rfl
      obtain ⟨e', z, h1, h2⟩ := ih (i + 1) (e && decide (qm i &&& 2 = 0 ∨ qm i = 2)) (by omega) (by omega)
      refine ⟨e', z, fun k => by rw [es k]; exact h1 k, ?_⟩
      rw [h2, Bool.and_eq_true, decide_eq_true_eq]
      constructor
      · rintro ⟨⟨a, b⟩, d⟩
        refine ⟨a, fun j h3 h4 => ?_⟩
        by_cases ej : j = i
        · subst ej; exact b
        · exact d j (by omega) h4
      · rintro ⟨a, d⟩
        exact ⟨⟨a, d i (Nat.le_refl _) (by omega)⟩, fun j h3 h4 => d j (by omega) h4⟩
theorem vb_loop {u : St} (hF : 16500 < F) (hD : ds_ok df jo sp is os rg) (hW : md_W df jo sp is os rg u) {c : Nat} {qm : Nat → Nat} (v1 v2 : Int32) (hc : c ≤ 16384) (hu : u.1 0 26 = nI c) (hq : ∀ j, j < c → u.1 22 j = nI (qm j) ∧ qm j < 16384) : ∀ (n i : Nat) (b : Bool), i ≤ 6 → 6 - i < n → ∃ b' : Bool, ∃ z, (∀ k, lp_Md_verdict_120 F v1 v2 k n (if b = true then 1 else 0) (nI i) u = k (if b' = true then 1 else 0) z u) ∧ (b' = true ↔ b = true ∧ ∀ t, i ≤ t → t < 6 → df t = true → ∃ l, l < c ∧ ∃ j, j < (lt_n jo is t).length ∧ mk_sub ((lt_n jo is t).getD j 0) (qm l)) := by
  intro n
  induction n with
  | zero => intro i b _ h; omega
  | succ n ih =>
    intro i b hi hn
    by_cases he : i = 6
    · subst he
      refine ⟨b, nI 6, fun k => ?_, ⟨fun h => ⟨h, fun j h1 h2 => by omega⟩, fun h => h.1⟩⟩
      rw [lp_Md_verdict_120, if_pos (show (6 : Int32) ≤ nI 6 from by decide)]
    · have hcan : ∃ g : Bool, (g = true ↔ (df i = true → ∃ l, l < c ∧ ∃ j, j < (lt_n jo is i).length ∧ mk_sub ((lt_n jo is i).getD j 0) (qm l))) ∧ ∀ k, lp_Md_verdict_120 F v1 v2 k (n + 1) (if b = true then 1 else 0) (nI i) u = lp_Md_verdict_120 F v1 v2 k n (if (b && g) = true then 1 else 0) (nI (i + 1)) u := by
        have hs : ∀ k, lp_Md_verdict_120 F v1 v2 k (n + 1) (if false = true then 1 else 0) (nI i) u = lp_Md_verdict_120 F v1 v2 k n (0 : Int32) (nI (i + 1)) u := fun k => by
          conv => lhs; rw [lp_Md_verdict_120]
          rw [if_neg (show ¬ (6 : Int32) ≤ nI i from nI_ge (b := 6) (by omega) (by omega)), nI_1, if_neg (show ¬ (false = true) from by decide), if_pos rfl]
        have ht : ∀ k, lp_Md_verdict_120 F v1 v2 k (n + 1) (if true = true then 1 else 0) (nI i) u = (if df i = true then cl_k (sp_Md_canBegin F (nI i) u) (fun r17 u18 => (if r17 = 0 then (lp_Md_verdict_120 F v1 v2 k n (0 : Int32) (nI (i + 1)) u18) else (lp_Md_verdict_120 F v1 v2 k n (1 : Int32) (nI (i + 1)) u18))) else lp_Md_verdict_120 F v1 v2 k n (1 : Int32) (nI (i + 1)) u) := fun k => by
          conv => lhs; rw [lp_Md_verdict_120]
          rw [if_neg (show ¬ (6 : Int32) ≤ nI i from nI_ge (b := 6) (by omega) (by omega)), nI_1, if_pos (show true = true from rfl), if_neg (by decide), if_pos (ib_nI (by omega) (by omega)), nI_clamp (by omega), (hW i (by omega)).1]
          by_cases hd : df i = true
          · rw [if_pos hd, if_neg (by decide), if_pos hd]
          · rw [if_neg hd, if_pos rfl, if_neg hd]
        by_cases hd : df i = true
        · obtain ⟨r, c1, c2⟩ := cb_2 (F := F) (by omega) hD hW (show i < 6 by omega) hd hc hu hq F 0 (by omega) (by omega) (fun l hl => by omega)
          have c1 : sp_Md_canBegin F (nI i) u = some (r, u) := c1
          rcases c2 with ⟨e, h⟩ | ⟨e, h⟩
          · refine ⟨true, ⟨fun _ _ => h, fun _ => rfl⟩, fun k => ?_⟩
            cases b with
            | false => rw [hs k]; rfl
            | true => rw [ht k, if_pos hd, c1, cl_some, e, if_neg (by decide)]; rfl
          · refine ⟨false, ⟨(fun h => nomatch h), fun g => ?_⟩, fun k => ?_⟩
            · obtain ⟨l, h1, h2⟩ := g hd
              exact absurd h2 (h l h1)
            · cases b with
              | false => rw [hs k]; rfl
              | true => rw [ht k, if_pos hd, c1, cl_some, e, if_pos rfl]; rfl
        · refine ⟨true, ⟨fun _ h => absurd h hd, fun _ => rfl⟩, fun k => ?_⟩
          cases b with
          | false => rw [hs k]; rfl
          | true => rw [ht k, if_neg hd]; rfl
      obtain ⟨g, hg, es⟩ := hcan
      obtain ⟨b', z, h1, h2⟩ := ih (i + 1) (b && g) (by omega) (by omega)
      refine ⟨b', z, fun k => by rw [es k]; exact h1 k, ?_⟩
      rw [h2, Bool.and_eq_true, hg]
      constructor
      · rintro ⟨⟨a, b⟩, d⟩
        refine ⟨a, fun t h3 h4 h5 => ?_⟩
        by_cases ej : t = i
        · subst ej; exact b h5
        · exact d t (by omega) h4 h5
      · rintro ⟨a, d⟩
        exact ⟨⟨a, fun h5 => d i (Nat.le_refl _) (by omega) h5⟩, fun t h3 h4 h5 => d t (by omega) h4 h5⟩
end VERD
