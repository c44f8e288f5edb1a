/-! can more inputs come: both sides -/
def bk_b (x : Nat) : Bool := ((List.range 3).all (fun k => bk_n x k == 0 || (List.range 8).any (fun c => x.testBit c && bk_n x k == 2 ^ c))) && (List.range 8).all (fun c => !x.testBit c || (List.range 3).any (fun k => bk_n x k == 2 ^ c))
theorem bk_all : ∀ x, x < 256 → go_n x = true → bk_b x = true := by decide +kernel
theorem bk_use {x : Nat} (hx : x < 256) (hg : go_n x = true) : (∀ k, k < 3 → bk_n x k ≠ 0 → ∃ c, c < 8 ∧ x.testBit c = true ∧ bk_n x k = 2 ^ c) ∧ ∀ c, c < 8 → x.testBit c = true → ∃ k, k < 3 ∧ bk_n x k = 2 ^ c := by
  have h := bk_all x hx hg
  unfold bk_b at h
  simp only [Bool.and_eq_true, List.all_eq_true, List.any_eq_true, List.mem_range, Bool.or_eq_true, beq_iff_eq, Bool.not_eq_true'] at h
  refine ⟨fun k hk h0 => ?_, fun c hc hb => ?_⟩
  · rcases h.1 k hk with e | ⟨c, h1, h2, h3⟩
    · exact absurd e h0
    · exact ⟨c, h1, h2, h3⟩
  · rcases h.2 c hc with e | ⟨k, h1, h2⟩
    · rw [hb] at e; cases e
    · exact ⟨k, h1, h2⟩
section MORE
variable {df : Nat → Bool} {jo sp is os rg : Nat → Nat} {F : Nat}
/-- by coming in at c the task t's inputs could still grow -/
def mo_c (df : Nat → Bool) (jo sp is os rg : Nat → Nat) (p t c : Nat) : Prop := (is t).testBit c = true ∧ p.testBit c = false ∧ mv_cov (nw_st (nI t) df rg (fun t => (lt_n jo is t).length) (fun t i => (lt_n jo is t).getD i 0) (fun t => (lp_n sp os t).length) (fun t i => (lp_n sp os t).getD i 0)) p ((p &&& is t) ||| 2 ^ c)
theorem mo_C (hF : 16500 < F) {p t : Nat} (hp : p < 16384) (hi : is t < 256) : ∀ (n c : Nat) (u : St), c ≤ 8 → 8 - c < n → cn_W df jo sp is os rg u → u.1 0 4 = nI p → ∃ r u', lp_CN_canMoreInputsCome_15 F (nI t) (nI (is t)) (fun (v3_8 : Int32) (u9 : St) => (some ((0 : Int32), u9))) n (nI c) u = some (r, u') ∧ fr_s u u' ∧ ((r = 1 ∧ ∃ x, x < 8 ∧ mo_c df jo sp is os rg p t x) ∨ (r = 0 ∧ ∀ x, c ≤ x → x < 8 → ¬ mo_c df jo sp is os rg p t x)) := by
  intro n
  induction n with
  | zero => intro c u _ h; omega
  | succ n ih =>
    intro c u hc hn hW hu
    rw [lp_CN_canMoreInputsCome_15]
    by_cases he : c = 8
    · subst he
      rw [if_pos (show (8 : Int32) ≤ nI 8 from by decide)]
      exact ⟨0, u, rfl, fr_s_rf u, Or.inr ⟨rfl, fun x h1 h2 => by omega⟩⟩
    · rw [if_neg (show ¬ (8 : Int32) ≤ nI c from nI_ge (b := 8) (by omega) (by omega)), hu]
      simp only [nm_k]
      rw [nx_nd, sh_one (by omega), nx_and, nx_and, nx_or, nI_1]
      have hbits : mk_nd (is t) p &&& 2 ^ c = if (is t).testBit c = true ∧ p.testBit c = false then 2 ^ c else 0 := by
        apply Nat.eq_of_testBit_eq
        intro i
        rw [Nat.testBit_and, mk_ndb, Nat.testBit_two_pow]
        by_cases hic : c = i
        · subst hic
          cases h1 : (is t).testBit c <;> cases h2 : p.testBit c <;> simp [Nat.testBit_two_pow_self]
        · rw [decide_eq_false hic, Bool.and_false]
          split
          · rw [Nat.testBit_two_pow, decide_eq_false hic]
          · rw [Nat.zero_testBit]
      rw [hbits]
      have h2c : 2 ^ c < 256 := Nat.pow_lt_pow_right (n := 8) (by omega) (by omega)
      by_cases hb : (is t).testBit c = true ∧ p.testBit c = false
      · rw [if_pos hb, if_neg (fun e => by
          have := (nI_z (by omega)).mp e
          have h0 : 0 < 2 ^ c := Nat.two_pow_pos c
          omega)]
        have hle : p &&& is t ≤ p := Nat.and_le_left
        obtain ⟨r, u', c1, c2, c3⟩ := cv_find (F := F) (wo := nI t) (target := (p &&& is t) ||| 2 ^ c) (sought := p) hW (or_lt14 (by omega) (by omega)) hp hF
        rw [c1, cl_some]
        rcases c3 with ⟨e, hcov⟩ | ⟨e, hno, _⟩
        · rw [e, if_neg (show ¬ (1 : Int32) = 0 from by decide)]
          exact ⟨1, u', rfl, c2, Or.inl ⟨rfl, c, by omega, hb.1, hb.2, hcov⟩⟩
        · rw [e, if_pos rfl]
          obtain ⟨r2, u2, g1, g2, g3⟩ := ih (c + 1) u' (by omega) (by omega) (nw_fr2 hW (fun k _ _ => c2.1 k (by omega) (by omega))) (by rw [c2.1 0 (by omega) (by omega)]; exact hu)
          refine ⟨r2, u2, g1, fr_s_tr c2 g2, g3.elim Or.inl (fun ⟨a, b⟩ => Or.inr ⟨a, fun x h1 h2 => ?_⟩)⟩
          by_cases ex : x = c
          · subst ex; exact fun h => hno h.2.2
          · exact b x (by omega) h2
      · rw [if_neg hb, if_pos (show nI 0 = 0 from rfl)]
        obtain ⟨r2, u2, g1, g2, g3⟩ := ih (c + 1) u (by omega) (by omega) hW hu
        refine ⟨r2, u2, g1, g2, g3.elim Or.inl (fun ⟨a, b⟩ => Or.inr ⟨a, fun x h1 h2 => ?_⟩)⟩
        by_cases ex : x = c
        · subst ex; exact fun h => hb ⟨h.1, h.2.1⟩
        · exact b x (by omega) h2
end MORE
