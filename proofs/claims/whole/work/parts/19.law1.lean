/-! THE CLAIM OUT OF ONE WALK OF THE LAW'S BODY. Your part is whole_start (and what it stands on); all else here is the same for every law, but numbers. -/
def R_law : String := "CaseNetLaw"
def lw_P (b : Addr) (xs : List Int32) (args : Array Value) (s : State) : Prop := args = #[.ref b] ∧ s.IntsAt b xs ∧ xs.length ≤ 3072 ∧ (Jvm.Cond.and given_1 narrow_1).before args s = true
def lw_Q (_ : Array Value) (s : State) (o : Outcome) (t : State) : Prop := o = .returned (some (.int 1)) ∧ Framed s o t [] 600000 7302250
def lw_Z (below : List Frame) (a : Array Value) (s : State) : State → Prop := fun t => ∃ o, t.status = .running ∧ Ended t below o ∧ lw_Q a s o t
/-- the law's own end, with 1 on the stack, nothing written that was there before, its room as the claim has it -/
theorem lw_ret {p : Program} {l : Launch} {e : Env} {s : State} {m : MethodId} {below : List Frame} {meth : Method} {c : Code} {b : Nat} (hx : p.tables.exec = Jvm.exec) (hb : c.code = code) (hr : meth.sig.returnType = ret) (hlocks : meth.locks = false) {pc : Nat} {H : Heap} {ls : Array Slot} (hdg : decode code pc = .ok (.ireturn, 1)) : W p l e room_1 s m #[Value.ref b] below meth c H [] 600000 7302250 (lw_Z below #[Value.ref b] s) (F0 m pc ls [.int 1]) := by
  intro T hT X
  obtain ⟨fs, hret, hrun, hended, hW, hframe⟩ := X.leave (v := some (.int 1)) (hlocks := hlocks) (fun h => by rw [hr] at h; cases h)
  have hmeth' : T.vm.method? m = some meth := X.method'
  refine ⟨T.setFrames fs, ?_, .returned (some (.int 1)), hrun, hended, rfl, ⟨_, rfl⟩, hW, hframe⟩
  jvm_step X.here [X.here.top, hx, hb, hdg, hmeth', hr, ret, narrow_b1]
  (try refine ⟨rfl, ?_⟩); (try refine ⟨rfl, ?_⟩)
  first | (intro acts; rw [hret _ acts rfl rfl rfl]) | rw [hret _ _ rfl rfl rfl]
  exact Steps.refl _
/-- what holds at the law's entry: the machine, the code, the tables' words (any of lw_tbl by 'hts w (by decide +kernel)'), the script of L ints xs at the cell b, what the Statement gives of the start (any of its parts by flat_of_before) -/
def lw_At (p : Program) (s : State) (m : MethodId) (meth : Method) (c : Code) (b L : Nat) (xs : Nat → Int32) : Prop :=
  p.tables.exec = Jvm.exec ∧ c.code = code ∧ meth.sig.returnType = ret ∧ c.maxLocals = 4 ∧ s.vm.findClass R_law = some m.cls ∧ (∀ w ∈ lw_tbl, w.before #[Value.ref b] s = true) ∧ va_X b L xs s s.heap ∧ b < s.heap.size ∧ meth.locks = false ∧ (Jvm.Cond.and given_1 narrow_1).before #[Value.ref b] s = true
/-! the law: two worlds side by side -/
theorem kt_pref {A0 : Nat → Prop} {D : va_G} {cl : List vw_C} {wc suf : va_W} {H : Heap} (hP : va_P D cl (wc ++ suf) H) (hD : va_D A0 (wc ++ suf)) : va_P D cl wc H ∧ va_D A0 wc := by
  have at' : ∀ (k : Nat) (q : Nat × va_E), wc[k]? = some q → (wc ++ suf)[k]? = some q := fun k q hq => by
    rw [List.getElem?_append_left (List.getElem?_eq_some_iff.mp hq).1]; exact hq
  exact ⟨fun k q hq => hP k q (at' k q hq), fun i j x y hx hy h => hD.1 i j x y (at' i x hx) (at' j y hy) h, fun k q hq => hD.2 k q (at' k q hq)⟩
theorem kt_jl {A0 : Nat → Prop} {D : va_G} {cl : List vw_C} {suf wc w1 : va_W} {H H1 : Heap} (hP : va_P D cl (wc ++ suf) H) (hD : va_D A0 (wc ++ suf)) (hk : ∀ q : Nat, q < H.size → ¬ va_A wc H.size q → H1[q]? = H[q]?) (hF : ∀ q, va_A wc H.size q → A0 q) (hP1 : va_P D cl w1 H1) (hD1 : va_D (va_A wc H.size) w1) : va_P D cl (w1 ++ suf) H1 ∧ va_D A0 (w1 ++ suf) := by
  have at' : ∀ (k : Nat), (wc ++ suf)[wc.length + k]? = suf[k]? := fun k => by
    rw [List.getElem?_append_right (by omega)]; simp
  have apart : ∀ (k : Nat) (q : Nat × va_E), suf[k]? = some q → q.1 < H.size ∧ ¬ va_A wc H.size q.1 := by
    intro k q hq
    have h2 : (wc ++ suf)[wc.length + k]? = some q := by rw [at']; exact hq
    have hl := (hP _ q h2).lt
    refine ⟨hl, fun h => ?_⟩
    rcases h with ⟨k2, e, h⟩ | h
    · have hlt := (List.getElem?_eq_some_iff.mp h).1
      have h4 : (wc ++ suf)[k2]? = some (q.1, e) := by rw [List.getElem?_append_left hlt]; exact h
      have hij := hD.1 _ _ q (q.1, e) h2 h4 rfl
      omega
    · omega
  obtain ⟨hPs, hDs⟩ := kt_suf hP hD
  have hPs1 : va_P D cl suf H1 := fun k q hq => (hPs k q hq).kept (hk q.1 (apart k q hq).1 (apart k q hq).2)
  refine ⟨va_P.app hP1 hPs1, va_D.app (hD1.weaken (fun k q _ h => hF q.1 h)) hDs (fun i j x y hx hy hxy => ?_)⟩
  exact (apart j y hy).2 (by rw [← hxy]; exact hD1.2 i x hx)
section LWC
variable {p : Program} {l : Launch} {e : Env} {R : Room} {s : State} {m : MethodId} {args : Array Value} {below : List Frame} {meth : Method} {c : Code} {H : Heap} {locs : List Loc} {cells slots : Nat} {Q : State → Prop} {cc bytes : ByteArray} {nL maxL index n pc : Nat} {Ts ws : List Cond} {own C : String} {T : u_T} {N ci : Nat} {D : va_G} {cl : List vw_C} {lay : List ly_E} {ad : Nat → Nat} {cA : Nat → ClassId} {A : Nat → Prop} {u : St} {ls : Array Slot} {rest st As : List Value} {y : MethodName} {ret : Option FieldType} {rm : Room} {Zs : (Nat → Prop) → State → Heap → Prop} {av : (Nat → Nat) → List Value} {w2 : va_W} {post : Int32 → St → Prop}
theorem lw_cl (hZ : ly_Zok Zs) (fx : CallFix p m c cc nL s args Ts own) (hk : ly_K D cl lay cA s) (hz : Zs A s s.heap) (hA : ∀ q, s.heap.size ≤ q → A q) (hP : va_P D cl (ly_W lay ad cA u ++ w2) H) (hD : va_D A (ly_W lay ad cA u ++ w2)) (hS : va_S A s.heap H locs) (hM : ly_Mi Zs cl lay l y ws rm av u post) (cw : CallW R s args own C index y bytes maxL ret ws rm 0 0 n) (q0 : Nat) {fs : List (Option Nat)} (he : lay[q0]? = some (.inl (ci, fs))) (hc : cl[ci]? = some (C, T, N)) (hav : av ad = .ref (ad q0) :: As) (hn : As.length = n) (hsz : ls.size = nL) (hst : st = As.reverse ++ .ref (ad q0) :: rest) (hcat : (rest.map fun v => v.category).sum ≤ 8) (hdg : decode cc pc = .ok (.invokevirtual index, 3)) (hcs : cells ≤ R.cells) (hss : slots ≤ R.slots)
    (kk : ∀ (r : Int32) (u1 : St) (H1 : Heap) (locs1 : List Loc), post r u1 → va_P D cl (ly_W lay ad cA u1 ++ w2) H1 → va_D A (ly_W lay ad cA u1 ++ w2) → va_S A s.heap H1 locs1 → W p l e R s m args below meth c H1 locs1 cells slots Q (F0 m (pc + 3) ls (.int r :: rest))) : W p l e R s m args below meth c H locs cells slots Q (F0 m pc ls st) := by
  subst hst
  have hw : ly_G D cl lay ad cA A s.heap u H locs := ⟨(kt_pref hP hD).1, (kt_pref hP hD).2, hS⟩
  have hfr := ly_fr hw hA
  refine va_calli (va_runV (As := As) (rest := rest) fx (hM D ad cA H.size) cw ⟨ly_blind hZ, va_recv hk.1 hw.1 hc (ly_at he), ?_⟩ rfl hn hsz rfl (lv_room hcat) hdg ⟨hcs, hss⟩) hS (fun q _ h => hfr q h) hfr ?_
  · rw [← hav]; exact ly_pre hZ hk hz hw hA
  · intro r u1 t H1 locs1 ht hvm hp hB _ hk1 hS1
    obtain ⟨hP1, hK1, hD1⟩ := hB
    rw [ht] at hP1
    obtain ⟨h1, h2⟩ := kt_jl hP hD hk1 hfr hP1 hD1
    exact kk r u1 H1 locs1 hp h1 h2 hS1
theorem lw_cr (hZ : ly_Zok Zs) (fx : CallFix p m c cc nL s args Ts own) (hk : ly_K D cl lay cA s) (hz : Zs A s s.heap) (hA : ∀ q, s.heap.size ≤ q → A q) (hP : va_P D cl (w2 ++ ly_W lay ad cA u) H) (hD : va_D A (w2 ++ ly_W lay ad cA u)) (hS : va_S A s.heap H locs) (hM : ly_Mi Zs cl lay l y ws rm av u post) (cw : CallW R s args own C index y bytes maxL ret ws rm 0 0 n) (q0 : Nat) {fs : List (Option Nat)} (he : lay[q0]? = some (.inl (ci, fs))) (hc : cl[ci]? = some (C, T, N)) (hav : av ad = .ref (ad q0) :: As) (hn : As.length = n) (hsz : ls.size = nL) (hst : st = As.reverse ++ .ref (ad q0) :: rest) (hcat : (rest.map fun v => v.category).sum ≤ 8) (hdg : decode cc pc = .ok (.invokevirtual index, 3)) (hcs : cells ≤ R.cells) (hss : slots ≤ R.slots)
    (kk : ∀ (r : Int32) (u1 : St) (H1 : Heap) (locs1 : List Loc), post r u1 → va_P D cl (w2 ++ ly_W lay ad cA u1) H1 → va_D A (w2 ++ ly_W lay ad cA u1) → va_S A s.heap H1 locs1 → W p l e R s m args below meth c H1 locs1 cells slots Q (F0 m (pc + 3) ls (.int r :: rest))) : W p l e R s m args below meth c H locs cells slots Q (F0 m pc ls st) := by
  subst hst
  have hw : ly_G D cl lay ad cA A s.heap u H locs := ⟨(kt_suf hP hD).1, (kt_suf hP hD).2, hS⟩
  have hfr := ly_fr hw hA
  refine va_calli (va_runV (As := As) (rest := rest) fx (hM D ad cA H.size) cw ⟨ly_blind hZ, va_recv hk.1 hw.1 hc (ly_at he), ?_⟩ rfl hn hsz rfl (lv_room hcat) hdg ⟨hcs, hss⟩) hS (fun q _ h => hfr q h) hfr ?_
  · rw [← hav]; exact ly_pre hZ hk hz hw hA
  · intro r u1 t H1 locs1 ht hvm hp hB _ hk1 hS1
    obtain ⟨hP1, hK1, hD1⟩ := hB
    rw [ht] at hP1
    obtain ⟨h1, h2⟩ := kt_jn hP hD hk1 hfr hP1 hD1
    exact kk r u1 H1 locs1 hp h1 h2 hS1
end LWC
theorem lw_ltN {L k : Nat} (hL : L ≤ 3072) (hk : 6 * k ≤ L) (h : ¬ (nI L - 6 < nI (6 * k))) : 6 * k + 6 ≤ L := by
  have e : nI L - 6 = nI L - nI 6 := rfl
  rw [e, Int32.lt_iff_toInt_lt, pk_sub_toInt (by omega) (by omega), nI_toInt (by omega)] at h
  omega
theorem lw_ix {L k : Nat} (hL : L ≤ 3072) (j : Nat) (h : 6 * k + j < L) : vp_in (nI (6 * k) + nI j) L := by
  rw [nI_add]; exact vp_in_nI h (by omega)
theorem ts_o18 {x : Int32} (h : ∀ j, j < 18 → ¬ x = nI j) : x.toInt < 0 ∨ 17 < x.toInt := by
  rcases Int.lt_or_le x.toInt 0 with h0 | h0
  · exact Or.inl h0
  · rcases Int.lt_or_le 17 x.toInt with h1 | h1
    · exact Or.inr h1
    · exfalso
      obtain ⟨j, hj⟩ : ∃ j : Nat, x.toInt = (j : Int) := ⟨x.toInt.toNat, by omega⟩
      exact h j (by omega) (Int32.toInt_inj.mp (by rw [hj, nI_toInt (by omega)]))
theorem ar_c {cA : ClassId} {n : Nat} {f g : Nat → Value} (h : ∀ j, j < n → f j = g j) : arrV cA n f = arrV cA n g := by
  unfold arrV
  have : (fun j : Fin n => f j.val) = (fun j : Fin n => g j.val) := funext fun j => h j.1 j.2
  rw [this]
theorem va_rep {D : va_G} {cl : List vw_C} {ws : va_W} {H : Heap} {k : Nat} {q : Nat × va_E} (h : va_P D cl ws H) (hq : va_at D cl q H) : va_P D cl (ws.set k q) H := by
  intro i x hx
  by_cases hi : i = k
  · subst hi
    rcases Nat.lt_or_ge i ws.length with hl | hl
    · rw [List.getElem?_set_self hl] at hx
      exact Option.some.inj hx ▸ hq
    · rw [List.getElem?_eq_none (by simpa using hl)] at hx; cases hx
  · rw [List.getElem?_set_ne (fun e => hi e.symm)] at hx
    exact h i x hx
def ly_fz (ad : Nat → Nat) (u : St) (k : Nat) : Nat → List (Option Nat) → List Value
  | _, [] => []
  | j, f :: fs => ly_f ad u k j f :: ly_fz ad u k (j + 1) fs
theorem ly_fz_at (ad : Nat → Nat) (u : St) (k : Nat) : ∀ (fs : List (Option Nat)) (j i : Nat), (ly_fz ad u k j fs)[i]? = fs[i]?.map (ly_f ad u k (j + i))
  | [], _, _ => rfl
  | f :: fs, j, 0 => rfl
  | f :: fs, j, i + 1 => by
    show (ly_fz ad u k (j + 1) fs)[i]? = fs[i]?.map (ly_f ad u k (j + (i + 1)))
    rw [ly_fz_at ad u k fs (j + 1) i, show j + 1 + i = j + (i + 1) by omega]
theorem ly_fs_z (ad : Nat → Nat) (u : St) (k : Nat) (fs : List (Option Nat)) : ly_fs ad u k fs = ly_fz ad u k 0 fs := by
  apply List.ext_getElem?
  intro i
  rw [ly_fz_at, ly_fs, List.getElem?_mapIdx, Nat.zero_add]
theorem cv_by {D : va_G} {A : Nat → Prop} {H : Heap} {ws : va_W} {lay : List ly_E} {ad : Nat → Nat} {cA : Nat → ClassId} {u : St} (hP : va_P D clA ws H) (hD : va_D A ws) (h : ∀ (k : Nat) (e : ly_E), lay[k]? = some e → ∃ p, ws[k]? = some p ∧ p.1 = ad k ∧ (va_at D clA p H → va_at D clA (ly_cell ad cA u k e) H)) : va_P D clA (ly_W lay ad cA u) H ∧ va_D A (ly_W lay ad cA u) := by
  have h' : ∀ (k : Nat) (q : Nat × va_E), (ly_W lay ad cA u)[k]? = some q → ∃ p, ws[k]? = some p ∧ p.1 = q.1 ∧ (va_at D clA p H → va_at D clA q H) := by
    intro k q hq
    simp only [ly_W, List.getElem?_mapIdx] at hq
    cases he : lay[k]? with
    | none => rw [he] at hq; cases hq
    | some e =>
      rw [he] at hq
      have := Option.some.inj hq
      subst this
      exact h k e he
  refine ⟨fun k q hq => ?_, fun i j x y hx hy hxy => ?_, fun k q hq => ?_⟩
  · obtain ⟨p, h1, _, h3⟩ := h' k q hq
    exact h3 (hP k p h1)
  · obtain ⟨p, h1, h2, _⟩ := h' i x hx
    obtain ⟨p', h1', h2', _⟩ := h' j y hy
    exact hD.1 i j p p' h1 h1' (by rw [h2, h2', hxy])
  · obtain ⟨p, h1, h2, _⟩ := h' k q hq
    rw [← h2]; exact hD.2 k p h1
theorem cv_by2 {D : va_G} {A : Nat → Prop} {H : Heap} {pre ws : va_W} {lay : List ly_E} {ad : Nat → Nat} {cA : Nat → ClassId} {u : St} (hP : va_P D clA (pre ++ ws) H) (hD : va_D A (pre ++ ws)) (h : ∀ (k : Nat) (e : ly_E), lay[k]? = some e → ∃ p, ws[k]? = some p ∧ p.1 = ad k ∧ (va_at D clA p H → va_at D clA (ly_cell ad cA u k e) H)) : va_P D clA (pre ++ ly_W lay ad cA u) H ∧ va_D A (pre ++ ly_W lay ad cA u) := by
  obtain ⟨hP2, hD2⟩ := kt_suf hP hD
  obtain ⟨hP1, hD1⟩ := kt_pref hP hD
  obtain ⟨g1, g2⟩ := cv_by hP2 hD2 h
  refine ⟨va_P.app hP1 g1, va_D.app hD1 g2 (fun i j x y hx hy hxy => ?_)⟩
  have hy' : ∃ p, ws[j]? = some p ∧ p.1 = y.1 := by
    simp only [ly_W, List.getElem?_mapIdx] at hy
    cases he : lay[j]? with
    | none => rw [he] at hy; cases hy
    | some e =>
      rw [he] at hy
      have := Option.some.inj hy
      subst this
      obtain ⟨p, h1, h2, _⟩ := h j e he
      exact ⟨p, h1, h2⟩
  obtain ⟨p, h1, h2⟩ := hy'
  have hlt := (List.getElem?_eq_some_iff.mp hx).1
  have e1 : (pre ++ ws)[i]? = some x := by rw [List.getElem?_append_left hlt]; exact hx
  have e2 : (pre ++ ws)[pre.length + j]? = some p := by rw [List.getElem?_append_right (by omega)]; simpa using h1
  have := hD.1 i (pre.length + j) x p e1 e2 (by rw [h2, hxy])
  omega
theorem cv_o {D : va_G} {H : Heap} {ad : Nat → Nat} {cA : Nat → ClassId} {u : St} {k ci : Nat} {fs : List (Option Nat)} (h : va_at D clA (ad k, .inr (ci, ly_fz ad u k 0 fs)) H) : va_at D clA (ly_cell ad cA u k (.inl (ci, fs))) H := by
  show va_at D clA (ad k, .inr (ci, ly_fs ad u k fs)) H
  rw [ly_fs_z]; exact h
theorem cv_q {D : va_G} {H : Heap} {ad : Nat → Nat} {cA : Nat → ClassId} {u : St} {k n a : Nat} {c : ClassId} {E : String} {g f : Nat → Option Nat} (ha : a = ad k) (hc : c = cA k) (hf : ∀ j, j < n → f j = (g j).map ad) (h : va_at D clA (a, .inl (c, n, .inr (.inr (.inr (.inr f))))) H) : va_at D clA (ly_cell ad cA u k (.inr (.inr (.inr (E, n, g))))) H := by
  subst ha; subst hc
  refine Eq.trans (show H[ad k]? = some (arrV (cA k) n (fun j => va_rf (f j))) from h) ?_
  have e : arrV (cA k) n (fun j => va_rf (f j)) = arrV (cA k) n (fun j => va_rf ((g j).map ad)) := ar_c fun j hj => by rw [hf j hj]
  exact congrArg some e
