/-! THE CLAIM OUT OF ONE WALK OF THE LAW'S BODY. Your part is whole_start (and what it stands on); all else here is the same for every law, but numbers. -/
def R_law : String := "CaseNetLaw"
def lw_P (b : Addr) (xs : List Int32) (args : Array Value) (s : State) : Prop := args = #[.ref b] ∧ s.IntsAt b xs ∧ xs.length ≤ 3072 ∧ (Jvm.Cond.and given_1 narrow_1).before args s = true
def lw_Q (_ : Array Value) (s : State) (o : Outcome) (t : State) : Prop := o = .returned (some (.int 1)) ∧ Framed s o t [] 600000 7302250
def lw_Z (below : List Frame) (a : Array Value) (s : State) : State → Prop := fun t => ∃ o, t.status = .running ∧ Ended t below o ∧ lw_Q a s o t
/-- the law's own end, with 1 on the stack, nothing written that was there before, its room as the claim has it -/
theorem lw_ret {p : Program} {l : Launch} {e : Env} {s : State} {m : MethodId} {below : List Frame} {meth : Method} {c : Code} {b : Nat} (hx : p.tables.exec = Jvm.exec) (hb : c.code = code) (hr : meth.sig.returnType = ret) (hlocks : meth.locks = false) {pc : Nat} {H : Heap} {ls : Array Slot} (hdg : decode code pc = .ok (.ireturn, 1)) : W p l e room_1 s m #[Value.ref b] below meth c H [] 600000 7302250 (lw_Z below #[Value.ref b] s) (F0 m pc ls [.int 1]) := by
  intro T hT X
  obtain ⟨fs, hret, hrun, hended, hW, hframe⟩ := X.leave (v := some (.int 1)) (hlocks := hlocks) (fun h => by rw [hr] at h; cases h)
  have hmeth' : T.vm.method? m = some meth := X.method'
  refine ⟨T.setFrames fs, ?_, .returned (some (.int 1)), hrun, hended, rfl, ⟨_, rfl⟩, hW, hframe⟩
  jvm_step X.here [X.here.top, hx, hb, hdg, hmeth', hr, ret, narrow_b1]
  (try refine ⟨rfl, ?_⟩); (try refine ⟨rfl, ?_⟩)
  first | (intro acts; rw [hret _ acts rfl rfl rfl]) | rw [hret _ _ rfl rfl rfl]
  exact Steps.refl _
/-- what holds at the law's entry: the machine, the code, the tables' words (any of lw_tbl by 'hts w (by decide +kernel)'), the script of L ints xs at the cell b, what the Statement gives of the start (any of its parts by flat_of_before) -/
def lw_At (p : Program) (s : State) (m : MethodId) (meth : Method) (c : Code) (b L : Nat) (xs : Nat → Int32) : Prop :=
  p.tables.exec = Jvm.exec ∧ c.code = code ∧ meth.sig.returnType = ret ∧ c.maxLocals = 4 ∧ s.vm.findClass R_law = some m.cls ∧ (∀ w ∈ lw_tbl, w.before #[Value.ref b] s = true) ∧ va_X b L xs s s.heap ∧ b < s.heap.size ∧ meth.locks = false ∧ (Jvm.Cond.and given_1 narrow_1).before #[Value.ref b] s = true
/-! the law: two worlds side by side -/
theorem kt_pref {A0 : Nat → Prop} {D : va_G} {cl : List vw_C} {wc suf : va_W} {H : Heap} (hP : va_P D cl (wc ++ suf) H) (hD : va_D A0 (wc ++ suf)) : va_P D cl wc H ∧ va_D A0 wc := by
  have at' : ∀ (k : Nat) (q : Nat × va_E), wc[k]? = some q → (wc ++ suf)[k]? = some q := fun k q hq => by
    rw [List.getElem?_append_left (List.getElem?_eq_some_iff.mp hq).1]; exact hq
  exact ⟨fun k q hq => hP k q (at' k q hq), fun i j x y hx hy h => hD.1 i j x y (at' i x hx) (at' j y hy) h, fun k q hq => hD.2 k q (at' k q hq)⟩
theorem kt_jl {A0 : Nat → Prop} {D : va_G} {cl : List vw_C} {suf wc w1 : va_W} {H H1 : Heap} (hP : va_P D cl (wc ++ suf) H) (hD : va_D A0 (wc ++ suf)) (hk : ∀ q : Nat, q < H.size → ¬ va_A wc H.size q → H1[q]? = H[q]?) (hF : ∀ q, va_A wc H.size q → A0 q) (hP1 : va_P D cl w1 H1) (hD1 : va_D (va_A wc H.size) w1) : va_P D cl (w1 ++ suf) H1 ∧ va_D A0 (w1 ++ suf) := by
  have at' : ∀ (k : Nat), (wc ++ suf)[wc.length + k]? = suf[k]? := fun k => by
    rw [List.getElem?_append_right (by omega)]; simp
  have apart : ∀ (k : Nat) (q : Nat × va_E), suf[k]? = some q → q.1 < H.size ∧ ¬ va_A wc H.size q.1 := by
    intro k q hq
    have h2 : (wc ++ suf)[wc.length + k]? = some q := by rw [at']; exact hq
    have hl := (hP _ q h2).lt
    refine ⟨hl, fun h => ?_⟩
    rcases h with ⟨k2, e, h⟩ | h
    · have hlt := (List.getElem?_eq_some_iff.mp h).1
      have h4 : (wc ++ suf)[k2]? = some (q.1, e) := by rw [List.getElem?_append_left hlt]; exact h
      have hij := hD.1 _ _ q (q.1, e) h2 h4 rfl
      omega
    · omega
  obtain ⟨hPs, hDs⟩ := kt_suf hP hD
  have hPs1 : va_P D cl suf H1 := fun k q hq => (hPs k q hq).kept (hk q.1 (apart k q hq).1 (apart k q hq).2)
  refine ⟨va_P.app hP1 hPs1, va_D.app (hD1.weaken (fun k q _ h => hF q.1 h)) hDs (fun i j x y hx hy hxy => ?_)⟩
  exact (apart j y hy).2 (by rw [← hxy]; exact hD1.2 i x hx)
section LWC
variable {p : Program} {l : Launch} {e : Env} {R : Room} {s : State} {m : MethodId} {args : Array Value} {below : List Frame} {meth : Method} {c : Code} {H : Heap} {locs : List Loc} {cells slots : Nat} {Q : State → Prop} {cc bytes : ByteArray} {nL maxL index n pc : Nat} {Ts ws : List Cond} {own C : String} {T : u_T} {N ci : Nat} {D : va_G} {cl : List vw_C} {lay : List ly_E} {ad : Nat → Nat} {cA : Nat → ClassId} {A : Nat → Prop} {u : St} {ls : Array Slot} {rest st As : List Value} {y : MethodName} {ret : Option FieldType} {rm : Room} {Zs : (Nat → Prop) → State → Heap → Prop} {av : (Nat → Nat) → List Value} {w2 : va_W} {post : Int32 → St → Prop}
theorem lw_cl (hZ : ly_Zok Zs) (fx : CallFix p m c cc nL s args Ts own) (hk : ly_K D cl lay cA s) (hz : Zs A s s.heap) (hA : ∀ q, s.heap.size ≤ q → A q) (hP : va_P D cl (ly_W lay ad cA u ++ w2) H) (hD : va_D A (ly_W lay ad cA u ++ w2)) (hS : va_S A s.heap H locs) (hM : ly_Mi Zs cl lay l y ws rm av u post) (cw : CallW R s args own C index y bytes maxL ret ws rm 0 0 n) (q0 : Nat) {fs : List (Option Nat)} (he : lay[q0]? = some (.inl (ci, fs))) (hc : cl[ci]? = some (C, T, N)) (hav : av ad = .ref (ad q0) :: As) (hn : As.length = n) (hsz : ls.size = nL) (hst : st = As.reverse ++ .ref (ad q0) :: rest) (hcat : (rest.map fun v => v.category).sum ≤ 8) (hdg : decode cc pc = .ok (.invokevirtual index, 3)) (hcs : cells ≤ R.cells) (hss : slots ≤ R.slots)
    (kk : ∀ (r : Int32) (u1 : St) (H1 : Heap) (locs1 : List Loc), post r u1 → va_P D cl (ly_W lay ad cA u1 ++ w2) H1 → va_D A (ly_W lay ad cA u1 ++ w2) → va_S A s.heap H1 locs1 → W p l e R s m args below meth c H1 locs1 cells slots Q (F0 m (pc + 3) ls (.int r :: rest))) : W p l e R s m args below meth c H locs cells slots Q (F0 m pc ls st) := by
  subst hst
  have hw : ly_G D cl lay ad cA A s.heap u H locs := ⟨(kt_pref hP hD).1, (kt_pref hP hD).2, hS⟩
  have hfr := ly_fr hw hA
  refine va_calli (va_runV (As := As) (rest := rest) fx (hM D ad cA H.size) cw ⟨ly_blind hZ, va_recv hk.1 hw.1 hc (ly_at he), ?_⟩ rfl hn hsz rfl (lv_room hcat) hdg ⟨hcs, hss⟩) hS (fun q _ h => hfr q h) hfr ?_
  · rw [← hav]; exact ly_pre hZ hk hz hw hA
  · intro r u1 t H1 locs1 ht hvm hp hB _ hk1 hS1
    obtain ⟨hP1, hK1, hD1⟩ := hB
    rw [ht] at hP1
    obtain ⟨h1, h2⟩ := kt_jl hP hD hk1 hfr hP1 hD1
    exact kk r u1 H1 locs1 hp h1 h2 hS1
theorem lw_cr (hZ : ly_Zok Zs) (fx : CallFix p m c cc nL s args Ts own) (hk : ly_K D cl lay cA s) (hz : Zs A s s.heap) (hA : ∀ q, s.heap.size ≤ q → A q) (hP : va_P D cl (w2 ++ ly_W lay ad cA u) H) (hD : va_D A (w2 ++ ly_W lay ad cA u)) (hS : va_S A s.heap H locs) (hM : ly_Mi Zs cl lay l y ws rm av u post) (cw : CallW R s args own C index y bytes maxL ret ws rm 0 0 n) (q0 : Nat) {fs : List (Option Nat)} (he : lay[q0]? = some (.inl (ci, fs))) (hc : cl[ci]? = some (C, T, N)) (hav : av ad = .ref (ad q0) :: As) (hn : As.length = n) (hsz : ls.size = nL) (hst : st = As.reverse ++ .ref (ad q0) :: rest) (hcat : (rest.map fun v => v.category).sum ≤ 8) (hdg : decode cc pc = .ok (.invokevirtual index, 3)) (hcs : cells ≤ R.cells) (hss : slots ≤ R.slots)
    (kk : ∀ (r : Int32) (u1 : St) (H1 : Heap) (locs1 : List Loc), post r u1 → va_P D cl (w2 ++ ly_W lay ad cA u1) H1 → va_D A (w2 ++ ly_W lay ad cA u1) → va_S A s.heap H1 locs1 → W p l e R s m args below meth c H1 locs1 cells slots Q (F0 m (pc + 3) ls (.int r :: rest))) : W p l e R s m args below meth c H locs cells slots Q (F0 m pc ls st) := by
  subst hst
  have hw : ly_G D cl lay ad cA A s.heap u H locs := ⟨(kt_suf hP hD).1, (kt_suf hP hD).2, hS⟩
  have hfr := ly_fr hw hA
  refine va_calli (va_runV (As := As) (rest := rest) fx (hM D ad cA H.size) cw ⟨ly_blind hZ, va_recv hk.1 hw.1 hc (ly_at he), ?_⟩ rfl hn hsz rfl (lv_room hcat) hdg ⟨hcs, hss⟩) hS (fun q _ h => hfr q h) hfr ?_
  · rw [← hav]; exact ly_pre hZ hk hz hw hA
  · intro r u1 t H1 locs1 ht hvm hp hB _ hk1 hS1
    obtain ⟨hP1, hK1, hD1⟩ := hB
    rw [ht] at hP1
    obtain ⟨h1, h2⟩ := kt_jn hP hD hk1 hfr hP1 hD1
    exact kk r u1 H1 locs1 hp h1 h2 hS1
end LWC
theorem lw_ltN {L k : Nat} (hL : L ≤ 3072) (hk : 6 * k ≤ L) (h : ¬ (nI L - 6 < nI (6 * k))) : 6 * k + 6 ≤ L := by
  have e : nI L - 6 = nI L - nI 6 := rfl
  rw [e, Int32.lt_iff_toInt_lt, pk_sub_toInt (by omega) (by omega), nI_toInt (by omega)] at h
  omega
theorem lw_ix {L k : Nat} (hL : L ≤ 3072) (j : Nat) (h : 6 * k + j < L) : vp_in (nI (6 * k) + nI j) L := by
  rw [nI_add]; exact vp_in_nI h (by omega)
theorem ts_o18 {x : Int32} (h : ∀ j, j < 18 → ¬ x = nI j) : x.toInt < 0 ∨ 17 < x.toInt := by
  rcases Int.lt_or_le x.toInt 0 with h0 | h0
  · exact Or.inl h0
  · rcases Int.lt_or_le 17 x.toInt with h1 | h1
    · exact Or.inr h1
    · exfalso
      obtain ⟨j, hj⟩ : ∃ j : Nat, x.toInt = (j : Int) := ⟨x.toInt.toNat, by omega⟩
      exact h j (by omega) (Int32.toInt_inj.mp (by rw [hj, nI_toInt (by omega)]))
theorem ar_c {cA : ClassId} {n : Nat} {f g : Nat → Value} (h : ∀ j, j < n → f j = g j) : arrV cA n f = arrV cA n g := by
  unfold arrV
  have : (fun j : Fin n => f j.val) = (fun j : Fin n => g j.val) := funext fun j => h j.1 j.2
  rw [this]
theorem va_rep {D : va_G} {cl : List vw_C} {ws : va_W} {H : Heap} {k : Nat} {q : Nat × va_E} (h : va_P D cl ws H) (hq : va_at D cl q H) : va_P D cl (ws.set k q) H := by
  intro i x hx
  by_cases hi : i = k
  · subst hi
    rcases Nat.lt_or_ge i ws.length with hl | hl
    · rw [List.getElem?_set_self hl] at hx
      exact Option.some.inj hx ▸ hq
    · rw [List.getElem?_eq_none (by simpa using hl)] at hx; cases hx
  · rw [List.getElem?_set_ne (fun e => hi e.symm)] at hx
    exact h i x hx
def uC0 : St := (fun k => match k with
  | 3 => fun j => if j = 1 then 256 else 0
  | 5 => fun j => if j = 1 then 256 else 0
  | 7 => fun j => if j = 1 then 256 else 0
  | 9 => fun j => if j = 0 then ((1 : Int32) <<< (((8 : Int32) + (0 : Int32)) &&& 31)) else 0
  | 15 => fun j => if j = 0 then ((1 : Int32) <<< (((8 : Int32) + (1 : Int32)) &&& 31)) else 0
  | 21 => fun j => if j = 0 then ((1 : Int32) <<< (((8 : Int32) + (2 : Int32)) &&& 31)) else 0
  | 27 => fun j => if j = 0 then ((1 : Int32) <<< (((8 : Int32) + (3 : Int32)) &&& 31)) else 0
  | 33 => fun j => if j = 0 then ((1 : Int32) <<< (((8 : Int32) + (4 : Int32)) &&& 31)) else 0
  | 39 => fun j => if j = 0 then ((1 : Int32) <<< (((8 : Int32) + (5 : Int32)) &&& 31)) else 0
  | _ => fun _ => 0, fun _ _ => 0)
def uM0 : St := (fun _ _ => 0, fun _ _ => 0)
def RS_task (RR : St → St → Prop) (F : Nat) : Prop := ∀ (uC uM : St), RR uC uM → ∀ (a1 a2 a3 a4 a5 : Int32), ∃ (r : Int32) (uC' uM' : St), sp_CN_task F a1 a2 a3 a4 a5 uC = some (r, uC') ∧ sp_Md_task F a1 a2 a3 a4 a5 uM = some (r, uM') ∧ RR uC' uM'
def RS_region (RR : St → St → Prop) (F : Nat) : Prop := ∀ (uC uM : St), RR uC uM → ∀ (a1 a2 : Int32), ∃ (r : Int32) (uC' uM' : St), sp_CN_region a1 a2 uC = some (r, uC') ∧ sp_Md_region a1 a2 uM = some (r, uM') ∧ RR uC' uM'
def RS_guard (RR : St → St → Prop) (F : Nat) : Prop := ∀ (uC uM : St), RR uC uM → ∀ (a1 a2 a3 a4 a5 : Int32), ∃ (r : Int32) (uC' uM' : St), sp_CN_guard a1 a2 a3 a4 a5 uC = some (r, uC') ∧ sp_Md_guard a1 a2 a3 a4 a5 uM = some (r, uM') ∧ RR uC' uM'
def RS_items (RR : St → St → Prop) (F : Nat) : Prop := ∀ (uC uM : St), RR uC uM → ∀ (a1 a2 a3 a4 a5 : Int32), ∃ (r : Int32) (uC' uM' : St), sp_CN_items a1 a2 a3 a4 a5 uC = some (r, uC') ∧ sp_Md_items a1 a2 a3 a4 a5 uM = some (r, uM') ∧ RR uC' uM'
def RS_launch (RR : St → St → Prop) (F : Nat) : Prop := ∀ (uC uM : St), RR uC uM → ∃ (r : Int32) (uC' uM' : St), sp_CN_launch F uC = some (r, uC') ∧ sp_Md_launch F uM = some (r, uM') ∧ RR uC' uM'
def RS_cancel (RR : St → St → Prop) (F : Nat) : Prop := ∀ (uC uM : St), RR uC uM → ∃ (r : Int32) (uC' uM' : St), sp_CN_cancel F uC = some (r, uC') ∧ sp_Md_cancel F uM = some (r, uM') ∧ RR uC' uM'
def RS_enabled (RR : St → St → Prop) (F : Nat) : Prop := ∀ (uC uM : St), RR uC uM → ∃ (r : Int32) (uC' uM' : St), sp_CN_enabled F uC = some (r, uC') ∧ sp_Md_enabled F uM = some (r, uM') ∧ RR uC' uM'
def RS_fire (RR : St → St → Prop) (F : Nat) : Prop := ∀ (uC uM : St), RR uC uM → ∀ (a1 : Int32), ∃ (r : Int32) (uC' uM' : St), sp_CN_fire F a1 uC = some (r, uC') ∧ sp_Md_fire F a1 uM = some (r, uM') ∧ RR uC' uM'
def RS_start (RR : St → St → Prop) (F : Nat) : Prop := ∀ (uC uM : St), RR uC uM → ∀ (a1 : Int32), ∃ (r : Int32) (uC' uM' : St), sp_CN_start a1 uC = some (r, uC') ∧ sp_Md_start a1 uM = some (r, uM') ∧ RR uC' uM'
def RS_finish (RR : St → St → Prop) (F : Nat) : Prop := ∀ (uC uM : St), RR uC uM → ∀ (a1 a2 : Int32), ∃ (r : Int32) (uC' uM' : St), sp_CN_finish F a1 a2 uC = some (r, uC') ∧ sp_Md_finish F a1 a2 uM = some (r, uM') ∧ RR uC' uM'
def RS_fail (RR : St → St → Prop) (F : Nat) : Prop := ∀ (uC uM : St), RR uC uM → ∀ (a1 : Int32), ∃ (r : Int32) (uC' uM' : St), sp_CN_fail F a1 uC = some (r, uC') ∧ sp_Md_fail F a1 uM = some (r, uM') ∧ RR uC' uM'
def RS_tick (RR : St → St → Prop) (F : Nat) : Prop := ∀ (uC uM : St), RR uC uM → ∀ (a1 : Int32), ∃ (r : Int32) (uC' uM' : St), sp_CN_tick F a1 uC = some (r, uC') ∧ sp_Md_tick F a1 uM = some (r, uM') ∧ RR uC' uM'
def RS_set (RR : St → St → Prop) (F : Nat) : Prop := ∀ (uC uM : St), RR uC uM → ∀ (a1 a2 : Int32), ∃ (r : Int32) (uC' uM' : St), sp_CN_set a1 a2 uC = some (r, uC') ∧ sp_Md_set a1 a2 uM = some (r, uM') ∧ RR uC' uM'
def RS_variable (RR : St → St → Prop) (F : Nat) : Prop := ∀ (uC uM : St), RR uC uM → ∀ (a1 : Int32), ∃ (r : Int32) (uC' uM' : St), sp_CN_variable a1 uC = some (r, uC') ∧ sp_Md_variable a1 uM = some (r, uM') ∧ RR uC' uM'
def RS_marking (RR : St → St → Prop) (F : Nat) : Prop := ∀ (uC uM : St), RR uC uM → ∃ (r : Int32) (uC' uM' : St), sp_CN_marking uC = some (r, uC') ∧ sp_Md_marking uM = some (r, uM') ∧ RR uC' uM'
def RS_item (RR : St → St → Prop) (F : Nat) : Prop := ∀ (uC uM : St), RR uC uM → ∀ (a1 a2 : Int32), ∃ (r : Int32) (uC' uM' : St), sp_CN_item a1 a2 uC = some (r, uC') ∧ sp_Md_item a1 a2 uM = some (r, uM') ∧ RR uC' uM'
def RS_covers (RR : St → St → Prop) (F : Nat) : Prop := ∀ (uC uM : St), RR uC uM → ∀ (a1 a2 a3 : Int32), ∃ (r : Int32) (uC' uM' : St), sp_CN_covers F a1 a2 a3 uC = some (r, uC') ∧ sp_Md_covers F a1 a2 a3 uM = some (r, uM') ∧ RR uC' uM'
def RS_verdict (RR : St → St → Prop) (F : Nat) : Prop := ∀ (uC uM : St), RR uC uM → ∃ (r : Int32) (uC' uM' : St), sp_CN_verdict F uC = some (r, uC') ∧ sp_Md_verdict F uM = some (r, uM') ∧ RR uC' uM'
def RS_all (RR : St → St → Prop) (F : Nat) : Prop := RS_task RR F ∧ RS_region RR F ∧ RS_guard RR F ∧ RS_items RR F ∧ RS_launch RR F ∧ RS_cancel RR F ∧ RS_enabled RR F ∧ RS_fire RR F ∧ RS_start RR F ∧ RS_finish RR F ∧ RS_fail RR F ∧ RS_tick RR F ∧ RS_set RR F ∧ RS_variable RR F ∧ RS_marking RR F ∧ RS_item RR F ∧ RS_covers RR F ∧ RS_verdict RR F
def adC (h0 q1 q2 q3 q4 q5 q6 q7 q8 q9 q10 q11 q12 q13 q14 q15 q16 q17 q18 q19 q20 q21 q22 q23 q24 q25 q26 q27 q28 q29 q30 q31 q32 q33 q34 q35 q36 q37 q38 q39 q40 q41 q42 q43 q44 q79 q80 q81 q82 q86 : Nat) : Nat → Nat := fun k => match k with
  | 0 => h0
  | 1 => q1
  | 2 => q2
  | 3 => q3
  | 4 => q4
  | 5 => q5
  | 6 => q6
  | 7 => q7
  | 8 => q8
  | 9 => q9
  | 10 => q10
  | 11 => q11
  | 12 => q12
  | 13 => q13
  | 14 => q14
  | 15 => q15
  | 16 => q16
  | 17 => q17
  | 18 => q18
  | 19 => q19
  | 20 => q20
  | 21 => q21
  | 22 => q22
  | 23 => q23
  | 24 => q24
  | 25 => q25
  | 26 => q26
  | 27 => q27
  | 28 => q28
  | 29 => q29
  | 30 => q30
  | 31 => q31
  | 32 => q32
  | 33 => q33
  | 34 => q34
  | 35 => q35
  | 36 => q36
  | 37 => q37
  | 38 => q38
  | 39 => q39
  | 40 => q40
  | 41 => q41
  | 42 => q42
  | 43 => q43
  | 44 => q44
  | 45 => q79
  | 46 => q80
  | 47 => q81
  | 48 => q82
  | _ => q86
def caC (cA45 cA46 cA47 cA48 cA49 cA50 cA51 cA52 cA53 cA54 cA55 cA56 cA57 cA58 cA59 cA60 cA61 cA62 cA63 cA64 cA65 cA66 cA67 cA68 cA69 cA70 cA71 cA72 cA73 cA74 cA75 cA76 cA77 cA78 cA83 cA84 cA85 cA86 : ClassId) : Nat → ClassId := fun k => match k with
  | 2 => cA45
  | 4 => cA46
  | 6 => cA47
  | 8 => cA48
  | 10 => cA49
  | 11 => cA50
  | 12 => cA51
  | 13 => cA52
  | 14 => cA53
  | 16 => cA54
  | 17 => cA55
  | 18 => cA56
  | 19 => cA57
  | 20 => cA58
  | 22 => cA59
  | 23 => cA60
  | 24 => cA61
  | 25 => cA62
  | 26 => cA63
  | 28 => cA64
  | 29 => cA65
  | 30 => cA66
  | 31 => cA67
  | 32 => cA68
  | 34 => cA69
  | 35 => cA70
  | 36 => cA71
  | 37 => cA72
  | 38 => cA73
  | 40 => cA74
  | 41 => cA75
  | 42 => cA76
  | 43 => cA77
  | 44 => cA78
  | 46 => cA83
  | 47 => cA84
  | 48 => cA85
  | 49 => cA86
  | _ => cA45
set_option maxRecDepth 100000 in
set_option maxHeartbeats 4000000 in
theorem cv_C {D : va_G} {A : Nat → Prop} {H : Heap} {s : State} {h0 q1 q2 q3 q4 q5 q6 q7 q8 q9 q10 q11 q12 q13 q14 q15 q16 q17 q18 q19 q20 q21 q22 q23 q24 q25 q26 q27 q28 q29 q30 q31 q32 q33 q34 q35 q36 q37 q38 q39 q40 q41 q42 q43 q44 q79 q80 q81 q82 q86 : Nat} {cA45 cA46 cA47 cA48 cA49 cA50 cA51 cA52 cA53 cA54 cA55 cA56 cA57 cA58 cA59 cA60 cA61 cA62 cA63 cA64 cA65 cA66 cA67 cA68 cA69 cA70 cA71 cA72 cA73 cA74 cA75 cA76 cA77 cA78 cA83 cA84 cA85 cA86 : ClassId} (hP : va_P D clA ((h0, .inr (0, [.ref q1, .ref q79, .ref q86, .int 0, .int 0, .int 0])) :: (q1, .inr (1, [.ref q2, .ref q3, .ref q5, .ref q7, .int 0, .int 0])) :: (q2, .inl (cA45, 6, .inr (.inr (.inr (.inr (va_up (va_up (va_up (va_up (va_up (va_up (fun _ => none) 0 (some q9)) 1 (some q15)) 2 (some q21)) 3 (some q27)) 4 (some q33)) 5 (some q39))))))) :: (q3, .inr (4, [.ref q4, .int (256 : Int32)])) :: (q4, .inl (cA46, 256, .inr (.inl (fun _ => 0)))) :: (q5, .inr (4, [.ref q6, .int (256 : Int32)])) :: (q6, .inl (cA47, 256, .inr (.inl (fun _ => 0)))) :: (q7, .inr (4, [.ref q8, .int (256 : Int32)])) :: (q8, .inl (cA48, 256, .inr (.inl (fun _ => 0)))) :: (q9, .inr (2, [.int ((1 : Int32) <<< (((8 : Int32) + (0 : Int32)) &&& 31)), .int 0, .int 0, .int 0, .int 0, .int 0, .int 0, .int 0, .int 0, .int 0, .int 0, .int 0, .ref q10, .ref q11, .int 0, .int 0, .ref q12, .ref q13, .ref q14])) :: (q10, .inl (cA49, 3, .inl (fun _ => 0))) :: (q11, .inl (cA50, 7, .inl (fun _ => 0))) :: (q12, .inl (cA51, 8, .inl (fun _ => 0))) :: (q13, .inl (cA52, 8, .inl (fun _ => 0))) :: (q14, .inl (cA53, 8, .inl (fun _ => 0))) :: (q15, .inr (2, [.int ((1 : Int32) <<< (((8 : Int32) + (1 : Int32)) &&& 31)), .int 0, .int 0, .int 0, .int 0, .int 0, .int 0, .int 0, .int 0, .int 0, .int 0, .int 0, .ref q16, .ref q17, .int 0, .int 0, .ref q18, .ref q19, .ref q20])) :: (q16, .inl (cA54, 3, .inl (fun _ => 0))) :: (q17, .inl (cA55, 7, .inl (fun _ => 0))) :: (q18, .inl (cA56, 8, .inl (fun _ => 0))) :: (q19, .inl (cA57, 8, .inl (fun _ => 0))) :: (q20, .inl (cA58, 8, .inl (fun _ => 0))) :: (q21, .inr (2, [.int ((1 : Int32) <<< (((8 : Int32) + (2 : Int32)) &&& 31)), .int 0, .int 0, .int 0, .int 0, .int 0, .int 0, .int 0, .int 0, .int 0, .int 0, .int 0, .ref q22, .ref q23, .int 0, .int 0, .ref q24, .ref q25, .ref q26])) :: (q22, .inl (cA59, 3, .inl (fun _ => 0))) :: (q23, .inl (cA60, 7, .inl (fun _ => 0))) :: (q24, .inl (cA61, 8, .inl (fun _ => 0))) :: (q25, .inl (cA62, 8, .inl (fun _ => 0))) :: (q26, .inl (cA63, 8, .inl (fun _ => 0))) :: (q27, .inr (2, [.int ((1 : Int32) <<< (((8 : Int32) + (3 : Int32)) &&& 31)), .int 0, .int 0, .int 0, .int 0, .int 0, .int 0, .int 0, .int 0, .int 0, .int 0, .int 0, .ref q28, .ref q29, .int 0, .int 0, .ref q30, .ref q31, .ref q32])) :: (q28, .inl (cA64, 3, .inl (fun _ => 0))) :: (q29, .inl (cA65, 7, .inl (fun _ => 0))) :: (q30, .inl (cA66, 8, .inl (fun _ => 0))) :: (q31, .inl (cA67, 8, .inl (fun _ => 0))) :: (q32, .inl (cA68, 8, .inl (fun _ => 0))) :: (q33, .inr (2, [.int ((1 : Int32) <<< (((8 : Int32) + (4 : Int32)) &&& 31)), .int 0, .int 0, .int 0, .int 0, .int 0, .int 0, .int 0, .int 0, .int 0, .int 0, .int 0, .ref q34, .ref q35, .int 0, .int 0, .ref q36, .ref q37, .ref q38])) :: (q34, .inl (cA69, 3, .inl (fun _ => 0))) :: (q35, .inl (cA70, 7, .inl (fun _ => 0))) :: (q36, .inl (cA71, 8, .inl (fun _ => 0))) :: (q37, .inl (cA72, 8, .inl (fun _ => 0))) :: (q38, .inl (cA73, 8, .inl (fun _ => 0))) :: (q39, .inr (2, [.int ((1 : Int32) <<< (((8 : Int32) + (5 : Int32)) &&& 31)), .int 0, .int 0, .int 0, .int 0, .int 0, .int 0, .int 0, .int 0, .int 0, .int 0, .int 0, .ref q40, .ref q41, .int 0, .int 0, .ref q42, .ref q43, .ref q44])) :: (q40, .inl (cA74, 3, .inl (fun _ => 0))) :: (q41, .inl (cA75, 7, .inl (fun _ => 0))) :: (q42, .inl (cA76, 8, .inl (fun _ => 0))) :: (q43, .inl (cA77, 8, .inl (fun _ => 0))) :: (q44, .inl (cA78, 8, .inl (fun _ => 0))) :: (q79, .inr (3, [.ref q80, .ref q81, .ref q82, .int 0])) :: (q80, .inl (cA83, 61, .inl (fun _ => 0))) :: (q81, .inl (cA84, 61, .inl (fun _ => 0))) :: (q82, .inl (cA85, 61, .inl (fun _ => 0))) :: (q86, .inl (cA86, 4, .inl (fun _ => 0))) :: []) H) (hD : va_D A ((h0, .inr (0, [.ref q1, .ref q79, .ref q86, .int 0, .int 0, .int 0])) :: (q1, .inr (1, [.ref q2, .ref q3, .ref q5, .ref q7, .int 0, .int 0])) :: (q2, .inl (cA45, 6, .inr (.inr (.inr (.inr (va_up (va_up (va_up (va_up (va_up (va_up (fun _ => none) 0 (some q9)) 1 (some q15)) 2 (some q21)) 3 (some q27)) 4 (some q33)) 5 (some q39))))))) :: (q3, .inr (4, [.ref q4, .int (256 : Int32)])) :: (q4, .inl (cA46, 256, .inr (.inl (fun _ => 0)))) :: (q5, .inr (4, [.ref q6, .int (256 : Int32)])) :: (q6, .inl (cA47, 256, .inr (.inl (fun _ => 0)))) :: (q7, .inr (4, [.ref q8, .int (256 : Int32)])) :: (q8, .inl (cA48, 256, .inr (.inl (fun _ => 0)))) :: (q9, .inr (2, [.int ((1 : Int32) <<< (((8 : Int32) + (0 : Int32)) &&& 31)), .int 0, .int 0, .int 0, .int 0, .int 0, .int 0, .int 0, .int 0, .int 0, .int 0, .int 0, .ref q10, .ref q11, .int 0, .int 0, .ref q12, .ref q13, .ref q14])) :: (q10, .inl (cA49, 3, .inl (fun _ => 0))) :: (q11, .inl (cA50, 7, .inl (fun _ => 0))) :: (q12, .inl (cA51, 8, .inl (fun _ => 0))) :: (q13, .inl (cA52, 8, .inl (fun _ => 0))) :: (q14, .inl (cA53, 8, .inl (fun _ => 0))) :: (q15, .inr (2, [.int ((1 : Int32) <<< (((8 : Int32) + (1 : Int32)) &&& 31)), .int 0, .int 0, .int 0, .int 0, .int 0, .int 0, .int 0, .int 0, .int 0, .int 0, .int 0, .ref q16, .ref q17, .int 0, .int 0, .ref q18, .ref q19, .ref q20])) :: (q16, .inl (cA54, 3, .inl (fun _ => 0))) :: (q17, .inl (cA55, 7, .inl (fun _ => 0))) :: (q18, .inl (cA56, 8, .inl (fun _ => 0))) :: (q19, .inl (cA57, 8, .inl (fun _ => 0))) :: (q20, .inl (cA58, 8, .inl (fun _ => 0))) :: (q21, .inr (2, [.int ((1 : Int32) <<< (((8 : Int32) + (2 : Int32)) &&& 31)), .int 0, .int 0, .int 0, .int 0, .int 0, .int 0, .int 0, .int 0, .int 0, .int 0, .int 0, .ref q22, .ref q23, .int 0, .int 0, .ref q24, .ref q25, .ref q26])) :: (q22, .inl (cA59, 3, .inl (fun _ => 0))) :: (q23, .inl (cA60, 7, .inl (fun _ => 0))) :: (q24, .inl (cA61, 8, .inl (fun _ => 0))) :: (q25, .inl (cA62, 8, .inl (fun _ => 0))) :: (q26, .inl (cA63, 8, .inl (fun _ => 0))) :: (q27, .inr (2, [.int ((1 : Int32) <<< (((8 : Int32) + (3 : Int32)) &&& 31)), .int 0, .int 0, .int 0, .int 0, .int 0, .int 0, .int 0, .int 0, .int 0, .int 0, .int 0, .ref q28, .ref q29, .int 0, .int 0, .ref q30, .ref q31, .ref q32])) :: (q28, .inl (cA64, 3, .inl (fun _ => 0))) :: (q29, .inl (cA65, 7, .inl (fun _ => 0))) :: (q30, .inl (cA66, 8, .inl (fun _ => 0))) :: (q31, .inl (cA67, 8, .inl (fun _ => 0))) :: (q32, .inl (cA68, 8, .inl (fun _ => 0))) :: (q33, .inr (2, [.int ((1 : Int32) <<< (((8 : Int32) + (4 : Int32)) &&& 31)), .int 0, .int 0, .int 0, .int 0, .int 0, .int 0, .int 0, .int 0, .int 0, .int 0, .int 0, .ref q34, .ref q35, .int 0, .int 0, .ref q36, .ref q37, .ref q38])) :: (q34, .inl (cA69, 3, .inl (fun _ => 0))) :: (q35, .inl (cA70, 7, .inl (fun _ => 0))) :: (q36, .inl (cA71, 8, .inl (fun _ => 0))) :: (q37, .inl (cA72, 8, .inl (fun _ => 0))) :: (q38, .inl (cA73, 8, .inl (fun _ => 0))) :: (q39, .inr (2, [.int ((1 : Int32) <<< (((8 : Int32) + (5 : Int32)) &&& 31)), .int 0, .int 0, .int 0, .int 0, .int 0, .int 0, .int 0, .int 0, .int 0, .int 0, .int 0, .ref q40, .ref q41, .int 0, .int 0, .ref q42, .ref q43, .ref q44])) :: (q40, .inl (cA74, 3, .inl (fun _ => 0))) :: (q41, .inl (cA75, 7, .inl (fun _ => 0))) :: (q42, .inl (cA76, 8, .inl (fun _ => 0))) :: (q43, .inl (cA77, 8, .inl (fun _ => 0))) :: (q44, .inl (cA78, 8, .inl (fun _ => 0))) :: (q79, .inr (3, [.ref q80, .ref q81, .ref q82, .int 0])) :: (q80, .inl (cA83, 61, .inl (fun _ => 0))) :: (q81, .inl (cA84, 61, .inl (fun _ => 0))) :: (q82, .inl (cA85, 61, .inl (fun _ => 0))) :: (q86, .inl (cA86, 4, .inl (fun _ => 0))) :: [])) : va_P D clA (ly_W layC (adC h0 q1 q2 q3 q4 q5 q6 q7 q8 q9 q10 q11 q12 q13 q14 q15 q16 q17 q18 q19 q20 q21 q22 q23 q24 q25 q26 q27 q28 q29 q30 q31 q32 q33 q34 q35 q36 q37 q38 q39 q40 q41 q42 q43 q44 q79 q80 q81 q82 q86) (caC cA45 cA46 cA47 cA48 cA49 cA50 cA51 cA52 cA53 cA54 cA55 cA56 cA57 cA58 cA59 cA60 cA61 cA62 cA63 cA64 cA65 cA66 cA67 cA68 cA69 cA70 cA71 cA72 cA73 cA74 cA75 cA76 cA77 cA78 cA83 cA84 cA85 cA86) uC0) H ∧ va_D A (ly_W layC (adC h0 q1 q2 q3 q4 q5 q6 q7 q8 q9 q10 q11 q12 q13 q14 q15 q16 q17 q18 q19 q20 q21 q22 q23 q24 q25 q26 q27 q28 q29 q30 q31 q32 q33 q34 q35 q36 q37 q38 q39 q40 q41 q42 q43 q44 q79 q80 q81 q82 q86) (caC cA45 cA46 cA47 cA48 cA49 cA50 cA51 cA52 cA53 cA54 cA55 cA56 cA57 cA58 cA59 cA60 cA61 cA62 cA63 cA64 cA65 cA66 cA67 cA68 cA69 cA70 cA71 cA72 cA73 cA74 cA75 cA76 cA77 cA78 cA83 cA84 cA85 cA86) uC0) := by
  have h2 : va_at D clA (q2, .inl (cA45, 6, .inr (.inr (.inr (.inr (fun i => (some (9 + 6 * i)).map (adC h0 q1 q2 q3 q4 q5 q6 q7 q8 q9 q10 q11 q12 q13 q14 q15 q16 q17 q18 q19 q20 q21 q22 q23 q24 q25 q26 q27 q28 q29 q30 q31 q32 q33 q34 q35 q36 q37 q38 q39 q40 q41 q42 q43 q44 q79 q80 q81 q82 q86))))))) H := by
    have h := hP 2 _ rfl
    refine Eq.trans h (congrArg some (ar_c fun j hj => ?_))
    exact (match j, hj with
      | 0, _ => rfl
      | 1, _ => rfl
      | 2, _ => rfl
      | 3, _ => rfl
      | 4, _ => rfl
      | 5, _ => rfl
      )
  exact ⟨va_rep (k := 2) hP h2, va_D.set (p := 2) hD rfl⟩
set_option maxRecDepth 100000 in
set_option maxHeartbeats 4000000 in
theorem ck_C {D : va_G} {s : State} {cA45 cA46 cA47 cA48 cA49 cA50 cA51 cA52 cA53 cA54 cA55 cA56 cA57 cA58 cA59 cA60 cA61 cA62 cA63 cA64 cA65 cA66 cA67 cA68 cA69 cA70 cA71 cA72 cA73 cA74 cA75 cA76 cA77 cA78 cA83 cA84 cA85 cA86 : ClassId} (hK : va_K D clA ((cA45, (.object "CaseNet$Task")) :: (cA46, .long) :: (cA47, .long) :: (cA48, .long) :: (cA49, .int) :: (cA50, .int) :: (cA51, .int) :: (cA52, .int) :: (cA53, .int) :: (cA54, .int) :: (cA55, .int) :: (cA56, .int) :: (cA57, .int) :: (cA58, .int) :: (cA59, .int) :: (cA60, .int) :: (cA61, .int) :: (cA62, .int) :: (cA63, .int) :: (cA64, .int) :: (cA65, .int) :: (cA66, .int) :: (cA67, .int) :: (cA68, .int) :: (cA69, .int) :: (cA70, .int) :: (cA71, .int) :: (cA72, .int) :: (cA73, .int) :: (cA74, .int) :: (cA75, .int) :: (cA76, .int) :: (cA77, .int) :: (cA78, .int) :: (cA83, .int) :: (cA84, .int) :: (cA85, .int) :: (cA86, .int) :: []) s) : ly_K D clA layC (caC cA45 cA46 cA47 cA48 cA49 cA50 cA51 cA52 cA53 cA54 cA55 cA56 cA57 cA58 cA59 cA60 cA61 cA62 cA63 cA64 cA65 cA66 cA67 cA68 cA69 cA70 cA71 cA72 cA73 cA74 cA75 cA76 cA77 cA78 cA83 cA84 cA85 cA86) s := by
  refine ⟨hK.sub (tys' := []) [] rfl, fun k ty h => ?_⟩
  exact (match k, h with
    | 0, h => nomatch h
    | 1, h => nomatch h
    | 2, h => (Option.some.inj h) ▸ hK.sub [0] rfl
    | 3, h => nomatch h
    | 4, h => (Option.some.inj h) ▸ hK.sub [1] rfl
    | 5, h => nomatch h
    | 6, h => (Option.some.inj h) ▸ hK.sub [2] rfl
    | 7, h => nomatch h
    | 8, h => (Option.some.inj h) ▸ hK.sub [3] rfl
    | 9, h => nomatch h
    | 10, h => (Option.some.inj h) ▸ hK.sub [4] rfl
    | 11, h => (Option.some.inj h) ▸ hK.sub [5] rfl
    | 12, h => (Option.some.inj h) ▸ hK.sub [6] rfl
    | 13, h => (Option.some.inj h) ▸ hK.sub [7] rfl
    | 14, h => (Option.some.inj h) ▸ hK.sub [8] rfl
    | 15, h => nomatch h
    | 16, h => (Option.some.inj h) ▸ hK.sub [9] rfl
    | 17, h => (Option.some.inj h) ▸ hK.sub [10] rfl
    | 18, h => (Option.some.inj h) ▸ hK.sub [11] rfl
    | 19, h => (Option.some.inj h) ▸ hK.sub [12] rfl
    | 20, h => (Option.some.inj h) ▸ hK.sub [13] rfl
    | 21, h => nomatch h
    | 22, h => (Option.some.inj h) ▸ hK.sub [14] rfl
    | 23, h => (Option.some.inj h) ▸ hK.sub [15] rfl
    | 24, h => (Option.some.inj h) ▸ hK.sub [16] rfl
    | 25, h => (Option.some.inj h) ▸ hK.sub [17] rfl
    | 26, h => (Option.some.inj h) ▸ hK.sub [18] rfl
    | 27, h => nomatch h
    | 28, h => (Option.some.inj h) ▸ hK.sub [19] rfl
    | 29, h => (Option.some.inj h) ▸ hK.sub [20] rfl
    | 30, h => (Option.some.inj h) ▸ hK.sub [21] rfl
    | 31, h => (Option.some.inj h) ▸ hK.sub [22] rfl
    | 32, h => (Option.some.inj h) ▸ hK.sub [23] rfl
    | 33, h => nomatch h
    | 34, h => (Option.some.inj h) ▸ hK.sub [24] rfl
    | 35, h => (Option.some.inj h) ▸ hK.sub [25] rfl
    | 36, h => (Option.some.inj h) ▸ hK.sub [26] rfl
    | 37, h => (Option.some.inj h) ▸ hK.sub [27] rfl
    | 38, h => (Option.some.inj h) ▸ hK.sub [28] rfl
    | 39, h => nomatch h
    | 40, h => (Option.some.inj h) ▸ hK.sub [29] rfl
    | 41, h => (Option.some.inj h) ▸ hK.sub [30] rfl
    | 42, h => (Option.some.inj h) ▸ hK.sub [31] rfl
    | 43, h => (Option.some.inj h) ▸ hK.sub [32] rfl
    | 44, h => (Option.some.inj h) ▸ hK.sub [33] rfl
    | 45, h => nomatch h
    | 46, h => (Option.some.inj h) ▸ hK.sub [34] rfl
    | 47, h => (Option.some.inj h) ▸ hK.sub [35] rfl
    | 48, h => (Option.some.inj h) ▸ hK.sub [36] rfl
    | 49, h => (Option.some.inj h) ▸ hK.sub [37] rfl
    | n + 50, h => nomatch h)
def adM (h0 q1 q2 q3 q4 q5 q6 q7 q8 q9 q10 q11 q12 q13 q14 q15 q16 q17 q18 q19 q20 q21 q22 q23 : Nat) : Nat → Nat := fun k => match k with
  | 0 => h0
  | 1 => q1
  | 2 => q2
  | 3 => q3
  | 4 => q4
  | 5 => q5
  | 6 => q6
  | 7 => q7
  | 8 => q8
  | 9 => q9
  | 10 => q10
  | 11 => q11
  | 12 => q12
  | 13 => q13
  | 14 => q14
  | 15 => q15
  | 16 => q16
  | 17 => q17
  | 18 => q18
  | 19 => q19
  | 20 => q20
  | 21 => q21
  | 22 => q22
  | _ => q23
def caM (cA1 cA2 cA3 cA4 cA5 cA6 cA7 cA8 cA9 cA10 cA11 cA12 cA13 cA14 cA15 cA16 cA17 cA18 cA19 cA20 cA21 cA22 cA23 : ClassId) : Nat → ClassId := fun k => match k with
  | 1 => cA1
  | 2 => cA2
  | 3 => cA3
  | 4 => cA4
  | 5 => cA5
  | 6 => cA6
  | 7 => cA7
  | 8 => cA8
  | 9 => cA9
  | 10 => cA10
  | 11 => cA11
  | 12 => cA12
  | 13 => cA13
  | 14 => cA14
  | 15 => cA15
  | 16 => cA16
  | 17 => cA17
  | 18 => cA18
  | 19 => cA19
  | 20 => cA20
  | 21 => cA21
  | 22 => cA22
  | 23 => cA23
  | _ => cA1
set_option maxRecDepth 100000 in
set_option maxHeartbeats 4000000 in
theorem cv_M {D : va_G} {A : Nat → Prop} {H : Heap} {s : State} {h0 q1 q2 q3 q4 q5 q6 q7 q8 q9 q10 q11 q12 q13 q14 q15 q16 q17 q18 q19 q20 q21 q22 q23 : Nat} {cA1 cA2 cA3 cA4 cA5 cA6 cA7 cA8 cA9 cA10 cA11 cA12 cA13 cA14 cA15 cA16 cA17 cA18 cA19 cA20 cA21 cA22 cA23 : ClassId} (hP : va_P D clA ((h0, .inr (5, [.ref q1, .ref q2, .ref q3, .ref q4, .ref q5, .ref q6, .ref q7, .ref q8, .ref q9, .ref q10, .ref q11, .ref q12, .ref q13, .ref q14, .ref q15, .int 0, .int 0, .int 0, .ref q16, .int 0, .ref q17, .ref q18, .ref q19, .ref q20, .ref q21, .ref q22, .int 0, .ref q23])) :: (q1, .inl (cA1, 6, .inl (fun _ => 0))) :: (q2, .inl (cA2, 6, .inl (fun _ => 0))) :: (q3, .inl (cA3, 6, .inl (fun _ => 0))) :: (q4, .inl (cA4, 6, .inl (fun _ => 0))) :: (q5, .inl (cA5, 6, .inl (fun _ => 0))) :: (q6, .inl (cA6, 18, .inl (fun _ => 0))) :: (q7, .inl (cA7, 18, .inl (fun _ => 0))) :: (q8, .inl (cA8, 6, .inl (fun _ => 0))) :: (q9, .inl (cA9, 48, .inl (fun _ => 0))) :: (q10, .inl (cA10, 48, .inl (fun _ => 0))) :: (q11, .inl (cA11, 48, .inl (fun _ => 0))) :: (q12, .inl (cA12, 6, .inl (fun _ => 0))) :: (q13, .inl (cA13, 6, .inl (fun _ => 0))) :: (q14, .inl (cA14, 6, .inl (fun _ => 0))) :: (q15, .inl (cA15, 6, .inl (fun _ => 0))) :: (q16, .inl (cA16, 4, .inl (fun _ => 0))) :: (q17, .inl (cA17, 61, .inl (fun _ => 0))) :: (q18, .inl (cA18, 61, .inl (fun _ => 0))) :: (q19, .inl (cA19, 61, .inl (fun _ => 0))) :: (q20, .inl (cA20, 6, .inl (fun _ => 0))) :: (q21, .inl (cA21, 256, .inr (.inl (fun _ => 0)))) :: (q22, .inl (cA22, 16384, .inl (fun _ => 0))) :: (q23, .inl (cA23, 256, .inr (.inl (fun _ => 0)))) :: []) H) (hD : va_D A ((h0, .inr (5, [.ref q1, .ref q2, .ref q3, .ref q4, .ref q5, .ref q6, .ref q7, .ref q8, .ref q9, .ref q10, .ref q11, .ref q12, .ref q13, .ref q14, .ref q15, .int 0, .int 0, .int 0, .ref q16, .int 0, .ref q17, .ref q18, .ref q19, .ref q20, .ref q21, .ref q22, .int 0, .ref q23])) :: (q1, .inl (cA1, 6, .inl (fun _ => 0))) :: (q2, .inl (cA2, 6, .inl (fun _ => 0))) :: (q3, .inl (cA3, 6, .inl (fun _ => 0))) :: (q4, .inl (cA4, 6, .inl (fun _ => 0))) :: (q5, .inl (cA5, 6, .inl (fun _ => 0))) :: (q6, .inl (cA6, 18, .inl (fun _ => 0))) :: (q7, .inl (cA7, 18, .inl (fun _ => 0))) :: (q8, .inl (cA8, 6, .inl (fun _ => 0))) :: (q9, .inl (cA9, 48, .inl (fun _ => 0))) :: (q10, .inl (cA10, 48, .inl (fun _ => 0))) :: (q11, .inl (cA11, 48, .inl (fun _ => 0))) :: (q12, .inl (cA12, 6, .inl (fun _ => 0))) :: (q13, .inl (cA13, 6, .inl (fun _ => 0))) :: (q14, .inl (cA14, 6, .inl (fun _ => 0))) :: (q15, .inl (cA15, 6, .inl (fun _ => 0))) :: (q16, .inl (cA16, 4, .inl (fun _ => 0))) :: (q17, .inl (cA17, 61, .inl (fun _ => 0))) :: (q18, .inl (cA18, 61, .inl (fun _ => 0))) :: (q19, .inl (cA19, 61, .inl (fun _ => 0))) :: (q20, .inl (cA20, 6, .inl (fun _ => 0))) :: (q21, .inl (cA21, 256, .inr (.inl (fun _ => 0)))) :: (q22, .inl (cA22, 16384, .inl (fun _ => 0))) :: (q23, .inl (cA23, 256, .inr (.inl (fun _ => 0)))) :: [])) : va_P D clA (ly_W layM (adM h0 q1 q2 q3 q4 q5 q6 q7 q8 q9 q10 q11 q12 q13 q14 q15 q16 q17 q18 q19 q20 q21 q22 q23) (caM cA1 cA2 cA3 cA4 cA5 cA6 cA7 cA8 cA9 cA10 cA11 cA12 cA13 cA14 cA15 cA16 cA17 cA18 cA19 cA20 cA21 cA22 cA23) uM0) H ∧ va_D A (ly_W layM (adM h0 q1 q2 q3 q4 q5 q6 q7 q8 q9 q10 q11 q12 q13 q14 q15 q16 q17 q18 q19 q20 q21 q22 q23) (caM cA1 cA2 cA3 cA4 cA5 cA6 cA7 cA8 cA9 cA10 cA11 cA12 cA13 cA14 cA15 cA16 cA17 cA18 cA19 cA20 cA21 cA22 cA23) uM0) := by
  exact ⟨hP, hD⟩
set_option maxRecDepth 100000 in
set_option maxHeartbeats 4000000 in
theorem ck_M {D : va_G} {s : State} {cA1 cA2 cA3 cA4 cA5 cA6 cA7 cA8 cA9 cA10 cA11 cA12 cA13 cA14 cA15 cA16 cA17 cA18 cA19 cA20 cA21 cA22 cA23 : ClassId} (hK : va_K D clA ((cA1, .boolean) :: (cA2, .int) :: (cA3, .int) :: (cA4, .int) :: (cA5, .int) :: (cA6, .int) :: (cA7, .int) :: (cA8, .int) :: (cA9, .int) :: (cA10, .int) :: (cA11, .int) :: (cA12, .int) :: (cA13, .int) :: (cA14, .int) :: (cA15, .int) :: (cA16, .int) :: (cA17, .int) :: (cA18, .int) :: (cA19, .int) :: (cA20, .int) :: (cA21, .long) :: (cA22, .int) :: (cA23, .long) :: []) s) : ly_K D clA layM (caM cA1 cA2 cA3 cA4 cA5 cA6 cA7 cA8 cA9 cA10 cA11 cA12 cA13 cA14 cA15 cA16 cA17 cA18 cA19 cA20 cA21 cA22 cA23) s := by
  refine ⟨hK.sub (tys' := []) [] rfl, fun k ty h => ?_⟩
  exact (match k, h with
    | 0, h => nomatch h
    | 1, h => (Option.some.inj h) ▸ hK.sub [0] rfl
    | 2, h => (Option.some.inj h) ▸ hK.sub [1] rfl
    | 3, h => (Option.some.inj h) ▸ hK.sub [2] rfl
    | 4, h => (Option.some.inj h) ▸ hK.sub [3] rfl
    | 5, h => (Option.some.inj h) ▸ hK.sub [4] rfl
    | 6, h => (Option.some.inj h) ▸ hK.sub [5] rfl
    | 7, h => (Option.some.inj h) ▸ hK.sub [6] rfl
    | 8, h => (Option.some.inj h) ▸ hK.sub [7] rfl
    | 9, h => (Option.some.inj h) ▸ hK.sub [8] rfl
    | 10, h => (Option.some.inj h) ▸ hK.sub [9] rfl
    | 11, h => (Option.some.inj h) ▸ hK.sub [10] rfl
    | 12, h => (Option.some.inj h) ▸ hK.sub [11] rfl
    | 13, h => (Option.some.inj h) ▸ hK.sub [12] rfl
    | 14, h => (Option.some.inj h) ▸ hK.sub [13] rfl
    | 15, h => (Option.some.inj h) ▸ hK.sub [14] rfl
    | 16, h => (Option.some.inj h) ▸ hK.sub [15] rfl
    | 17, h => (Option.some.inj h) ▸ hK.sub [16] rfl
    | 18, h => (Option.some.inj h) ▸ hK.sub [17] rfl
    | 19, h => (Option.some.inj h) ▸ hK.sub [18] rfl
    | 20, h => (Option.some.inj h) ▸ hK.sub [19] rfl
    | 21, h => (Option.some.inj h) ▸ hK.sub [20] rfl
    | 22, h => (Option.some.inj h) ▸ hK.sub [21] rfl
    | 23, h => (Option.some.inj h) ▸ hK.sub [22] rfl
    | n + 24, h => nomatch h)
set_option maxRecDepth 100000 in
set_option maxHeartbeats 8000000 in
theorem law_loop {p : Program} {l : Launch} {e : Env} {s : State} {m : MethodId} {below : List Frame} {meth : Method} {c : Code} {D : va_G} {adC' adM' : Nat → Nat} {cAC cAM : Nat → ClassId} {A : Nat → Prop} {b L : Nat} {xs : Nat → Int32} {RR : St → St → Prop} {F : Nat} (fx : CallFix p m c b_Law_law 4 s #[Value.ref b] ((Jvm.Cond.initialized "CaseNetLaw") :: wAll) R_law) (hr : meth.sig.returnType = ret) (hlocks : meth.locks = false) (hkC : ly_K D clA layC cAC s) (hkM : ly_K D clA layM cAM s) (hA : ∀ q, s.heap.size ≤ q → A q) (hA' : ∀ q, A q → s.heap.size ≤ q) (hz : ZsC A s s.heap) (hX : va_X b L xs s s.heap) (hbl : b < s.heap.size) (hL : L ≤ 3072) (HS : RS_all RR F) :
    ∀ (n k : Nat), L - 6 * k < n → 6 * k ≤ L → ∀ (uC uM : St) (H : Heap) (locs : List Loc) (ls : Array Slot), RR uC uM → va_P D clA (ly_W layC adC' cAC uC ++ ly_W layM adM' cAM uM) H → va_D A (ly_W layC adC' cAC uC ++ ly_W layM adM' cAM uM) → va_S A s.heap H locs → lv_has ls 4 [(0, .ref b), (1, .ref (adC' 0)), (2, .ref (adM' 0)), (3, .int (nI (6 * k)))] → W p l e room_1 s m #[Value.ref b] below meth c H locs 74 18658 (lw_Z below #[Value.ref b] s) (F0 m 18 ls []) := by
  have hx := fx.1
  have hb := fx.2.1
  have hbA : ¬ A b := fun h => absurd (hA' b h) (by omega)
  intro n
  induction n with
  | zero => intro k h; omega
  | succ n ih =>
    intro k hn hk uC uM H locs ls hR hP hD hS hl
    refine lv_iload_n hx hb d_Law_law_18 rfl (lv_at hl 3 rfl) ?_
    refine lv_aload_n hx hb d_Law_law_19 rfl (lv_at hl 0 rfl) ?_
    refine va_slen hx hb hX hbl hbA hS d_Law_law_20 ?_
    refine lv_bipush (v := 6) hx hb d_Law_law_21 (by decide) ?_
    refine lv_isub hx hb d_Law_law_23 ?_
    refine lv_icmp_gt (tgt := 670) hx hb d_Law_law_24 (by decide) (fun hc => ?_) (fun hc => ?_)
    · refine lv_iconst (v := 1) hx hb d_Law_law_670 (by decide) ?_
      refine va_forget (fun q hq => hA' _ (hS.2.2 q hq)) ?_
      refine W.widen (k := 600000) (n := 7302250) (Nat.le_of_ble_eq_true rfl) (Nat.le_of_ble_eq_true rfl) ?_
      exact lw_ret hx hb hr hlocks d_Law_law_671
    have h6 : 6 * k + 6 ≤ L := lw_ltN hL hk hc
    refine lv_aload_n hx hb d_Law_law_27 rfl (lv_at hl 0 rfl) ?_
    refine lv_iload_n hx hb d_Law_law_28 rfl (lv_at hl 3 rfl) ?_
    refine va_sld hx hb hX hbl hbA hS (vp_in_nI (by omega) (by omega)) d_Law_law_29 ?_
    refine lv_bipush (v := 31) hx hb d_Law_law_30 (by decide) ?_
    refine lv_iand hx hb d_Law_law_32 ?_
    refine lv_topi (fun sw esw => ?_)
    have next : ∀ (uC uM : St) (H : Heap) (locs : List Loc), RR uC uM → va_P D clA (ly_W layC adC' cAC uC ++ ly_W layM adM' cAM uM) H → va_D A (ly_W layC adC' cAC uC ++ ly_W layM adM' cAM uM) → va_S A s.heap H locs → W p l e room_1 s m #[Value.ref b] below meth c H locs 74 18658 (lw_Z below #[Value.ref b] s) (F0 m 664 ls []) := by
      intro uC uM H locs hR hP hD hS
      refine lv_iinc (lv' := [(3, .int (nI (6 * (k + 1)))), (0, .ref b), (1, .ref (adC' 0)), (2, .ref (adM' 0))]) (k := 3) (v := nI (6 * (k + 1))) hx hb d_Law_law_664 hl rfl (by rw [show Int32.ofInt 6 = nI 6 from by decide, nI_add, Nat.mul_succ]) (by decide) rfl (fun ls hl => ?_)
      refine lv_goto (tgt := 18) hx hb d_Law_law_667 (by decide) ?_
      exact ih (k + 1) (by omega) (by omega) uC uM H locs ls hR hP hD hS (lv_sub hl [1, 2, 3, 0] rfl)
    by_cases hc0 : sw = (0 : Int32)
    · refine lv_tableIn (off := 87) (tgt := 120) hx hb d_Law_law_33 (by rw [hc0]; decide) (by rw [hc0]; decide) (by rw [hc0]; decide) (by decide) ?_
      refine lv_aload_n hx hb d_Law_law_120 rfl (lv_at hl 1 rfl) ?_
      refine lv_aload_n hx hb d_Law_law_121 rfl (lv_at hl 0 rfl) ?_
      refine lv_iload_n hx hb d_Law_law_122 rfl (lv_at hl 3 rfl) ?_
      refine lv_iconst (v := 1) hx hb d_Law_law_123 (by decide) ?_
      refine lv_iadd hx hb d_Law_law_124 ?_
      refine va_sld hx hb hX hbl hbA hS (lw_ix hL 1 (by omega)) d_Law_law_125 ?_
      refine lv_aload_n hx hb d_Law_law_126 rfl (lv_at hl 0 rfl) ?_
      refine lv_iload_n hx hb d_Law_law_127 rfl (lv_at hl 3 rfl) ?_
      refine lv_iconst (v := 2) hx hb d_Law_law_128 (by decide) ?_
      refine lv_iadd hx hb d_Law_law_129 ?_
      refine va_sld hx hb hX hbl hbA hS (lw_ix hL 2 (by omega)) d_Law_law_130 ?_
      refine lv_aload_n hx hb d_Law_law_131 rfl (lv_at hl 0 rfl) ?_
      refine lv_iload_n hx hb d_Law_law_132 rfl (lv_at hl 3 rfl) ?_
      refine lv_iconst (v := 3) hx hb d_Law_law_133 (by decide) ?_
      refine lv_iadd hx hb d_Law_law_134 ?_
      refine va_sld hx hb hX hbl hbA hS (lw_ix hL 3 (by omega)) d_Law_law_135 ?_
      refine lv_aload_n hx hb d_Law_law_136 rfl (lv_at hl 0 rfl) ?_
      refine lv_iload_n hx hb d_Law_law_137 rfl (lv_at hl 3 rfl) ?_
      refine lv_iconst (v := 4) hx hb d_Law_law_138 (by decide) ?_
      refine lv_iadd hx hb d_Law_law_139 ?_
      refine va_sld hx hb hX hbl hbA hS (lw_ix hL 4 (by omega)) d_Law_law_140 ?_
      refine lv_aload_n hx hb d_Law_law_141 rfl (lv_at hl 0 rfl) ?_
      refine lv_iload_n hx hb d_Law_law_142 rfl (lv_at hl 3 rfl) ?_
      refine lv_iconst (v := 5) hx hb d_Law_law_143 (by decide) ?_
      refine lv_iadd hx hb d_Law_law_144 ?_
      refine va_sld hx hb hX hbl hbA hS (lw_ix hL 5 (by omega)) d_Law_law_145 ?_
      obtain ⟨r, uC', uM', h1, h2, hR'⟩ := HS.1 uC uM hR (xs (nI (6 * k) + (1 : Int32)).toNatClampNeg) (xs (nI (6 * k) + (2 : Int32)).toNatClampNeg) (xs (nI (6 * k) + (3 : Int32)).toNatClampNeg) (xs (nI (6 * k) + (4 : Int32)).toNatClampNeg) (xs (nI (6 * k) + (5 : Int32)).toNatClampNeg)
      refine lw_cl (As := [.int (xs (nI (6 * k) + (1 : Int32)).toNatClampNeg), .int (xs (nI (6 * k) + (2 : Int32)).toNatClampNeg), .int (xs (nI (6 * k) + (3 : Int32)).toNatClampNeg), .int (xs (nI (6 * k) + (4 : Int32)).toNatClampNeg), .int (xs (nI (6 * k) + (5 : Int32)).toNatClampNeg)]) (rest := []) ZsC_ok fx hkC hz hA hP hD hS (c_CN_task l F (xs (nI (6 * k) + (1 : Int32)).toNatClampNeg) (xs (nI (6 * k) + (2 : Int32)).toNatClampNeg) (xs (nI (6 * k) + (3 : Int32)).toNatClampNeg) (xs (nI (6 * k) + (4 : Int32)).toNatClampNeg) (xs (nI (6 * k) + (5 : Int32)).toNatClampNeg) uC _ h1) (cw_V fx.2.2.2.2 a_183 a_184 a_185 a_1 ac_CN_task rfl rfl rfl hd_CN_task ⟨Nat.le_of_ble_eq_true rfl, Nat.le_of_ble_eq_true rfl⟩) 0 rfl rfl rfl rfl hl.1 rfl (Nat.le_of_ble_eq_true rfl) d_Law_law_146 (Nat.le_of_ble_eq_true rfl) (Nat.le_of_ble_eq_true rfl) (fun r' u' H locs hp hP hD hS => ?_)
      cases hp
      refine lv_aload_n hx hb d_Law_law_149 rfl (lv_at hl 2 rfl) ?_
      refine lv_aload_n hx hb d_Law_law_150 rfl (lv_at hl 0 rfl) ?_
      refine lv_iload_n hx hb d_Law_law_151 rfl (lv_at hl 3 rfl) ?_
      refine lv_iconst (v := 1) hx hb d_Law_law_152 (by decide) ?_
      refine lv_iadd hx hb d_Law_law_153 ?_
      refine va_sld hx hb hX hbl hbA hS (lw_ix hL 1 (by omega)) d_Law_law_154 ?_
      refine lv_aload_n hx hb d_Law_law_155 rfl (lv_at hl 0 rfl) ?_
      refine lv_iload_n hx hb d_Law_law_156 rfl (lv_at hl 3 rfl) ?_
      refine lv_iconst (v := 2) hx hb d_Law_law_157 (by decide) ?_
      refine lv_iadd hx hb d_Law_law_158 ?_
      refine va_sld hx hb hX hbl hbA hS (lw_ix hL 2 (by omega)) d_Law_law_159 ?_
      refine lv_aload_n hx hb d_Law_law_160 rfl (lv_at hl 0 rfl) ?_
      refine lv_iload_n hx hb d_Law_law_161 rfl (lv_at hl 3 rfl) ?_
      refine lv_iconst (v := 3) hx hb d_Law_law_162 (by decide) ?_
      refine lv_iadd hx hb d_Law_law_163 ?_
      refine va_sld hx hb hX hbl hbA hS (lw_ix hL 3 (by omega)) d_Law_law_164 ?_
      refine lv_aload_n hx hb d_Law_law_165 rfl (lv_at hl 0 rfl) ?_
      refine lv_iload_n hx hb d_Law_law_166 rfl (lv_at hl 3 rfl) ?_
      refine lv_iconst (v := 4) hx hb d_Law_law_167 (by decide) ?_
      refine lv_iadd hx hb d_Law_law_168 ?_
      refine va_sld hx hb hX hbl hbA hS (lw_ix hL 4 (by omega)) d_Law_law_169 ?_
      refine lv_aload_n hx hb d_Law_law_170 rfl (lv_at hl 0 rfl) ?_
      refine lv_iload_n hx hb d_Law_law_171 rfl (lv_at hl 3 rfl) ?_
      refine lv_iconst (v := 5) hx hb d_Law_law_172 (by decide) ?_
      refine lv_iadd hx hb d_Law_law_173 ?_
      refine va_sld hx hb hX hbl hbA hS (lw_ix hL 5 (by omega)) d_Law_law_174 ?_
      refine lw_cr (As := [.int (xs (nI (6 * k) + (1 : Int32)).toNatClampNeg), .int (xs (nI (6 * k) + (2 : Int32)).toNatClampNeg), .int (xs (nI (6 * k) + (3 : Int32)).toNatClampNeg), .int (xs (nI (6 * k) + (4 : Int32)).toNatClampNeg), .int (xs (nI (6 * k) + (5 : Int32)).toNatClampNeg)]) (rest := [.int r]) ZsM_ok fx hkM trivial hA hP hD hS (c_Md_task l F (xs (nI (6 * k) + (1 : Int32)).toNatClampNeg) (xs (nI (6 * k) + (2 : Int32)).toNatClampNeg) (xs (nI (6 * k) + (3 : Int32)).toNatClampNeg) (xs (nI (6 * k) + (4 : Int32)).toNatClampNeg) (xs (nI (6 * k) + (5 : Int32)).toNatClampNeg) uM _ h2) (cw_V fx.2.2.2.2 a_553 a_554 a_555 a_6 ac_Md_task rfl rfl rfl hd_Md_task ⟨Nat.le_of_ble_eq_true rfl, Nat.le_of_ble_eq_true rfl⟩) 0 rfl rfl rfl rfl hl.1 rfl (Nat.le_of_ble_eq_true rfl) d_Law_law_175 (Nat.le_of_ble_eq_true rfl) (Nat.le_of_ble_eq_true rfl) (fun r' u' H locs hp hP hD hS => ?_)
      cases hp
      refine lv_icmp_eq (tgt := 664) hx hb d_Law_law_178 (by decide) (fun _ => ?_) (fun hne => absurd rfl hne)
      exact next _ _ _ _ hR' hP hD hS
    by_cases hc1 : sw = (1 : Int32)
    · refine lv_tableIn (off := 150) (tgt := 183) hx hb d_Law_law_33 (by rw [hc1]; decide) (by rw [hc1]; decide) (by rw [hc1]; decide) (by decide) ?_
      refine lv_aload_n hx hb d_Law_law_183 rfl (lv_at hl 1 rfl) ?_
      refine lv_aload_n hx hb d_Law_law_184 rfl (lv_at hl 0 rfl) ?_
      refine lv_iload_n hx hb d_Law_law_185 rfl (lv_at hl 3 rfl) ?_
      refine lv_iconst (v := 1) hx hb d_Law_law_186 (by decide) ?_
      refine lv_iadd hx hb d_Law_law_187 ?_
      refine va_sld hx hb hX hbl hbA hS (lw_ix hL 1 (by omega)) d_Law_law_188 ?_
      refine lv_aload_n hx hb d_Law_law_189 rfl (lv_at hl 0 rfl) ?_
      refine lv_iload_n hx hb d_Law_law_190 rfl (lv_at hl 3 rfl) ?_
      refine lv_iconst (v := 2) hx hb d_Law_law_191 (by decide) ?_
      refine lv_iadd hx hb d_Law_law_192 ?_
      refine va_sld hx hb hX hbl hbA hS (lw_ix hL 2 (by omega)) d_Law_law_193 ?_
      obtain ⟨r, uC', uM', h1, h2, hR'⟩ := HS.2.1 uC uM hR (xs (nI (6 * k) + (1 : Int32)).toNatClampNeg) (xs (nI (6 * k) + (2 : Int32)).toNatClampNeg)
      refine lw_cl (As := [.int (xs (nI (6 * k) + (1 : Int32)).toNatClampNeg), .int (xs (nI (6 * k) + (2 : Int32)).toNatClampNeg)]) (rest := []) ZsC_ok fx hkC hz hA hP hD hS (c_CN_region l (xs (nI (6 * k) + (1 : Int32)).toNatClampNeg) (xs (nI (6 * k) + (2 : Int32)).toNatClampNeg) uC _ h1) (cw_V fx.2.2.2.2 a_225 a_226 a_227 a_1 ac_CN_region rfl rfl rfl hd_CN_region ⟨Nat.le_of_ble_eq_true rfl, Nat.le_of_ble_eq_true rfl⟩) 0 rfl rfl rfl rfl hl.1 rfl (Nat.le_of_ble_eq_true rfl) d_Law_law_194 (Nat.le_of_ble_eq_true rfl) (Nat.le_of_ble_eq_true rfl) (fun r' u' H locs hp hP hD hS => ?_)
      cases hp
      refine lv_aload_n hx hb d_Law_law_197 rfl (lv_at hl 2 rfl) ?_
      refine lv_aload_n hx hb d_Law_law_198 rfl (lv_at hl 0 rfl) ?_
      refine lv_iload_n hx hb d_Law_law_199 rfl (lv_at hl 3 rfl) ?_
      refine lv_iconst (v := 1) hx hb d_Law_law_200 (by decide) ?_
      refine lv_iadd hx hb d_Law_law_201 ?_
      refine va_sld hx hb hX hbl hbA hS (lw_ix hL 1 (by omega)) d_Law_law_202 ?_
      refine lv_aload_n hx hb d_Law_law_203 rfl (lv_at hl 0 rfl) ?_
      refine lv_iload_n hx hb d_Law_law_204 rfl (lv_at hl 3 rfl) ?_
      refine lv_iconst (v := 2) hx hb d_Law_law_205 (by decide) ?_
      refine lv_iadd hx hb d_Law_law_206 ?_
      refine va_sld hx hb hX hbl hbA hS (lw_ix hL 2 (by omega)) d_Law_law_207 ?_
      refine lw_cr (As := [.int (xs (nI (6 * k) + (1 : Int32)).toNatClampNeg), .int (xs (nI (6 * k) + (2 : Int32)).toNatClampNeg)]) (rest := [.int r]) ZsM_ok fx hkM trivial hA hP hD hS (c_Md_region l (xs (nI (6 * k) + (1 : Int32)).toNatClampNeg) (xs (nI (6 * k) + (2 : Int32)).toNatClampNeg) uM _ h2) (cw_V fx.2.2.2.2 a_565 a_566 a_567 a_6 ac_Md_region rfl rfl rfl hd_Md_region ⟨Nat.le_of_ble_eq_true rfl, Nat.le_of_ble_eq_true rfl⟩) 0 rfl rfl rfl rfl hl.1 rfl (Nat.le_of_ble_eq_true rfl) d_Law_law_208 (Nat.le_of_ble_eq_true rfl) (Nat.le_of_ble_eq_true rfl) (fun r' u' H locs hp hP hD hS => ?_)
      cases hp
      refine lv_icmp_eq (tgt := 664) hx hb d_Law_law_211 (by decide) (fun _ => ?_) (fun hne => absurd rfl hne)
      exact next _ _ _ _ hR' hP hD hS
    by_cases hc2 : sw = (2 : Int32)
    · refine lv_tableIn (off := 183) (tgt := 216) hx hb d_Law_law_33 (by rw [hc2]; decide) (by rw [hc2]; decide) (by rw [hc2]; decide) (by decide) ?_
      refine lv_aload_n hx hb d_Law_law_216 rfl (lv_at hl 1 rfl) ?_
      refine lv_aload_n hx hb d_Law_law_217 rfl (lv_at hl 0 rfl) ?_
      refine lv_iload_n hx hb d_Law_law_218 rfl (lv_at hl 3 rfl) ?_
      refine lv_iconst (v := 1) hx hb d_Law_law_219 (by decide) ?_
      refine lv_iadd hx hb d_Law_law_220 ?_
      refine va_sld hx hb hX hbl hbA hS (lw_ix hL 1 (by omega)) d_Law_law_221 ?_
      refine lv_aload_n hx hb d_Law_law_222 rfl (lv_at hl 0 rfl) ?_
      refine lv_iload_n hx hb d_Law_law_223 rfl (lv_at hl 3 rfl) ?_
      refine lv_iconst (v := 2) hx hb d_Law_law_224 (by decide) ?_
      refine lv_iadd hx hb d_Law_law_225 ?_
      refine va_sld hx hb hX hbl hbA hS (lw_ix hL 2 (by omega)) d_Law_law_226 ?_
      refine lv_aload_n hx hb d_Law_law_227 rfl (lv_at hl 0 rfl) ?_
      refine lv_iload_n hx hb d_Law_law_228 rfl (lv_at hl 3 rfl) ?_
      refine lv_iconst (v := 3) hx hb d_Law_law_229 (by decide) ?_
      refine lv_iadd hx hb d_Law_law_230 ?_
      refine va_sld hx hb hX hbl hbA hS (lw_ix hL 3 (by omega)) d_Law_law_231 ?_
      refine lv_aload_n hx hb d_Law_law_232 rfl (lv_at hl 0 rfl) ?_
      refine lv_iload_n hx hb d_Law_law_233 rfl (lv_at hl 3 rfl) ?_
      refine lv_iconst (v := 4) hx hb d_Law_law_234 (by decide) ?_
      refine lv_iadd hx hb d_Law_law_235 ?_
      refine va_sld hx hb hX hbl hbA hS (lw_ix hL 4 (by omega)) d_Law_law_236 ?_
      refine lv_aload_n hx hb d_Law_law_237 rfl (lv_at hl 0 rfl) ?_
      refine lv_iload_n hx hb d_Law_law_238 rfl (lv_at hl 3 rfl) ?_
      refine lv_iconst (v := 5) hx hb d_Law_law_239 (by decide) ?_
      refine lv_iadd hx hb d_Law_law_240 ?_
      refine va_sld hx hb hX hbl hbA hS (lw_ix hL 5 (by omega)) d_Law_law_241 ?_
      obtain ⟨r, uC', uM', h1, h2, hR'⟩ := HS.2.2.1 uC uM hR (xs (nI (6 * k) + (1 : Int32)).toNatClampNeg) (xs (nI (6 * k) + (2 : Int32)).toNatClampNeg) (xs (nI (6 * k) + (3 : Int32)).toNatClampNeg) (xs (nI (6 * k) + (4 : Int32)).toNatClampNeg) (xs (nI (6 * k) + (5 : Int32)).toNatClampNeg)
      refine lw_cl (As := [.int (xs (nI (6 * k) + (1 : Int32)).toNatClampNeg), .int (xs (nI (6 * k) + (2 : Int32)).toNatClampNeg), .int (xs (nI (6 * k) + (3 : Int32)).toNatClampNeg), .int (xs (nI (6 * k) + (4 : Int32)).toNatClampNeg), .int (xs (nI (6 * k) + (5 : Int32)).toNatClampNeg)]) (rest := []) ZsC_ok fx hkC hz hA hP hD hS (c_CN_guard l (xs (nI (6 * k) + (1 : Int32)).toNatClampNeg) (xs (nI (6 * k) + (2 : Int32)).toNatClampNeg) (xs (nI (6 * k) + (3 : Int32)).toNatClampNeg) (xs (nI (6 * k) + (4 : Int32)).toNatClampNeg) (xs (nI (6 * k) + (5 : Int32)).toNatClampNeg) uC _ h1) (cw_V fx.2.2.2.2 a_237 a_238 a_239 a_1 ac_CN_guard rfl rfl rfl hd_CN_guard ⟨Nat.le_of_ble_eq_true rfl, Nat.le_of_ble_eq_true rfl⟩) 0 rfl rfl rfl rfl hl.1 rfl (Nat.le_of_ble_eq_true rfl) d_Law_law_242 (Nat.le_of_ble_eq_true rfl) (Nat.le_of_ble_eq_true rfl) (fun r' u' H locs hp hP hD hS => ?_)
      cases hp
      refine lv_aload_n hx hb d_Law_law_245 rfl (lv_at hl 2 rfl) ?_
      refine lv_aload_n hx hb d_Law_law_246 rfl (lv_at hl 0 rfl) ?_
      refine lv_iload_n hx hb d_Law_law_247 rfl (lv_at hl 3 rfl) ?_
      refine lv_iconst (v := 1) hx hb d_Law_law_248 (by decide) ?_
      refine lv_iadd hx hb d_Law_law_249 ?_
      refine va_sld hx hb hX hbl hbA hS (lw_ix hL 1 (by omega)) d_Law_law_250 ?_
      refine lv_aload_n hx hb d_Law_law_251 rfl (lv_at hl 0 rfl) ?_
      refine lv_iload_n hx hb d_Law_law_252 rfl (lv_at hl 3 rfl) ?_
      refine lv_iconst (v := 2) hx hb d_Law_law_253 (by decide) ?_
      refine lv_iadd hx hb d_Law_law_254 ?_
      refine va_sld hx hb hX hbl hbA hS (lw_ix hL 2 (by omega)) d_Law_law_255 ?_
      refine lv_aload_n hx hb d_Law_law_256 rfl (lv_at hl 0 rfl) ?_
      refine lv_iload_n hx hb d_Law_law_257 rfl (lv_at hl 3 rfl) ?_
      refine lv_iconst (v := 3) hx hb d_Law_law_258 (by decide) ?_
      refine lv_iadd hx hb d_Law_law_259 ?_
      refine va_sld hx hb hX hbl hbA hS (lw_ix hL 3 (by omega)) d_Law_law_260 ?_
      refine lv_aload_n hx hb d_Law_law_261 rfl (lv_at hl 0 rfl) ?_
      refine lv_iload_n hx hb d_Law_law_262 rfl (lv_at hl 3 rfl) ?_
      refine lv_iconst (v := 4) hx hb d_Law_law_263 (by decide) ?_
      refine lv_iadd hx hb d_Law_law_264 ?_
      refine va_sld hx hb hX hbl hbA hS (lw_ix hL 4 (by omega)) d_Law_law_265 ?_
      refine lv_aload_n hx hb d_Law_law_266 rfl (lv_at hl 0 rfl) ?_
      refine lv_iload_n hx hb d_Law_law_267 rfl (lv_at hl 3 rfl) ?_
      refine lv_iconst (v := 5) hx hb d_Law_law_268 (by decide) ?_
      refine lv_iadd hx hb d_Law_law_269 ?_
      refine va_sld hx hb hX hbl hbA hS (lw_ix hL 5 (by omega)) d_Law_law_270 ?_
      refine lw_cr (As := [.int (xs (nI (6 * k) + (1 : Int32)).toNatClampNeg), .int (xs (nI (6 * k) + (2 : Int32)).toNatClampNeg), .int (xs (nI (6 * k) + (3 : Int32)).toNatClampNeg), .int (xs (nI (6 * k) + (4 : Int32)).toNatClampNeg), .int (xs (nI (6 * k) + (5 : Int32)).toNatClampNeg)]) (rest := [.int r]) ZsM_ok fx hkM trivial hA hP hD hS (c_Md_guard l (xs (nI (6 * k) + (1 : Int32)).toNatClampNeg) (xs (nI (6 * k) + (2 : Int32)).toNatClampNeg) (xs (nI (6 * k) + (3 : Int32)).toNatClampNeg) (xs (nI (6 * k) + (4 : Int32)).toNatClampNeg) (xs (nI (6 * k) + (5 : Int32)).toNatClampNeg) uM _ h2) (cw_V fx.2.2.2.2 a_576 a_577 a_578 a_6 ac_Md_guard rfl rfl rfl hd_Md_guard ⟨Nat.le_of_ble_eq_true rfl, Nat.le_of_ble_eq_true rfl⟩) 0 rfl rfl rfl rfl hl.1 rfl (Nat.le_of_ble_eq_true rfl) d_Law_law_271 (Nat.le_of_ble_eq_true rfl) (Nat.le_of_ble_eq_true rfl) (fun r' u' H locs hp hP hD hS => ?_)
      cases hp
      refine lv_icmp_eq (tgt := 664) hx hb d_Law_law_274 (by decide) (fun _ => ?_) (fun hne => absurd rfl hne)
      exact next _ _ _ _ hR' hP hD hS
    by_cases hc3 : sw = (3 : Int32)
    · refine lv_tableIn (off := 246) (tgt := 279) hx hb d_Law_law_33 (by rw [hc3]; decide) (by rw [hc3]; decide) (by rw [hc3]; decide) (by decide) ?_
      refine lv_aload_n hx hb d_Law_law_279 rfl (lv_at hl 1 rfl) ?_
      refine lv_aload_n hx hb d_Law_law_280 rfl (lv_at hl 0 rfl) ?_
      refine lv_iload_n hx hb d_Law_law_281 rfl (lv_at hl 3 rfl) ?_
      refine lv_iconst (v := 1) hx hb d_Law_law_282 (by decide) ?_
      refine lv_iadd hx hb d_Law_law_283 ?_
      refine va_sld hx hb hX hbl hbA hS (lw_ix hL 1 (by omega)) d_Law_law_284 ?_
      refine lv_aload_n hx hb d_Law_law_285 rfl (lv_at hl 0 rfl) ?_
      refine lv_iload_n hx hb d_Law_law_286 rfl (lv_at hl 3 rfl) ?_
      refine lv_iconst (v := 2) hx hb d_Law_law_287 (by decide) ?_
      refine lv_iadd hx hb d_Law_law_288 ?_
      refine va_sld hx hb hX hbl hbA hS (lw_ix hL 2 (by omega)) d_Law_law_289 ?_
      refine lv_aload_n hx hb d_Law_law_290 rfl (lv_at hl 0 rfl) ?_
      refine lv_iload_n hx hb d_Law_law_291 rfl (lv_at hl 3 rfl) ?_
      refine lv_iconst (v := 3) hx hb d_Law_law_292 (by decide) ?_
      refine lv_iadd hx hb d_Law_law_293 ?_
      refine va_sld hx hb hX hbl hbA hS (lw_ix hL 3 (by omega)) d_Law_law_294 ?_
      refine lv_aload_n hx hb d_Law_law_295 rfl (lv_at hl 0 rfl) ?_
      refine lv_iload_n hx hb d_Law_law_296 rfl (lv_at hl 3 rfl) ?_
      refine lv_iconst (v := 4) hx hb d_Law_law_297 (by decide) ?_
      refine lv_iadd hx hb d_Law_law_298 ?_
      refine va_sld hx hb hX hbl hbA hS (lw_ix hL 4 (by omega)) d_Law_law_299 ?_
      refine lv_aload_n hx hb d_Law_law_300 rfl (lv_at hl 0 rfl) ?_
      refine lv_iload_n hx hb d_Law_law_301 rfl (lv_at hl 3 rfl) ?_
      refine lv_iconst (v := 5) hx hb d_Law_law_302 (by decide) ?_
      refine lv_iadd hx hb d_Law_law_303 ?_
      refine va_sld hx hb hX hbl hbA hS (lw_ix hL 5 (by omega)) d_Law_law_304 ?_
      obtain ⟨r, uC', uM', h1, h2, hR'⟩ := HS.2.2.2.1 uC uM hR (xs (nI (6 * k) + (1 : Int32)).toNatClampNeg) (xs (nI (6 * k) + (2 : Int32)).toNatClampNeg) (xs (nI (6 * k) + (3 : Int32)).toNatClampNeg) (xs (nI (6 * k) + (4 : Int32)).toNatClampNeg) (xs (nI (6 * k) + (5 : Int32)).toNatClampNeg)
      refine lw_cl (As := [.int (xs (nI (6 * k) + (1 : Int32)).toNatClampNeg), .int (xs (nI (6 * k) + (2 : Int32)).toNatClampNeg), .int (xs (nI (6 * k) + (3 : Int32)).toNatClampNeg), .int (xs (nI (6 * k) + (4 : Int32)).toNatClampNeg), .int (xs (nI (6 * k) + (5 : Int32)).toNatClampNeg)]) (rest := []) ZsC_ok fx hkC hz hA hP hD hS (c_CN_items l (xs (nI (6 * k) + (1 : Int32)).toNatClampNeg) (xs (nI (6 * k) + (2 : Int32)).toNatClampNeg) (xs (nI (6 * k) + (3 : Int32)).toNatClampNeg) (xs (nI (6 * k) + (4 : Int32)).toNatClampNeg) (xs (nI (6 * k) + (5 : Int32)).toNatClampNeg) uC _ h1) (cw_V fx.2.2.2.2 a_245 a_246 a_247 a_1 ac_CN_items rfl rfl rfl hd_CN_items ⟨Nat.le_of_ble_eq_true rfl, Nat.le_of_ble_eq_true rfl⟩) 0 rfl rfl rfl rfl hl.1 rfl (Nat.le_of_ble_eq_true rfl) d_Law_law_305 (Nat.le_of_ble_eq_true rfl) (Nat.le_of_ble_eq_true rfl) (fun r' u' H locs hp hP hD hS => ?_)
      cases hp
      refine lv_aload_n hx hb d_Law_law_308 rfl (lv_at hl 2 rfl) ?_
      refine lv_aload_n hx hb d_Law_law_309 rfl (lv_at hl 0 rfl) ?_
      refine lv_iload_n hx hb d_Law_law_310 rfl (lv_at hl 3 rfl) ?_
      refine lv_iconst (v := 1) hx hb d_Law_law_311 (by decide) ?_
      refine lv_iadd hx hb d_Law_law_312 ?_
      refine va_sld hx hb hX hbl hbA hS (lw_ix hL 1 (by omega)) d_Law_law_313 ?_
      refine lv_aload_n hx hb d_Law_law_314 rfl (lv_at hl 0 rfl) ?_
      refine lv_iload_n hx hb d_Law_law_315 rfl (lv_at hl 3 rfl) ?_
      refine lv_iconst (v := 2) hx hb d_Law_law_316 (by decide) ?_
      refine lv_iadd hx hb d_Law_law_317 ?_
      refine va_sld hx hb hX hbl hbA hS (lw_ix hL 2 (by omega)) d_Law_law_318 ?_
      refine lv_aload_n hx hb d_Law_law_319 rfl (lv_at hl 0 rfl) ?_
      refine lv_iload_n hx hb d_Law_law_320 rfl (lv_at hl 3 rfl) ?_
      refine lv_iconst (v := 3) hx hb d_Law_law_321 (by decide) ?_
      refine lv_iadd hx hb d_Law_law_322 ?_
      refine va_sld hx hb hX hbl hbA hS (lw_ix hL 3 (by omega)) d_Law_law_323 ?_
      refine lv_aload_n hx hb d_Law_law_324 rfl (lv_at hl 0 rfl) ?_
      refine lv_iload_n hx hb d_Law_law_325 rfl (lv_at hl 3 rfl) ?_
      refine lv_iconst (v := 4) hx hb d_Law_law_326 (by decide) ?_
      refine lv_iadd hx hb d_Law_law_327 ?_
      refine va_sld hx hb hX hbl hbA hS (lw_ix hL 4 (by omega)) d_Law_law_328 ?_
      refine lv_aload_n hx hb d_Law_law_329 rfl (lv_at hl 0 rfl) ?_
      refine lv_iload_n hx hb d_Law_law_330 rfl (lv_at hl 3 rfl) ?_
      refine lv_iconst (v := 5) hx hb d_Law_law_331 (by decide) ?_
      refine lv_iadd hx hb d_Law_law_332 ?_
      refine va_sld hx hb hX hbl hbA hS (lw_ix hL 5 (by omega)) d_Law_law_333 ?_
      refine lw_cr (As := [.int (xs (nI (6 * k) + (1 : Int32)).toNatClampNeg), .int (xs (nI (6 * k) + (2 : Int32)).toNatClampNeg), .int (xs (nI (6 * k) + (3 : Int32)).toNatClampNeg), .int (xs (nI (6 * k) + (4 : Int32)).toNatClampNeg), .int (xs (nI (6 * k) + (5 : Int32)).toNatClampNeg)]) (rest := [.int r]) ZsM_ok fx hkM trivial hA hP hD hS (c_Md_items l (xs (nI (6 * k) + (1 : Int32)).toNatClampNeg) (xs (nI (6 * k) + (2 : Int32)).toNatClampNeg) (xs (nI (6 * k) + (3 : Int32)).toNatClampNeg) (xs (nI (6 * k) + (4 : Int32)).toNatClampNeg) (xs (nI (6 * k) + (5 : Int32)).toNatClampNeg) uM _ h2) (cw_V fx.2.2.2.2 a_580 a_581 a_582 a_6 ac_Md_items rfl rfl rfl hd_Md_items ⟨Nat.le_of_ble_eq_true rfl, Nat.le_of_ble_eq_true rfl⟩) 0 rfl rfl rfl rfl hl.1 rfl (Nat.le_of_ble_eq_true rfl) d_Law_law_334 (Nat.le_of_ble_eq_true rfl) (Nat.le_of_ble_eq_true rfl) (fun r' u' H locs hp hP hD hS => ?_)
      cases hp
      refine lv_icmp_eq (tgt := 664) hx hb d_Law_law_337 (by decide) (fun _ => ?_) (fun hne => absurd rfl hne)
      exact next _ _ _ _ hR' hP hD hS
    by_cases hc4 : sw = (4 : Int32)
    · refine lv_tableIn (off := 309) (tgt := 342) hx hb d_Law_law_33 (by rw [hc4]; decide) (by rw [hc4]; decide) (by rw [hc4]; decide) (by decide) ?_
      refine lv_aload_n hx hb d_Law_law_342 rfl (lv_at hl 1 rfl) ?_
      obtain ⟨r, uC', uM', h1, h2, hR'⟩ := HS.2.2.2.2.1 uC uM hR 
      refine lw_cl (As := []) (rest := []) ZsC_ok fx hkC hz hA hP hD hS (c_CN_launch l F uC _ h1) (cw_V fx.2.2.2.2 a_250 a_251 a_252 a_1 ac_CN_launch rfl rfl rfl hd_CN_launch ⟨Nat.le_of_ble_eq_true rfl, Nat.le_of_ble_eq_true rfl⟩) 0 rfl rfl rfl rfl hl.1 rfl (Nat.le_of_ble_eq_true rfl) d_Law_law_343 (Nat.le_of_ble_eq_true rfl) (Nat.le_of_ble_eq_true rfl) (fun r' u' H locs hp hP hD hS => ?_)
      cases hp
      refine lv_aload_n hx hb d_Law_law_346 rfl (lv_at hl 2 rfl) ?_
      refine lw_cr (As := []) (rest := [.int r]) ZsM_ok fx hkM trivial hA hP hD hS (c_Md_launch l F uM _ h2) (cw_V fx.2.2.2.2 a_604 a_605 a_606 a_6 ac_Md_launch rfl rfl rfl hd_Md_launch ⟨Nat.le_of_ble_eq_true rfl, Nat.le_of_ble_eq_true rfl⟩) 0 rfl rfl rfl rfl hl.1 rfl (Nat.le_of_ble_eq_true rfl) d_Law_law_347 (Nat.le_of_ble_eq_true rfl) (Nat.le_of_ble_eq_true rfl) (fun r' u' H locs hp hP hD hS => ?_)
      cases hp
      refine lv_icmp_eq (tgt := 664) hx hb d_Law_law_350 (by decide) (fun _ => ?_) (fun hne => absurd rfl hne)
      exact next _ _ _ _ hR' hP hD hS
    by_cases hc5 : sw = (5 : Int32)
    · refine lv_tableIn (off := 322) (tgt := 355) hx hb d_Law_law_33 (by rw [hc5]; decide) (by rw [hc5]; decide) (by rw [hc5]; decide) (by decide) ?_
      refine lv_aload_n hx hb d_Law_law_355 rfl (lv_at hl 1 rfl) ?_
      obtain ⟨r, uC', uM', h1, h2, hR'⟩ := HS.2.2.2.2.2.1 uC uM hR 
      refine lw_cl (As := []) (rest := []) ZsC_ok fx hkC hz hA hP hD hS (c_CN_cancel l F uC _ h1) (cw_V fx.2.2.2.2 a_258 a_259 a_260 a_1 ac_CN_cancel rfl rfl rfl hd_CN_cancel ⟨Nat.le_of_ble_eq_true rfl, Nat.le_of_ble_eq_true rfl⟩) 0 rfl rfl rfl rfl hl.1 rfl (Nat.le_of_ble_eq_true rfl) d_Law_law_356 (Nat.le_of_ble_eq_true rfl) (Nat.le_of_ble_eq_true rfl) (fun r' u' H locs hp hP hD hS => ?_)
      cases hp
      refine lv_aload_n hx hb d_Law_law_359 rfl (lv_at hl 2 rfl) ?_
      refine lw_cr (As := []) (rest := [.int r]) ZsM_ok fx hkM trivial hA hP hD hS (c_Md_cancel l F uM _ h2) (cw_V fx.2.2.2.2 a_612 a_613 a_614 a_6 ac_Md_cancel rfl rfl rfl hd_Md_cancel ⟨Nat.le_of_ble_eq_true rfl, Nat.le_of_ble_eq_true rfl⟩) 0 rfl rfl rfl rfl hl.1 rfl (Nat.le_of_ble_eq_true rfl) d_Law_law_360 (Nat.le_of_ble_eq_true rfl) (Nat.le_of_ble_eq_true rfl) (fun r' u' H locs hp hP hD hS => ?_)
      cases hp
      refine lv_icmp_eq (tgt := 664) hx hb d_Law_law_363 (by decide) (fun _ => ?_) (fun hne => absurd rfl hne)
      exact next _ _ _ _ hR' hP hD hS
    by_cases hc6 : sw = (6 : Int32)
    · refine lv_tableIn (off := 335) (tgt := 368) hx hb d_Law_law_33 (by rw [hc6]; decide) (by rw [hc6]; decide) (by rw [hc6]; decide) (by decide) ?_
      refine lv_aload_n hx hb d_Law_law_368 rfl (lv_at hl 1 rfl) ?_
      obtain ⟨r, uC', uM', h1, h2, hR'⟩ := HS.2.2.2.2.2.2.1 uC uM hR 
      refine lw_cl (As := []) (rest := []) ZsC_ok fx hkC hz hA hP hD hS (c_CN_enabled l F uC _ h1) (cw_V fx.2.2.2.2 a_278 a_279 a_280 a_1 ac_CN_enabled rfl rfl rfl hd_CN_enabled ⟨Nat.le_of_ble_eq_true rfl, Nat.le_of_ble_eq_true rfl⟩) 0 rfl rfl rfl rfl hl.1 rfl (Nat.le_of_ble_eq_true rfl) d_Law_law_369 (Nat.le_of_ble_eq_true rfl) (Nat.le_of_ble_eq_true rfl) (fun r' u' H locs hp hP hD hS => ?_)
      cases hp
      refine lv_aload_n hx hb d_Law_law_372 rfl (lv_at hl 2 rfl) ?_
      refine lw_cr (As := []) (rest := [.int r]) ZsM_ok fx hkM trivial hA hP hD hS (c_Md_enabled l F uM _ h2) (cw_V fx.2.2.2.2 a_624 a_625 a_626 a_6 ac_Md_enabled rfl rfl rfl hd_Md_enabled ⟨Nat.le_of_ble_eq_true rfl, Nat.le_of_ble_eq_true rfl⟩) 0 rfl rfl rfl rfl hl.1 rfl (Nat.le_of_ble_eq_true rfl) d_Law_law_373 (Nat.le_of_ble_eq_true rfl) (Nat.le_of_ble_eq_true rfl) (fun r' u' H locs hp hP hD hS => ?_)
      cases hp
      refine lv_icmp_eq (tgt := 664) hx hb d_Law_law_376 (by decide) (fun _ => ?_) (fun hne => absurd rfl hne)
      exact next _ _ _ _ hR' hP hD hS
    by_cases hc7 : sw = (7 : Int32)
    · refine lv_tableIn (off := 348) (tgt := 381) hx hb d_Law_law_33 (by rw [hc7]; decide) (by rw [hc7]; decide) (by rw [hc7]; decide) (by decide) ?_
      refine lv_aload_n hx hb d_Law_law_381 rfl (lv_at hl 1 rfl) ?_
      refine lv_aload_n hx hb d_Law_law_382 rfl (lv_at hl 0 rfl) ?_
      refine lv_iload_n hx hb d_Law_law_383 rfl (lv_at hl 3 rfl) ?_
      refine lv_iconst (v := 1) hx hb d_Law_law_384 (by decide) ?_
      refine lv_iadd hx hb d_Law_law_385 ?_
      refine va_sld hx hb hX hbl hbA hS (lw_ix hL 1 (by omega)) d_Law_law_386 ?_
      obtain ⟨r, uC', uM', h1, h2, hR'⟩ := HS.2.2.2.2.2.2.2.1 uC uM hR (xs (nI (6 * k) + (1 : Int32)).toNatClampNeg)
      refine lw_cl (As := [.int (xs (nI (6 * k) + (1 : Int32)).toNatClampNeg)]) (rest := []) ZsC_ok fx hkC hz hA hP hD hS (c_CN_fire l F (xs (nI (6 * k) + (1 : Int32)).toNatClampNeg) uC _ h1) (cw_V fx.2.2.2.2 a_338 a_339 a_340 a_1 ac_CN_fire rfl rfl rfl hd_CN_fire ⟨Nat.le_of_ble_eq_true rfl, Nat.le_of_ble_eq_true rfl⟩) 0 rfl rfl rfl rfl hl.1 rfl (Nat.le_of_ble_eq_true rfl) d_Law_law_387 (Nat.le_of_ble_eq_true rfl) (Nat.le_of_ble_eq_true rfl) (fun r' u' H locs hp hP hD hS => ?_)
      cases hp
      refine lv_aload_n hx hb d_Law_law_390 rfl (lv_at hl 2 rfl) ?_
      refine lv_aload_n hx hb d_Law_law_391 rfl (lv_at hl 0 rfl) ?_
      refine lv_iload_n hx hb d_Law_law_392 rfl (lv_at hl 3 rfl) ?_
      refine lv_iconst (v := 1) hx hb d_Law_law_393 (by decide) ?_
      refine lv_iadd hx hb d_Law_law_394 ?_
      refine va_sld hx hb hX hbl hbA hS (lw_ix hL 1 (by omega)) d_Law_law_395 ?_
      refine lw_cr (As := [.int (xs (nI (6 * k) + (1 : Int32)).toNatClampNeg)]) (rest := [.int r]) ZsM_ok fx hkM trivial hA hP hD hS (c_Md_fire l F (xs (nI (6 * k) + (1 : Int32)).toNatClampNeg) uM _ h2) (cw_V fx.2.2.2.2 a_636 a_637 a_638 a_6 ac_Md_fire rfl rfl rfl hd_Md_fire ⟨Nat.le_of_ble_eq_true rfl, Nat.le_of_ble_eq_true rfl⟩) 0 rfl rfl rfl rfl hl.1 rfl (Nat.le_of_ble_eq_true rfl) d_Law_law_396 (Nat.le_of_ble_eq_true rfl) (Nat.le_of_ble_eq_true rfl) (fun r' u' H locs hp hP hD hS => ?_)
      cases hp
      refine lv_icmp_eq (tgt := 664) hx hb d_Law_law_399 (by decide) (fun _ => ?_) (fun hne => absurd rfl hne)
      exact next _ _ _ _ hR' hP hD hS
    by_cases hc8 : sw = (8 : Int32)
    · refine lv_tableIn (off := 371) (tgt := 404) hx hb d_Law_law_33 (by rw [hc8]; decide) (by rw [hc8]; decide) (by rw [hc8]; decide) (by decide) ?_
      refine lv_aload_n hx hb d_Law_law_404 rfl (lv_at hl 1 rfl) ?_
      refine lv_aload_n hx hb d_Law_law_405 rfl (lv_at hl 0 rfl) ?_
      refine lv_iload_n hx hb d_Law_law_406 rfl (lv_at hl 3 rfl) ?_
      refine lv_iconst (v := 1) hx hb d_Law_law_407 (by decide) ?_
      refine lv_iadd hx hb d_Law_law_408 ?_
      refine va_sld hx hb hX hbl hbA hS (lw_ix hL 1 (by omega)) d_Law_law_409 ?_
      obtain ⟨r, uC', uM', h1, h2, hR'⟩ := HS.2.2.2.2.2.2.2.2.1 uC uM hR (xs (nI (6 * k) + (1 : Int32)).toNatClampNeg)
      refine lw_cl (As := [.int (xs (nI (6 * k) + (1 : Int32)).toNatClampNeg)]) (rest := []) ZsC_ok fx hkC hz hA hP hD hS (c_CN_start l (xs (nI (6 * k) + (1 : Int32)).toNatClampNeg) uC _ h1) (cw_V fx.2.2.2.2 a_354 a_355 a_356 a_1 ac_CN_start rfl rfl rfl hd_CN_start ⟨Nat.le_of_ble_eq_true rfl, Nat.le_of_ble_eq_true rfl⟩) 0 rfl rfl rfl rfl hl.1 rfl (Nat.le_of_ble_eq_true rfl) d_Law_law_410 (Nat.le_of_ble_eq_true rfl) (Nat.le_of_ble_eq_true rfl) (fun r' u' H locs hp hP hD hS => ?_)
      cases hp
      refine lv_aload_n hx hb d_Law_law_413 rfl (lv_at hl 2 rfl) ?_
      refine lv_aload_n hx hb d_Law_law_414 rfl (lv_at hl 0 rfl) ?_
      refine lv_iload_n hx hb d_Law_law_415 rfl (lv_at hl 3 rfl) ?_
      refine lv_iconst (v := 1) hx hb d_Law_law_416 (by decide) ?_
      refine lv_iadd hx hb d_Law_law_417 ?_
      refine va_sld hx hb hX hbl hbA hS (lw_ix hL 1 (by omega)) d_Law_law_418 ?_
      refine lw_cr (As := [.int (xs (nI (6 * k) + (1 : Int32)).toNatClampNeg)]) (rest := [.int r]) ZsM_ok fx hkM trivial hA hP hD hS (c_Md_start l (xs (nI (6 * k) + (1 : Int32)).toNatClampNeg) uM _ h2) (cw_V fx.2.2.2.2 a_640 a_641 a_642 a_6 ac_Md_start rfl rfl rfl hd_Md_start ⟨Nat.le_of_ble_eq_true rfl, Nat.le_of_ble_eq_true rfl⟩) 0 rfl rfl rfl rfl hl.1 rfl (Nat.le_of_ble_eq_true rfl) d_Law_law_419 (Nat.le_of_ble_eq_true rfl) (Nat.le_of_ble_eq_true rfl) (fun r' u' H locs hp hP hD hS => ?_)
      cases hp
      refine lv_icmp_eq (tgt := 664) hx hb d_Law_law_422 (by decide) (fun _ => ?_) (fun hne => absurd rfl hne)
      exact next _ _ _ _ hR' hP hD hS
    by_cases hc9 : sw = (9 : Int32)
    · refine lv_tableIn (off := 394) (tgt := 427) hx hb d_Law_law_33 (by rw [hc9]; decide) (by rw [hc9]; decide) (by rw [hc9]; decide) (by decide) ?_
      refine lv_aload_n hx hb d_Law_law_427 rfl (lv_at hl 1 rfl) ?_
      refine lv_aload_n hx hb d_Law_law_428 rfl (lv_at hl 0 rfl) ?_
      refine lv_iload_n hx hb d_Law_law_429 rfl (lv_at hl 3 rfl) ?_
      refine lv_iconst (v := 1) hx hb d_Law_law_430 (by decide) ?_
      refine lv_iadd hx hb d_Law_law_431 ?_
      refine va_sld hx hb hX hbl hbA hS (lw_ix hL 1 (by omega)) d_Law_law_432 ?_
      refine lv_aload_n hx hb d_Law_law_433 rfl (lv_at hl 0 rfl) ?_
      refine lv_iload_n hx hb d_Law_law_434 rfl (lv_at hl 3 rfl) ?_
      refine lv_iconst (v := 2) hx hb d_Law_law_435 (by decide) ?_
      refine lv_iadd hx hb d_Law_law_436 ?_
      refine va_sld hx hb hX hbl hbA hS (lw_ix hL 2 (by omega)) d_Law_law_437 ?_
      obtain ⟨r, uC', uM', h1, h2, hR'⟩ := HS.2.2.2.2.2.2.2.2.2.1 uC uM hR (xs (nI (6 * k) + (1 : Int32)).toNatClampNeg) (xs (nI (6 * k) + (2 : Int32)).toNatClampNeg)
      refine lw_cl (As := [.int (xs (nI (6 * k) + (1 : Int32)).toNatClampNeg), .int (xs (nI (6 * k) + (2 : Int32)).toNatClampNeg)]) (rest := []) ZsC_ok fx hkC hz hA hP hD hS (c_CN_finish l F (xs (nI (6 * k) + (1 : Int32)).toNatClampNeg) (xs (nI (6 * k) + (2 : Int32)).toNatClampNeg) uC _ h1) (cw_V fx.2.2.2.2 a_362 a_363 a_364 a_1 ac_CN_finish rfl rfl rfl hd_CN_finish ⟨Nat.le_of_ble_eq_true rfl, Nat.le_of_ble_eq_true rfl⟩) 0 rfl rfl rfl rfl hl.1 rfl (Nat.le_of_ble_eq_true rfl) d_Law_law_438 (Nat.le_of_ble_eq_true rfl) (Nat.le_of_ble_eq_true rfl) (fun r' u' H locs hp hP hD hS => ?_)
      cases hp
      refine lv_aload_n hx hb d_Law_law_441 rfl (lv_at hl 2 rfl) ?_
      refine lv_aload_n hx hb d_Law_law_442 rfl (lv_at hl 0 rfl) ?_
      refine lv_iload_n hx hb d_Law_law_443 rfl (lv_at hl 3 rfl) ?_
      refine lv_iconst (v := 1) hx hb d_Law_law_444 (by decide) ?_
      refine lv_iadd hx hb d_Law_law_445 ?_
      refine va_sld hx hb hX hbl hbA hS (lw_ix hL 1 (by omega)) d_Law_law_446 ?_
      refine lv_aload_n hx hb d_Law_law_447 rfl (lv_at hl 0 rfl) ?_
      refine lv_iload_n hx hb d_Law_law_448 rfl (lv_at hl 3 rfl) ?_
      refine lv_iconst (v := 2) hx hb d_Law_law_449 (by decide) ?_
      refine lv_iadd hx hb d_Law_law_450 ?_
      refine va_sld hx hb hX hbl hbA hS (lw_ix hL 2 (by omega)) d_Law_law_451 ?_
      refine lw_cr (As := [.int (xs (nI (6 * k) + (1 : Int32)).toNatClampNeg), .int (xs (nI (6 * k) + (2 : Int32)).toNatClampNeg)]) (rest := [.int r]) ZsM_ok fx hkM trivial hA hP hD hS (c_Md_finish l F (xs (nI (6 * k) + (1 : Int32)).toNatClampNeg) (xs (nI (6 * k) + (2 : Int32)).toNatClampNeg) uM _ h2) (cw_V fx.2.2.2.2 a_648 a_649 a_650 a_6 ac_Md_finish rfl rfl rfl hd_Md_finish ⟨Nat.le_of_ble_eq_true rfl, Nat.le_of_ble_eq_true rfl⟩) 0 rfl rfl rfl rfl hl.1 rfl (Nat.le_of_ble_eq_true rfl) d_Law_law_452 (Nat.le_of_ble_eq_true rfl) (Nat.le_of_ble_eq_true rfl) (fun r' u' H locs hp hP hD hS => ?_)
      cases hp
      refine lv_icmp_eq (tgt := 664) hx hb d_Law_law_455 (by decide) (fun _ => ?_) (fun hne => absurd rfl hne)
      exact next _ _ _ _ hR' hP hD hS
    by_cases hc10 : sw = (10 : Int32)
    · refine lv_tableIn (off := 427) (tgt := 460) hx hb d_Law_law_33 (by rw [hc10]; decide) (by rw [hc10]; decide) (by rw [hc10]; decide) (by decide) ?_
      refine lv_aload_n hx hb d_Law_law_460 rfl (lv_at hl 1 rfl) ?_
      refine lv_aload_n hx hb d_Law_law_461 rfl (lv_at hl 0 rfl) ?_
      refine lv_iload_n hx hb d_Law_law_462 rfl (lv_at hl 3 rfl) ?_
      refine lv_iconst (v := 1) hx hb d_Law_law_463 (by decide) ?_
      refine lv_iadd hx hb d_Law_law_464 ?_
      refine va_sld hx hb hX hbl hbA hS (lw_ix hL 1 (by omega)) d_Law_law_465 ?_
      obtain ⟨r, uC', uM', h1, h2, hR'⟩ := HS.2.2.2.2.2.2.2.2.2.2.1 uC uM hR (xs (nI (6 * k) + (1 : Int32)).toNatClampNeg)
      refine lw_cl (As := [.int (xs (nI (6 * k) + (1 : Int32)).toNatClampNeg)]) (rest := []) ZsC_ok fx hkC hz hA hP hD hS (c_CN_fail l F (xs (nI (6 * k) + (1 : Int32)).toNatClampNeg) uC _ h1) (cw_V fx.2.2.2.2 a_390 a_391 a_392 a_1 ac_CN_fail rfl rfl rfl hd_CN_fail ⟨Nat.le_of_ble_eq_true rfl, Nat.le_of_ble_eq_true rfl⟩) 0 rfl rfl rfl rfl hl.1 rfl (Nat.le_of_ble_eq_true rfl) d_Law_law_466 (Nat.le_of_ble_eq_true rfl) (Nat.le_of_ble_eq_true rfl) (fun r' u' H locs hp hP hD hS => ?_)
      cases hp
      refine lv_aload_n hx hb d_Law_law_469 rfl (lv_at hl 2 rfl) ?_
      refine lv_aload_n hx hb d_Law_law_470 rfl (lv_at hl 0 rfl) ?_
      refine lv_iload_n hx hb d_Law_law_471 rfl (lv_at hl 3 rfl) ?_
      refine lv_iconst (v := 1) hx hb d_Law_law_472 (by decide) ?_
      refine lv_iadd hx hb d_Law_law_473 ?_
      refine va_sld hx hb hX hbl hbA hS (lw_ix hL 1 (by omega)) d_Law_law_474 ?_
      refine lw_cr (As := [.int (xs (nI (6 * k) + (1 : Int32)).toNatClampNeg)]) (rest := [.int r]) ZsM_ok fx hkM trivial hA hP hD hS (c_Md_fail l F (xs (nI (6 * k) + (1 : Int32)).toNatClampNeg) uM _ h2) (cw_V fx.2.2.2.2 a_660 a_661 a_662 a_6 ac_Md_fail rfl rfl rfl hd_Md_fail ⟨Nat.le_of_ble_eq_true rfl, Nat.le_of_ble_eq_true rfl⟩) 0 rfl rfl rfl rfl hl.1 rfl (Nat.le_of_ble_eq_true rfl) d_Law_law_475 (Nat.le_of_ble_eq_true rfl) (Nat.le_of_ble_eq_true rfl) (fun r' u' H locs hp hP hD hS => ?_)
      cases hp
      refine lv_icmp_eq (tgt := 664) hx hb d_Law_law_478 (by decide) (fun _ => ?_) (fun hne => absurd rfl hne)
      exact next _ _ _ _ hR' hP hD hS
    by_cases hc11 : sw = (11 : Int32)
    · refine lv_tableIn (off := 450) (tgt := 483) hx hb d_Law_law_33 (by rw [hc11]; decide) (by rw [hc11]; decide) (by rw [hc11]; decide) (by decide) ?_
      refine lv_aload_n hx hb d_Law_law_483 rfl (lv_at hl 1 rfl) ?_
      refine lv_aload_n hx hb d_Law_law_484 rfl (lv_at hl 0 rfl) ?_
      refine lv_iload_n hx hb d_Law_law_485 rfl (lv_at hl 3 rfl) ?_
      refine lv_iconst (v := 1) hx hb d_Law_law_486 (by decide) ?_
      refine lv_iadd hx hb d_Law_law_487 ?_
      refine va_sld hx hb hX hbl hbA hS (lw_ix hL 1 (by omega)) d_Law_law_488 ?_
      obtain ⟨r, uC', uM', h1, h2, hR'⟩ := HS.2.2.2.2.2.2.2.2.2.2.2.1 uC uM hR (xs (nI (6 * k) + (1 : Int32)).toNatClampNeg)
      refine lw_cl (As := [.int (xs (nI (6 * k) + (1 : Int32)).toNatClampNeg)]) (rest := []) ZsC_ok fx hkC hz hA hP hD hS (c_CN_tick l F (xs (nI (6 * k) + (1 : Int32)).toNatClampNeg) uC _ h1) (cw_V fx.2.2.2.2 a_399 a_400 a_401 a_1 ac_CN_tick rfl rfl rfl hd_CN_tick ⟨Nat.le_of_ble_eq_true rfl, Nat.le_of_ble_eq_true rfl⟩) 0 rfl rfl rfl rfl hl.1 rfl (Nat.le_of_ble_eq_true rfl) d_Law_law_489 (Nat.le_of_ble_eq_true rfl) (Nat.le_of_ble_eq_true rfl) (fun r' u' H locs hp hP hD hS => ?_)
      cases hp
      refine lv_aload_n hx hb d_Law_law_492 rfl (lv_at hl 2 rfl) ?_
      refine lv_aload_n hx hb d_Law_law_493 rfl (lv_at hl 0 rfl) ?_
      refine lv_iload_n hx hb d_Law_law_494 rfl (lv_at hl 3 rfl) ?_
      refine lv_iconst (v := 1) hx hb d_Law_law_495 (by decide) ?_
      refine lv_iadd hx hb d_Law_law_496 ?_
      refine va_sld hx hb hX hbl hbA hS (lw_ix hL 1 (by omega)) d_Law_law_497 ?_
      refine lw_cr (As := [.int (xs (nI (6 * k) + (1 : Int32)).toNatClampNeg)]) (rest := [.int r]) ZsM_ok fx hkM trivial hA hP hD hS (c_Md_tick l F (xs (nI (6 * k) + (1 : Int32)).toNatClampNeg) uM _ h2) (cw_V fx.2.2.2.2 a_668 a_669 a_670 a_6 ac_Md_tick rfl rfl rfl hd_Md_tick ⟨Nat.le_of_ble_eq_true rfl, Nat.le_of_ble_eq_true rfl⟩) 0 rfl rfl rfl rfl hl.1 rfl (Nat.le_of_ble_eq_true rfl) d_Law_law_498 (Nat.le_of_ble_eq_true rfl) (Nat.le_of_ble_eq_true rfl) (fun r' u' H locs hp hP hD hS => ?_)
      cases hp
      refine lv_icmp_eq (tgt := 664) hx hb d_Law_law_501 (by decide) (fun _ => ?_) (fun hne => absurd rfl hne)
      exact next _ _ _ _ hR' hP hD hS
    by_cases hc12 : sw = (12 : Int32)
    · refine lv_tableIn (off := 473) (tgt := 506) hx hb d_Law_law_33 (by rw [hc12]; decide) (by rw [hc12]; decide) (by rw [hc12]; decide) (by decide) ?_
      refine lv_aload_n hx hb d_Law_law_506 rfl (lv_at hl 1 rfl) ?_
      refine lv_aload_n hx hb d_Law_law_507 rfl (lv_at hl 0 rfl) ?_
      refine lv_iload_n hx hb d_Law_law_508 rfl (lv_at hl 3 rfl) ?_
      refine lv_iconst (v := 1) hx hb d_Law_law_509 (by decide) ?_
      refine lv_iadd hx hb d_Law_law_510 ?_
      refine va_sld hx hb hX hbl hbA hS (lw_ix hL 1 (by omega)) d_Law_law_511 ?_
      refine lv_aload_n hx hb d_Law_law_512 rfl (lv_at hl 0 rfl) ?_
      refine lv_iload_n hx hb d_Law_law_513 rfl (lv_at hl 3 rfl) ?_
      refine lv_iconst (v := 2) hx hb d_Law_law_514 (by decide) ?_
      refine lv_iadd hx hb d_Law_law_515 ?_
      refine va_sld hx hb hX hbl hbA hS (lw_ix hL 2 (by omega)) d_Law_law_516 ?_
      obtain ⟨r, uC', uM', h1, h2, hR'⟩ := HS.2.2.2.2.2.2.2.2.2.2.2.2.1 uC uM hR (xs (nI (6 * k) + (1 : Int32)).toNatClampNeg) (xs (nI (6 * k) + (2 : Int32)).toNatClampNeg)
      refine lw_cl (As := [.int (xs (nI (6 * k) + (1 : Int32)).toNatClampNeg), .int (xs (nI (6 * k) + (2 : Int32)).toNatClampNeg)]) (rest := []) ZsC_ok fx hkC hz hA hP hD hS (c_CN_set l (xs (nI (6 * k) + (1 : Int32)).toNatClampNeg) (xs (nI (6 * k) + (2 : Int32)).toNatClampNeg) uC _ h1) (cw_V fx.2.2.2.2 a_407 a_408 a_409 a_1 ac_CN_set rfl rfl rfl hd_CN_set ⟨Nat.le_of_ble_eq_true rfl, Nat.le_of_ble_eq_true rfl⟩) 0 rfl rfl rfl rfl hl.1 rfl (Nat.le_of_ble_eq_true rfl) d_Law_law_517 (Nat.le_of_ble_eq_true rfl) (Nat.le_of_ble_eq_true rfl) (fun r' u' H locs hp hP hD hS => ?_)
      cases hp
      refine lv_aload_n hx hb d_Law_law_520 rfl (lv_at hl 2 rfl) ?_
      refine lv_aload_n hx hb d_Law_law_521 rfl (lv_at hl 0 rfl) ?_
      refine lv_iload_n hx hb d_Law_law_522 rfl (lv_at hl 3 rfl) ?_
      refine lv_iconst (v := 1) hx hb d_Law_law_523 (by decide) ?_
      refine lv_iadd hx hb d_Law_law_524 ?_
      refine va_sld hx hb hX hbl hbA hS (lw_ix hL 1 (by omega)) d_Law_law_525 ?_
      refine lv_aload_n hx hb d_Law_law_526 rfl (lv_at hl 0 rfl) ?_
      refine lv_iload_n hx hb d_Law_law_527 rfl (lv_at hl 3 rfl) ?_
      refine lv_iconst (v := 2) hx hb d_Law_law_528 (by decide) ?_
      refine lv_iadd hx hb d_Law_law_529 ?_
      refine va_sld hx hb hX hbl hbA hS (lw_ix hL 2 (by omega)) d_Law_law_530 ?_
      refine lw_cr (As := [.int (xs (nI (6 * k) + (1 : Int32)).toNatClampNeg), .int (xs (nI (6 * k) + (2 : Int32)).toNatClampNeg)]) (rest := [.int r]) ZsM_ok fx hkM trivial hA hP hD hS (c_Md_set l (xs (nI (6 * k) + (1 : Int32)).toNatClampNeg) (xs (nI (6 * k) + (2 : Int32)).toNatClampNeg) uM _ h2) (cw_V fx.2.2.2.2 a_672 a_673 a_674 a_6 ac_Md_set rfl rfl rfl hd_Md_set ⟨Nat.le_of_ble_eq_true rfl, Nat.le_of_ble_eq_true rfl⟩) 0 rfl rfl rfl rfl hl.1 rfl (Nat.le_of_ble_eq_true rfl) d_Law_law_531 (Nat.le_of_ble_eq_true rfl) (Nat.le_of_ble_eq_true rfl) (fun r' u' H locs hp hP hD hS => ?_)
      cases hp
      refine lv_icmp_eq (tgt := 664) hx hb d_Law_law_534 (by decide) (fun _ => ?_) (fun hne => absurd rfl hne)
      exact next _ _ _ _ hR' hP hD hS
    by_cases hc13 : sw = (13 : Int32)
    · refine lv_tableIn (off := 506) (tgt := 539) hx hb d_Law_law_33 (by rw [hc13]; decide) (by rw [hc13]; decide) (by rw [hc13]; decide) (by decide) ?_
      refine lv_aload_n hx hb d_Law_law_539 rfl (lv_at hl 1 rfl) ?_
      refine lv_aload_n hx hb d_Law_law_540 rfl (lv_at hl 0 rfl) ?_
      refine lv_iload_n hx hb d_Law_law_541 rfl (lv_at hl 3 rfl) ?_
      refine lv_iconst (v := 1) hx hb d_Law_law_542 (by decide) ?_
      refine lv_iadd hx hb d_Law_law_543 ?_
      refine va_sld hx hb hX hbl hbA hS (lw_ix hL 1 (by omega)) d_Law_law_544 ?_
      obtain ⟨r, uC', uM', h1, h2, hR'⟩ := HS.2.2.2.2.2.2.2.2.2.2.2.2.2.1 uC uM hR (xs (nI (6 * k) + (1 : Int32)).toNatClampNeg)
      refine lw_cl (As := [.int (xs (nI (6 * k) + (1 : Int32)).toNatClampNeg)]) (rest := []) ZsC_ok fx hkC hz hA hP hD hS (c_CN_variable l (xs (nI (6 * k) + (1 : Int32)).toNatClampNeg) uC _ h1) (cw_V fx.2.2.2.2 a_411 a_412 a_413 a_1 ac_CN_variable rfl rfl rfl hd_CN_variable ⟨Nat.le_of_ble_eq_true rfl, Nat.le_of_ble_eq_true rfl⟩) 0 rfl rfl rfl rfl hl.1 rfl (Nat.le_of_ble_eq_true rfl) d_Law_law_545 (Nat.le_of_ble_eq_true rfl) (Nat.le_of_ble_eq_true rfl) (fun r' u' H locs hp hP hD hS => ?_)
      cases hp
      refine lv_aload_n hx hb d_Law_law_548 rfl (lv_at hl 2 rfl) ?_
      refine lv_aload_n hx hb d_Law_law_549 rfl (lv_at hl 0 rfl) ?_
      refine lv_iload_n hx hb d_Law_law_550 rfl (lv_at hl 3 rfl) ?_
      refine lv_iconst (v := 1) hx hb d_Law_law_551 (by decide) ?_
      refine lv_iadd hx hb d_Law_law_552 ?_
      refine va_sld hx hb hX hbl hbA hS (lw_ix hL 1 (by omega)) d_Law_law_553 ?_
      refine lw_cr (As := [.int (xs (nI (6 * k) + (1 : Int32)).toNatClampNeg)]) (rest := [.int r]) ZsM_ok fx hkM trivial hA hP hD hS (c_Md_variable l (xs (nI (6 * k) + (1 : Int32)).toNatClampNeg) uM _ h2) (cw_V fx.2.2.2.2 a_676 a_677 a_678 a_6 ac_Md_variable rfl rfl rfl hd_Md_variable ⟨Nat.le_of_ble_eq_true rfl, Nat.le_of_ble_eq_true rfl⟩) 0 rfl rfl rfl rfl hl.1 rfl (Nat.le_of_ble_eq_true rfl) d_Law_law_554 (Nat.le_of_ble_eq_true rfl) (Nat.le_of_ble_eq_true rfl) (fun r' u' H locs hp hP hD hS => ?_)
      cases hp
      refine lv_icmp_eq (tgt := 664) hx hb d_Law_law_557 (by decide) (fun _ => ?_) (fun hne => absurd rfl hne)
      exact next _ _ _ _ hR' hP hD hS
    by_cases hc14 : sw = (14 : Int32)
    · refine lv_tableIn (off := 529) (tgt := 562) hx hb d_Law_law_33 (by rw [hc14]; decide) (by rw [hc14]; decide) (by rw [hc14]; decide) (by decide) ?_
      refine lv_aload_n hx hb d_Law_law_562 rfl (lv_at hl 1 rfl) ?_
      obtain ⟨r, uC', uM', h1, h2, hR'⟩ := HS.2.2.2.2.2.2.2.2.2.2.2.2.2.2.1 uC uM hR 
      refine lw_cl (As := []) (rest := []) ZsC_ok fx hkC hz hA hP hD hS (c_CN_marking l uC _ h1) (cw_V fx.2.2.2.2 a_415 a_416 a_417 a_1 ac_CN_marking rfl rfl rfl hd_CN_marking ⟨Nat.le_of_ble_eq_true rfl, Nat.le_of_ble_eq_true rfl⟩) 0 rfl rfl rfl rfl hl.1 rfl (Nat.le_of_ble_eq_true rfl) d_Law_law_563 (Nat.le_of_ble_eq_true rfl) (Nat.le_of_ble_eq_true rfl) (fun r' u' H locs hp hP hD hS => ?_)
      cases hp
      refine lv_aload_n hx hb d_Law_law_566 rfl (lv_at hl 2 rfl) ?_
      refine lw_cr (As := []) (rest := [.int r]) ZsM_ok fx hkM trivial hA hP hD hS (c_Md_marking l uM _ h2) (cw_V fx.2.2.2.2 a_680 a_681 a_682 a_6 ac_Md_marking rfl rfl rfl hd_Md_marking ⟨Nat.le_of_ble_eq_true rfl, Nat.le_of_ble_eq_true rfl⟩) 0 rfl rfl rfl rfl hl.1 rfl (Nat.le_of_ble_eq_true rfl) d_Law_law_567 (Nat.le_of_ble_eq_true rfl) (Nat.le_of_ble_eq_true rfl) (fun r' u' H locs hp hP hD hS => ?_)
      cases hp
      refine lv_icmp_eq (tgt := 664) hx hb d_Law_law_570 (by decide) (fun _ => ?_) (fun hne => absurd rfl hne)
      exact next _ _ _ _ hR' hP hD hS
    by_cases hc15 : sw = (15 : Int32)
    · refine lv_tableIn (off := 542) (tgt := 575) hx hb d_Law_law_33 (by rw [hc15]; decide) (by rw [hc15]; decide) (by rw [hc15]; decide) (by decide) ?_
      refine lv_aload_n hx hb d_Law_law_575 rfl (lv_at hl 1 rfl) ?_
      refine lv_aload_n hx hb d_Law_law_576 rfl (lv_at hl 0 rfl) ?_
      refine lv_iload_n hx hb d_Law_law_577 rfl (lv_at hl 3 rfl) ?_
      refine lv_iconst (v := 1) hx hb d_Law_law_578 (by decide) ?_
      refine lv_iadd hx hb d_Law_law_579 ?_
      refine va_sld hx hb hX hbl hbA hS (lw_ix hL 1 (by omega)) d_Law_law_580 ?_
      refine lv_aload_n hx hb d_Law_law_581 rfl (lv_at hl 0 rfl) ?_
      refine lv_iload_n hx hb d_Law_law_582 rfl (lv_at hl 3 rfl) ?_
      refine lv_iconst (v := 2) hx hb d_Law_law_583 (by decide) ?_
      refine lv_iadd hx hb d_Law_law_584 ?_
      refine va_sld hx hb hX hbl hbA hS (lw_ix hL 2 (by omega)) d_Law_law_585 ?_
      obtain ⟨r, uC', uM', h1, h2, hR'⟩ := HS.2.2.2.2.2.2.2.2.2.2.2.2.2.2.2.1 uC uM hR (xs (nI (6 * k) + (1 : Int32)).toNatClampNeg) (xs (nI (6 * k) + (2 : Int32)).toNatClampNeg)
      refine lw_cl (As := [.int (xs (nI (6 * k) + (1 : Int32)).toNatClampNeg), .int (xs (nI (6 * k) + (2 : Int32)).toNatClampNeg)]) (rest := []) ZsC_ok fx hkC hz hA hP hD hS (c_CN_item l (xs (nI (6 * k) + (1 : Int32)).toNatClampNeg) (xs (nI (6 * k) + (2 : Int32)).toNatClampNeg) uC _ h1) (cw_V fx.2.2.2.2 a_419 a_420 a_421 a_1 ac_CN_item rfl rfl rfl hd_CN_item ⟨Nat.le_of_ble_eq_true rfl, Nat.le_of_ble_eq_true rfl⟩) 0 rfl rfl rfl rfl hl.1 rfl (Nat.le_of_ble_eq_true rfl) d_Law_law_586 (Nat.le_of_ble_eq_true rfl) (Nat.le_of_ble_eq_true rfl) (fun r' u' H locs hp hP hD hS => ?_)
      cases hp
      refine lv_aload_n hx hb d_Law_law_589 rfl (lv_at hl 2 rfl) ?_
      refine lv_aload_n hx hb d_Law_law_590 rfl (lv_at hl 0 rfl) ?_
      refine lv_iload_n hx hb d_Law_law_591 rfl (lv_at hl 3 rfl) ?_
      refine lv_iconst (v := 1) hx hb d_Law_law_592 (by decide) ?_
      refine lv_iadd hx hb d_Law_law_593 ?_
      refine va_sld hx hb hX hbl hbA hS (lw_ix hL 1 (by omega)) d_Law_law_594 ?_
      refine lv_aload_n hx hb d_Law_law_595 rfl (lv_at hl 0 rfl) ?_
      refine lv_iload_n hx hb d_Law_law_596 rfl (lv_at hl 3 rfl) ?_
      refine lv_iconst (v := 2) hx hb d_Law_law_597 (by decide) ?_
      refine lv_iadd hx hb d_Law_law_598 ?_
      refine va_sld hx hb hX hbl hbA hS (lw_ix hL 2 (by omega)) d_Law_law_599 ?_
      refine lw_cr (As := [.int (xs (nI (6 * k) + (1 : Int32)).toNatClampNeg), .int (xs (nI (6 * k) + (2 : Int32)).toNatClampNeg)]) (rest := [.int r]) ZsM_ok fx hkM trivial hA hP hD hS (c_Md_item l (xs (nI (6 * k) + (1 : Int32)).toNatClampNeg) (xs (nI (6 * k) + (2 : Int32)).toNatClampNeg) uM _ h2) (cw_V fx.2.2.2.2 a_684 a_685 a_686 a_6 ac_Md_item rfl rfl rfl hd_Md_item ⟨Nat.le_of_ble_eq_true rfl, Nat.le_of_ble_eq_true rfl⟩) 0 rfl rfl rfl rfl hl.1 rfl (Nat.le_of_ble_eq_true rfl) d_Law_law_600 (Nat.le_of_ble_eq_true rfl) (Nat.le_of_ble_eq_true rfl) (fun r' u' H locs hp hP hD hS => ?_)
      cases hp
      refine lv_icmp_eq (tgt := 664) hx hb d_Law_law_603 (by decide) (fun _ => ?_) (fun hne => absurd rfl hne)
      exact next _ _ _ _ hR' hP hD hS
    by_cases hc16 : sw = (16 : Int32)
    · refine lv_tableIn (off := 575) (tgt := 608) hx hb d_Law_law_33 (by rw [hc16]; decide) (by rw [hc16]; decide) (by rw [hc16]; decide) (by decide) ?_
      refine lv_aload_n hx hb d_Law_law_608 rfl (lv_at hl 1 rfl) ?_
      refine lv_aload_n hx hb d_Law_law_609 rfl (lv_at hl 0 rfl) ?_
      refine lv_iload_n hx hb d_Law_law_610 rfl (lv_at hl 3 rfl) ?_
      refine lv_iconst (v := 1) hx hb d_Law_law_611 (by decide) ?_
      refine lv_iadd hx hb d_Law_law_612 ?_
      refine va_sld hx hb hX hbl hbA hS (lw_ix hL 1 (by omega)) d_Law_law_613 ?_
      refine lv_aload_n hx hb d_Law_law_614 rfl (lv_at hl 0 rfl) ?_
      refine lv_iload_n hx hb d_Law_law_615 rfl (lv_at hl 3 rfl) ?_
      refine lv_iconst (v := 2) hx hb d_Law_law_616 (by decide) ?_
      refine lv_iadd hx hb d_Law_law_617 ?_
      refine va_sld hx hb hX hbl hbA hS (lw_ix hL 2 (by omega)) d_Law_law_618 ?_
      refine lv_aload_n hx hb d_Law_law_619 rfl (lv_at hl 0 rfl) ?_
      refine lv_iload_n hx hb d_Law_law_620 rfl (lv_at hl 3 rfl) ?_
      refine lv_iconst (v := 3) hx hb d_Law_law_621 (by decide) ?_
      refine lv_iadd hx hb d_Law_law_622 ?_
      refine va_sld hx hb hX hbl hbA hS (lw_ix hL 3 (by omega)) d_Law_law_623 ?_
      obtain ⟨r, uC', uM', h1, h2, hR'⟩ := HS.2.2.2.2.2.2.2.2.2.2.2.2.2.2.2.2.1 uC uM hR (xs (nI (6 * k) + (1 : Int32)).toNatClampNeg) (xs (nI (6 * k) + (2 : Int32)).toNatClampNeg) (xs (nI (6 * k) + (3 : Int32)).toNatClampNeg)
      refine lw_cl (As := [.int (xs (nI (6 * k) + (1 : Int32)).toNatClampNeg), .int (xs (nI (6 * k) + (2 : Int32)).toNatClampNeg), .int (xs (nI (6 * k) + (3 : Int32)).toNatClampNeg)]) (rest := []) ZsC_ok fx hkC hz hA hP hD hS (c_CN_covers l F (xs (nI (6 * k) + (1 : Int32)).toNatClampNeg) (xs (nI (6 * k) + (2 : Int32)).toNatClampNeg) (xs (nI (6 * k) + (3 : Int32)).toNatClampNeg) uC _ h1) (cw_V fx.2.2.2.2 a_423 a_424 a_425 a_1 ac_CN_covers rfl rfl rfl hd_CN_covers ⟨Nat.le_of_ble_eq_true rfl, Nat.le_of_ble_eq_true rfl⟩) 0 rfl rfl rfl rfl hl.1 rfl (Nat.le_of_ble_eq_true rfl) d_Law_law_624 (Nat.le_of_ble_eq_true rfl) (Nat.le_of_ble_eq_true rfl) (fun r' u' H locs hp hP hD hS => ?_)
      cases hp
      refine lv_aload_n hx hb d_Law_law_627 rfl (lv_at hl 2 rfl) ?_
      refine lv_aload_n hx hb d_Law_law_628 rfl (lv_at hl 0 rfl) ?_
      refine lv_iload_n hx hb d_Law_law_629 rfl (lv_at hl 3 rfl) ?_
      refine lv_iconst (v := 1) hx hb d_Law_law_630 (by decide) ?_
      refine lv_iadd hx hb d_Law_law_631 ?_
      refine va_sld hx hb hX hbl hbA hS (lw_ix hL 1 (by omega)) d_Law_law_632 ?_
      refine lv_aload_n hx hb d_Law_law_633 rfl (lv_at hl 0 rfl) ?_
      refine lv_iload_n hx hb d_Law_law_634 rfl (lv_at hl 3 rfl) ?_
      refine lv_iconst (v := 2) hx hb d_Law_law_635 (by decide) ?_
      refine lv_iadd hx hb d_Law_law_636 ?_
      refine va_sld hx hb hX hbl hbA hS (lw_ix hL 2 (by omega)) d_Law_law_637 ?_
      refine lv_aload_n hx hb d_Law_law_638 rfl (lv_at hl 0 rfl) ?_
      refine lv_iload_n hx hb d_Law_law_639 rfl (lv_at hl 3 rfl) ?_
      refine lv_iconst (v := 3) hx hb d_Law_law_640 (by decide) ?_
      refine lv_iadd hx hb d_Law_law_641 ?_
      refine va_sld hx hb hX hbl hbA hS (lw_ix hL 3 (by omega)) d_Law_law_642 ?_
      refine lw_cr (As := [.int (xs (nI (6 * k) + (1 : Int32)).toNatClampNeg), .int (xs (nI (6 * k) + (2 : Int32)).toNatClampNeg), .int (xs (nI (6 * k) + (3 : Int32)).toNatClampNeg)]) (rest := [.int r]) ZsM_ok fx hkM trivial hA hP hD hS (c_Md_covers l F (xs (nI (6 * k) + (1 : Int32)).toNatClampNeg) (xs (nI (6 * k) + (2 : Int32)).toNatClampNeg) (xs (nI (6 * k) + (3 : Int32)).toNatClampNeg) uM _ h2) (cw_V fx.2.2.2.2 a_584 a_585 a_586 a_6 ac_Md_covers rfl rfl rfl hd_Md_covers ⟨Nat.le_of_ble_eq_true rfl, Nat.le_of_ble_eq_true rfl⟩) 0 rfl rfl rfl rfl hl.1 rfl (Nat.le_of_ble_eq_true rfl) d_Law_law_643 (Nat.le_of_ble_eq_true rfl) (Nat.le_of_ble_eq_true rfl) (fun r' u' H locs hp hP hD hS => ?_)
      cases hp
      refine lv_icmp_eq (tgt := 664) hx hb d_Law_law_646 (by decide) (fun _ => ?_) (fun hne => absurd rfl hne)
      exact next _ _ _ _ hR' hP hD hS
    by_cases hc17 : sw = (17 : Int32)
    · refine lv_tableIn (off := 618) (tgt := 651) hx hb d_Law_law_33 (by rw [hc17]; decide) (by rw [hc17]; decide) (by rw [hc17]; decide) (by decide) ?_
      refine lv_aload_n hx hb d_Law_law_651 rfl (lv_at hl 1 rfl) ?_
      obtain ⟨r, uC', uM', h1, h2, hR'⟩ := HS.2.2.2.2.2.2.2.2.2.2.2.2.2.2.2.2.2 uC uM hR 
      refine lw_cl (As := []) (rest := []) ZsC_ok fx hkC hz hA hP hD hS (c_CN_verdict l F uC _ h1) (cw_V fx.2.2.2.2 a_427 a_428 a_429 a_1 ac_CN_verdict rfl rfl rfl hd_CN_verdict ⟨Nat.le_of_ble_eq_true rfl, Nat.le_of_ble_eq_true rfl⟩) 0 rfl rfl rfl rfl hl.1 rfl (Nat.le_of_ble_eq_true rfl) d_Law_law_652 (Nat.le_of_ble_eq_true rfl) (Nat.le_of_ble_eq_true rfl) (fun r' u' H locs hp hP hD hS => ?_)
      cases hp
      refine lv_aload_n hx hb d_Law_law_655 rfl (lv_at hl 2 rfl) ?_
      refine lw_cr (As := []) (rest := [.int r]) ZsM_ok fx hkM trivial hA hP hD hS (c_Md_verdict l F uM _ h2) (cw_V fx.2.2.2.2 a_688 a_689 a_690 a_6 ac_Md_verdict rfl rfl rfl hd_Md_verdict ⟨Nat.le_of_ble_eq_true rfl, Nat.le_of_ble_eq_true rfl⟩) 0 rfl rfl rfl rfl hl.1 rfl (Nat.le_of_ble_eq_true rfl) d_Law_law_656 (Nat.le_of_ble_eq_true rfl) (Nat.le_of_ble_eq_true rfl) (fun r' u' H locs hp hP hD hS => ?_)
      cases hp
      refine lv_icmp_eq (tgt := 664) hx hb d_Law_law_659 (by decide) (fun _ => ?_) (fun hne => absurd rfl hne)
      exact next _ _ _ _ hR' hP hD hS
    refine lv_tableOut (tgt := 664) hx hb d_Law_law_33 (ts_o18 (fun j hj => ?_)) (by decide) ?_
    · exact (match j, hj with
        | 0, _ => hc0
        | 1, _ => hc1
        | 2, _ => hc2
        | 3, _ => hc3
        | 4, _ => hc4
        | 5, _ => hc5
        | 6, _ => hc6
        | 7, _ => hc7
        | 8, _ => hc8
        | 9, _ => hc9
        | 10, _ => hc10
        | 11, _ => hc11
        | 12, _ => hc12
        | 13, _ => hc13
        | 14, _ => hc14
        | 15, _ => hc15
        | 16, _ => hc16
        | 17, _ => hc17
        )
    exact next uC uM H locs hR hP hD hS
set_option maxRecDepth 100000 in
set_option maxHeartbeats 8000000 in
theorem whole_open {p : Program} {e : Env} {s : State} {m : MethodId} {below : List Frame} {meth : Method} {c : Code} (l : Launch) {b L : Nat} {xs : Nat → Int32} (hL : L ≤ 3072) (C0 : lw_At p s m meth c b L xs) {RR : St → St → Prop} {F : Nat} (R0 : RR uC0 uM0) (HS : RS_all RR F) : W p l e room_1 s m #[Value.ref b] below meth c s.heap [] 0 0 (lw_Z below #[Value.ref b] s) (entryFrame m ([Value.ref b] : List Value).toArray 4) := by
  obtain ⟨hx, hb, hr, hml, hown, htb, hX, hbl, hlocks, hgv⟩ := C0
  have hts : ∀ w ∈ ((Jvm.Cond.initialized "CaseNetLaw") :: wAll), w.before #[Value.ref b] s = true := by
    intro w hw
    have hw2 : w ∈ wAll := (List.mem_cons.mp hw).elim (fun e => e ▸ a_0) id
    exact htb w (List.mem_filter.mp hw2).1
  have fx : CallFix p m c b_Law_law 4 s #[Value.ref b] ((Jvm.Cond.initialized "CaseNetLaw") :: wAll) R_law := ⟨hx, hb, hml, hown, hts⟩
  obtain ⟨d0, i0, k0⟩ := u_known (C := R_CaseNet) (T := F_CaseNet) (N := 6) (n := 6) hts i_CaseNet (hts _ (List.mem_cons_of_mem _ a_11))
  obtain ⟨d1, i1, k1⟩ := u_known (C := R_Net) (T := F_Net) (N := 6) (n := 6) hts i_Net (hts _ (List.mem_cons_of_mem _ a_19))
  obtain ⟨d2, i2, k2⟩ := u_known (C := R_Task) (T := F_Task) (N := 19) (n := 19) hts i_Task (hts _ (List.mem_cons_of_mem _ a_40))
  obtain ⟨d3, i3, k3⟩ := u_known (C := R_WorkList) (T := F_WorkList) (N := 4) (n := 4) hts i_WorkList (hts _ (List.mem_cons_of_mem _ a_142))
  obtain ⟨d4, i4, k4⟩ := u_known (C := R_MaskSet) (T := F_MaskSet) (N := 2) (n := 2) hts i_MaskSet (hts _ (List.mem_cons_of_mem _ a_27))
  obtain ⟨d5, i5, k5⟩ := u_known (C := R_Model) (T := F_Model) (N := 28) (n := 28) hts i_Model (hts _ (List.mem_cons_of_mem _ a_462))
  obtain ⟨D, hK⟩ : ∃ D : va_G, va_K D clA [] s := by
    refine ⟨(fun k => match k with | 0 => d0 | 1 => d1 | 2 => d2 | 3 => d3 | 4 => d4 | _ => d5, fun k => match k with | 0 => i0 | 1 => i1 | 2 => i2 | 3 => i3 | 4 => i4 | _ => i5), fun k q hq => ?_, fun k q hq => nomatch hq⟩
    exact (match k, hq with
      | 0, hq => (Option.some.inj hq) ▸ k0
      | 1, hq => (Option.some.inj hq) ▸ k1
      | 2, hq => (Option.some.inj hq) ▸ k2
      | 3, hq => (Option.some.inj hq) ▸ k3
      | 4, hq => (Option.some.inj hq) ▸ k4
      | 5, hq => (Option.some.inj hq) ▸ k5
      | n + 6, hq => nomatch hq)
  have hz : kt_Zn s := ⟨va_Nw.of rfl (htb _ (List.mem_append_right _ (List.mem_of_getElem? (i := 28) (by decide +kernel)))), va_Nw.of rfl (htb _ (List.mem_append_right _ (List.mem_of_getElem? (i := 143) (by decide +kernel)))), va_AO.of (htb _ (List.mem_append_right _ (List.mem_of_getElem? (i := 25) (by decide +kernel))))⟩
  have hA : ∀ q, s.heap.size ≤ q → (fun q => s.heap.size ≤ q) q := fun q h => h
  have hA' : ∀ a : Nat, a < s.heap.size → ¬ (fun q => s.heap.size ≤ q) a := fun a h1 h2 => absurd h1 (Nat.not_lt.mpr h2)
  have hfl := flat_of_before _ hgv
  have hZC : ZsC (fun q => s.heap.size ≤ q) s s.heap := by
    obtain ⟨t, ht, hT⟩ := va_Tof (tm := (Jvm.Term.static "CaseNet$MaskSet" "HAVING" "[J")) (ty := .long) (N := 6) (f := hv_V) (A := fun q => s.heap.size ≤ q) (by decide) (hfl (Jvm.Cond.arrayOf (Jvm.Term.static "CaseNet$MaskSet" "HAVING" "[J") .long) (by decide +kernel)) (va_eqt (hfl (Jvm.Cond.eq (Jvm.Term.length (Jvm.Term.static "CaseNet$MaskSet" "HAVING" "[J")) (Jvm.Term.int 6)) (by decide +kernel))) (fun j hj => (match j, hj with
      | 0, _ => va_eqtl (hfl (Jvm.Cond.eq (Jvm.Term.elem (Jvm.Term.static "CaseNet$MaskSet" "HAVING" "[J") (Jvm.Term.int 0)) (Jvm.Term.long (-6148914691236517206))) (by decide +kernel))
      | 1, _ => va_eqtl (hfl (Jvm.Cond.eq (Jvm.Term.elem (Jvm.Term.static "CaseNet$MaskSet" "HAVING" "[J") (Jvm.Term.int 1)) (Jvm.Term.long (-3689348814741910324))) (by decide +kernel))
      | 2, _ => va_eqtl (hfl (Jvm.Cond.eq (Jvm.Term.elem (Jvm.Term.static "CaseNet$MaskSet" "HAVING" "[J") (Jvm.Term.int 2)) (Jvm.Term.long (-1085102592571150096))) (by decide +kernel))
      | 3, _ => va_eqtl (hfl (Jvm.Cond.eq (Jvm.Term.elem (Jvm.Term.static "CaseNet$MaskSet" "HAVING" "[J") (Jvm.Term.int 3)) (Jvm.Term.long (-71777214294589696))) (by decide +kernel))
      | 4, _ => va_eqtl (hfl (Jvm.Cond.eq (Jvm.Term.elem (Jvm.Term.static "CaseNet$MaskSet" "HAVING" "[J") (Jvm.Term.int 4)) (Jvm.Term.long (-281470681808896))) (by decide +kernel))
      | 5, _ => va_eqtl (hfl (Jvm.Cond.eq (Jvm.Term.elem (Jvm.Term.static "CaseNet$MaskSet" "HAVING" "[J") (Jvm.Term.int 5)) (Jvm.Term.long (-4294967296))) (by decide +kernel))
      )) hA'
    exact ⟨⟨t, va_Zref (htb _ (List.mem_append_right _ (List.mem_of_getElem? (i := 315) (by decide +kernel)))) (hts _ (List.mem_cons_of_mem _ a_3)) ht hA', hT⟩, va_Nw.of rfl (htb _ (List.mem_append_right _ (List.mem_of_getElem? (i := 233) (by decide +kernel))))⟩
  have hP : va_P D clA [] s.heap := fun k q h => nomatch h
  have hD : va_D (fun q => s.heap.size ≤ q) [] := ⟨fun i j p q h => nomatch h, fun k q h => nomatch h⟩
  have hS : va_S (fun q => s.heap.size ≤ q) s.heap s.heap [] := va_S.rf
  rw [lg_entry_eq]
  have hl := lv_entry ([.ref b]) (n := 4) (Nat.le_of_ble_eq_true rfl)
  generalize (lg_sl ([.ref b]) ++ List.replicate (4 - (lg_sl ([.ref b])).length) Slot.unset).toArray = ls at hl ⊢
  have hl : lv_has ls 4 [(0, .ref b)] := hl
  refine va_new (ci := 0) (fs := [.null, .null, .null, .int 0, .int 0, .int 0]) (C := R_CaseNet) (T := F_CaseNet) (N := 6) hx hb hts i_CaseNet t_CaseNet t_CaseNet_ok hown (hts _ (List.mem_cons_of_mem _ a_10)) (hts _ (List.mem_cons_of_mem _ a_11)) (hts _ (List.mem_cons_of_mem _ a_1)) hK hP hD hS hA rfl df_CaseNet (Nat.le_of_ble_eq_true rfl) (Nat.le_of_ble_eq_true rfl) d_Law_law_0 (fun qC H hP hD hS => ?_)
  refine lv_dup hx hb d_Law_law_3 rfl ?_
  refine kt_callI (pre := []) (w0 := [(qC, .inr (0, [.null, .null, .null, .int 0, .int 0, .int 0]))]) (As := []) (rest := [.ref qC]) (tys := []) fx hK hz hA hP hD hS (c_CN_init l qC) (cw_I hts a_12 a_13 a_1 ac_CN_init rfl rfl rfl hd_CN_init ⟨Nat.le_of_ble_eq_true rfl, Nat.le_of_ble_eq_true rfl⟩) rfl hl.1 rfl (Nat.le_of_ble_eq_true rfl) d_Law_law_4 ⟨Nat.le_of_ble_eq_true rfl, Nat.le_of_ble_eq_true rfl⟩ (fun u H locs hp hP hD hKC hS => ?_)
  obtain ⟨cq1, cq2, cq3, cq4, cq5, cq6, cq7, cq8, cq9, cq10, cq11, cq12, cq13, cq14, cq15, cq16, cq17, cq18, cq19, cq20, cq21, cq22, cq23, cq24, cq25, cq26, cq27, cq28, cq29, cq30, cq31, cq32, cq33, cq34, cq35, cq36, cq37, cq38, cq39, cq40, cq41, cq42, cq43, cq44, cq79, cq80, cq81, cq82, cq86, ccA45, ccA46, ccA47, ccA48, ccA49, ccA50, ccA51, ccA52, ccA53, ccA54, ccA55, ccA56, ccA57, ccA58, ccA59, ccA60, ccA61, ccA62, ccA63, ccA64, ccA65, ccA66, ccA67, ccA68, ccA69, ccA70, ccA71, ccA72, ccA73, ccA74, ccA75, ccA76, ccA77, ccA78, ccA83, ccA84, ccA85, ccA86, rfl⟩ := hp
  obtain ⟨hP, hD⟩ := cv_C hP hD
  have hkC := ck_C hKC
  generalize had : adC qC cq1 cq2 cq3 cq4 cq5 cq6 cq7 cq8 cq9 cq10 cq11 cq12 cq13 cq14 cq15 cq16 cq17 cq18 cq19 cq20 cq21 cq22 cq23 cq24 cq25 cq26 cq27 cq28 cq29 cq30 cq31 cq32 cq33 cq34 cq35 cq36 cq37 cq38 cq39 cq40 cq41 cq42 cq43 cq44 cq79 cq80 cq81 cq82 cq86 = adC' at hP hD
  have h0C : adC' 0 = qC := by rw [← had]; rfl
  generalize caC ccA45 ccA46 ccA47 ccA48 ccA49 ccA50 ccA51 ccA52 ccA53 ccA54 ccA55 ccA56 ccA57 ccA58 ccA59 ccA60 ccA61 ccA62 ccA63 ccA64 ccA65 ccA66 ccA67 ccA68 ccA69 ccA70 ccA71 ccA72 ccA73 ccA74 ccA75 ccA76 ccA77 ccA78 ccA83 ccA84 ccA85 ccA86 = cAC at hP hD hkC
  refine lv_astore_n (lv' := [(1, .ref qC), (0, .ref b)]) hx hb d_Law_law_7 rfl hl (by decide) rfl (fun ls hl => ?_)
  refine va_new (ci := 5) (fs := [.null, .null, .null, .null, .null, .null, .null, .null, .null, .null, .null, .null, .null, .null, .null, .int 0, .int 0, .int 0, .null, .int 0, .null, .null, .null, .null, .null, .null, .int 0, .null]) (C := R_Model) (T := F_Model) (N := 28) hx hb hts i_Model t_Model t_Model_ok hown (hts _ (List.mem_cons_of_mem _ a_461)) (hts _ (List.mem_cons_of_mem _ a_462)) (hts _ (List.mem_cons_of_mem _ a_6)) hK hP hD hS hA rfl df_Model (Nat.le_of_ble_eq_true rfl) (Nat.le_of_ble_eq_true rfl) d_Law_law_8 (fun qM H hP hD hS => ?_)
  refine lv_dup hx hb d_Law_law_11 rfl ?_
  refine kt_callI (pre := ly_W layC adC' cAC uC0) (w0 := [(qM, .inr (5, [.null, .null, .null, .null, .null, .null, .null, .null, .null, .null, .null, .null, .null, .null, .null, .int 0, .int 0, .int 0, .null, .int 0, .null, .null, .null, .null, .null, .null, .int 0, .null]))]) (As := []) (rest := [.ref qM]) (tys := []) fx hK hz hA hP hD hS (c_Md_init l qM) (cw_I hts a_463 a_464 a_6 ac_Md_init rfl rfl rfl hd_Md_init ⟨Nat.le_of_ble_eq_true rfl, Nat.le_of_ble_eq_true rfl⟩) rfl hl.1 rfl (Nat.le_of_ble_eq_true rfl) d_Law_law_12 ⟨Nat.le_of_ble_eq_true rfl, Nat.le_of_ble_eq_true rfl⟩ (fun u H locs hp hP hD hKM hS => ?_)
  obtain ⟨mq1, mq2, mq3, mq4, mq5, mq6, mq7, mq8, mq9, mq10, mq11, mq12, mq13, mq14, mq15, mq16, mq17, mq18, mq19, mq20, mq21, mq22, mq23, mcA1, mcA2, mcA3, mcA4, mcA5, mcA6, mcA7, mcA8, mcA9, mcA10, mcA11, mcA12, mcA13, mcA14, mcA15, mcA16, mcA17, mcA18, mcA19, mcA20, mcA21, mcA22, mcA23, rfl⟩ := hp
  obtain ⟨hPm, hDm⟩ := kt_suf hP hD
  have hkM := ck_M hKM
  have hP : va_P D clA (ly_W layC adC' cAC uC0 ++ ly_W layM (adM qM mq1 mq2 mq3 mq4 mq5 mq6 mq7 mq8 mq9 mq10 mq11 mq12 mq13 mq14 mq15 mq16 mq17 mq18 mq19 mq20 mq21 mq22 mq23) (caM mcA1 mcA2 mcA3 mcA4 mcA5 mcA6 mcA7 mcA8 mcA9 mcA10 mcA11 mcA12 mcA13 mcA14 mcA15 mcA16 mcA17 mcA18 mcA19 mcA20 mcA21 mcA22 mcA23) uM0) H := hP
  have hD : va_D (fun q => s.heap.size ≤ q) (ly_W layC adC' cAC uC0 ++ ly_W layM (adM qM mq1 mq2 mq3 mq4 mq5 mq6 mq7 mq8 mq9 mq10 mq11 mq12 mq13 mq14 mq15 mq16 mq17 mq18 mq19 mq20 mq21 mq22 mq23) (caM mcA1 mcA2 mcA3 mcA4 mcA5 mcA6 mcA7 mcA8 mcA9 mcA10 mcA11 mcA12 mcA13 mcA14 mcA15 mcA16 mcA17 mcA18 mcA19 mcA20 mcA21 mcA22 mcA23) uM0) := hD
  generalize had2 : adM qM mq1 mq2 mq3 mq4 mq5 mq6 mq7 mq8 mq9 mq10 mq11 mq12 mq13 mq14 mq15 mq16 mq17 mq18 mq19 mq20 mq21 mq22 mq23 = adM' at hP hD
  have h0M : adM' 0 = qM := by rw [← had2]; rfl
  generalize caM mcA1 mcA2 mcA3 mcA4 mcA5 mcA6 mcA7 mcA8 mcA9 mcA10 mcA11 mcA12 mcA13 mcA14 mcA15 mcA16 mcA17 mcA18 mcA19 mcA20 mcA21 mcA22 mcA23 = cAM at hP hD hkM
  refine lv_astore_n (lv' := [(2, .ref qM), (1, .ref qC), (0, .ref b)]) hx hb d_Law_law_15 rfl hl (by decide) rfl (fun ls hl => ?_)
  refine lv_iconst (v := 0) hx hb d_Law_law_16 (by decide) ?_
  refine lv_istore_n (lv' := [(3, .int 0), (2, .ref qM), (1, .ref qC), (0, .ref b)]) hx hb d_Law_law_17 rfl hl (by decide) rfl (fun ls hl => ?_)
  have hl := lv_sub hl [3, 2, 1, 0] rfl
  rw [← h0C, ← h0M] at hl
  refine W.widen (k := 74) (n := 18658) (Nat.le_of_ble_eq_true rfl) (Nat.le_of_ble_eq_true rfl) ?_
  exact law_loop fx hr hlocks hkC hkM hA (fun q h => h) hZC hX hbl hL HS (L + 1) 0 (by omega) (by omega) uC0 uM0 H _ ls R0 hP hD hS hl
