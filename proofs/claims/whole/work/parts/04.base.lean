/-! The world by places. A layout lists what lies at each place: an object (its class's number; each field a number or the object at another place), an array of numbers, of longs, of objects. A state u says the numbers: u.1 place slot, u.2 place slot (longs). -/
abbrev St : Type := (Nat → Nat → Int32) × (Nat → Nat → Int64)
abbrev ly_E : Type := (Nat × List (Option Nat)) ⊕ ((FieldType × Nat) ⊕ (Nat ⊕ (String × Nat × (Nat → Option Nat))))
def ly_f (ad : Nat → Nat) (u : St) (k j : Nat) (f : Option Nat) : Value := match f with
  | none => .int (u.1 k j)
  | some q => .ref (ad q)
def ly_fs (ad : Nat → Nat) (u : St) (k : Nat) (fs : List (Option Nat)) : List Value := fs.mapIdx (ly_f ad u k)
def ly_cell (ad : Nat → Nat) (cA : Nat → ClassId) (u : St) (k : Nat) (e : ly_E) : Nat × va_E := (ad k, match e with
  | .inl o => .inr (o.1, ly_fs ad u k o.2)
  | .inr (.inl a) => .inl (cA k, a.2, .inl (u.1 k))
  | .inr (.inr (.inl n)) => .inl (cA k, n, .inr (.inl (u.2 k)))
  | .inr (.inr (.inr r)) => .inl (cA k, r.2.1, .inr (.inr (.inr (.inr (fun i => (r.2.2 i).map ad))))))
def ly_W (lay : List ly_E) (ad : Nat → Nat) (cA : Nat → ClassId) (u : St) : va_W := lay.mapIdx (ly_cell ad cA u)
theorem ly_at {lay : List ly_E} {ad : Nat → Nat} {cA : Nat → ClassId} {u : St} {k : Nat} {e : ly_E} (h : lay[k]? = some e) : (ly_W lay ad cA u)[k]? = some (ly_cell ad cA u k e) := by
  simp only [ly_W, List.getElem?_mapIdx, h, Option.map_some]
theorem ly_cellE {ad : Nat → Nat} {cA : Nat → ClassId} {u u' : St} {k : Nat} {e : ly_E} (h1 : u'.1 k = u.1 k) (h2 : u'.2 k = u.2 k) : ly_cell ad cA u' k e = ly_cell ad cA u k e := by
  have hf : ∀ j f, ly_f ad u' k j f = ly_f ad u k j f := by
    intro j f
    cases f with
    | none => simp only [ly_f, h1]
    | some q => rfl
  have hfs : ∀ fs, ly_fs ad u' k fs = ly_fs ad u k fs := by
    intro fs
    simp only [ly_fs]
    apply List.ext_getElem?
    intro i
    simp only [List.getElem?_mapIdx]
    rw [show ly_f ad u' k i = ly_f ad u k i from funext (hf i)]
  rcases e with o | a | n | r
  · simp only [ly_cell, hfs]
  · simp only [ly_cell, h1]
  · simp only [ly_cell, h2]
  · rfl
/-- the world with one cell changed is the world of the changed state -/
theorem ly_set {lay : List ly_E} {ad : Nat → Nat} {cA : Nat → ClassId} {u u' : St} {k : Nat} {e : ly_E} {x : va_E} (h : lay[k]? = some e) (hx : (ad k, x) = ly_cell ad cA u' k e) (ho : ∀ i, i ≠ k → u'.1 i = u.1 i ∧ u'.2 i = u.2 i) : (ly_W lay ad cA u).set k (ad k, x) = ly_W lay ad cA u' := by
  apply List.ext_getElem?
  intro i
  by_cases hi : i = k
  · subst hi
    have hl : i < (ly_W lay ad cA u).length := by
      have := (List.getElem?_eq_some_iff.mp h).1
      simpa [ly_W] using this
    rw [List.getElem?_set_self hl, ly_at h, hx]
  · rw [List.getElem?_set_ne (fun q => hi q.symm)]
    simp only [ly_W, List.getElem?_mapIdx]
    cases hq : lay[i]? with
    | none => rfl
    | some e1 => simp only [Option.map_some]; rw [ly_cellE (ho i hi).1 (ho i hi).2]
def ly_pi (u : St) (k j : Nat) (v : Int32) : St := (va_up u.1 k (upd (u.1 k) j v), u.2)
def ly_pl (u : St) (k j : Nat) (v : Int64) : St := (u.1, va_up u.2 k (vp_updL (u.2 k) j v))
theorem ly_fs_set {ad : Nat → Nat} {u : St} {k j : Nat} {fs : List (Option Nat)} {v : Int32} (hf : fs[j]? = some none) : (ly_fs ad u k fs).set j (.int v) = ly_fs ad (ly_pi u k j v) k fs := by
  apply List.ext_getElem?
  intro i
  by_cases hi : i = j
  · subst hi
    have hl : i < (ly_fs ad u k fs).length := by
      have := (List.getElem?_eq_some_iff.mp hf).1
      simpa [ly_fs] using this
    rw [List.getElem?_set_self hl]
    simp only [ly_fs, List.getElem?_mapIdx, hf, Option.map_some, ly_f, ly_pi, va_up_self, pk_us]
  · rw [List.getElem?_set_ne (fun q => hi q.symm)]
    simp only [ly_fs, List.getElem?_mapIdx]
    cases hq : fs[i]? with
    | none => rfl
    | some f =>
      cases f with
      | none => simp only [Option.map_some, ly_f, ly_pi, va_up_self, pk_un hi]
      | some q => rfl
theorem ly_set_f {lay : List ly_E} {ad : Nat → Nat} {cA : Nat → ClassId} {u : St} {k j ci : Nat} {fs : List (Option Nat)} {v : Int32} (h : lay[k]? = some (.inl (ci, fs))) (hf : fs[j]? = some none) : (ly_W lay ad cA u).set k (ad k, .inr (ci, (ly_fs ad u k fs).set j (.int v))) = ly_W lay ad cA (ly_pi u k j v) := by
  refine ly_set h ?_ (fun i hi => ⟨va_up_ne _ _ hi, rfl⟩)
  rw [ly_fs_set hf]; rfl
theorem ly_set_i {lay : List ly_E} {ad : Nat → Nat} {cA : Nat → ClassId} {u : St} {k j n : Nat} {ty : FieldType} {v : Int32} (h : lay[k]? = some (.inr (.inl (ty, n)))) : (ly_W lay ad cA u).set k (ad k, .inl (cA k, n, .inl (upd (u.1 k) j v))) = ly_W lay ad cA (ly_pi u k j v) := by
  refine ly_set h ?_ (fun i hi => ⟨va_up_ne _ _ hi, rfl⟩)
  simp only [ly_cell, ly_pi, va_up_self]
theorem ly_set_l {lay : List ly_E} {ad : Nat → Nat} {cA : Nat → ClassId} {u : St} {k j n : Nat} {v : Int64} (h : lay[k]? = some (.inr (.inr (.inl n)))) : (ly_W lay ad cA u).set k (ad k, .inl (cA k, n, .inr (.inl (vp_updL (u.2 k) j v)))) = ly_W lay ad cA (ly_pl u k j v) := by
  refine ly_set h ?_ (fun i hi => ⟨rfl, va_up_ne _ _ hi⟩)
  simp only [ly_cell, ly_pl, va_up_self]
def ly_ty (lay : List ly_E) (k : Nat) : Option FieldType := match lay[k]? with
  | some (.inr (.inl a)) => some a.1
  | some (.inr (.inr (.inl _))) => some .long
  | some (.inr (.inr (.inr r))) => some (.object r.1)
  | _ => none
/-- the tables know the classes, and each array's class -/
def ly_K (D : va_G) (cl : List vw_C) (lay : List ly_E) (cA : Nat → ClassId) (U : State) : Prop := va_K D cl [] U ∧ ∀ (k : Nat) (ty : FieldType), ly_ty lay k = some ty → va_K D cl [(cA k, ty)] U
theorem ly_K.moved {D : va_G} {cl : List vw_C} {lay : List ly_E} {cA : Nat → ClassId} {u U : State} (hvm : u.vm.Alike U.vm) (h : ly_K D cl lay cA u) : ly_K D cl lay cA U := ⟨va_K.moved hvm h.1, fun k ty hk => va_K.moved hvm (h.2 k ty hk)⟩
def ly_G (D : va_G) (cl : List vw_C) (lay : List ly_E) (ad : Nat → Nat) (cA : Nat → ClassId) (A : Nat → Prop) (H0 : Heap) (u : St) (H : Heap) (locs : List Loc) : Prop := va_P D cl (ly_W lay ad cA u) H ∧ va_D A (ly_W lay ad cA u) ∧ va_S A H0 H locs
def ly_B (D : va_G) (cl : List vw_C) (lay : List ly_E) (ad : Nat → Nat) (cA : Nat → ClassId) (A : Nat → Prop) (u : St) (t : State) : Prop := va_P D cl (ly_W lay ad cA u) t.heap ∧ ly_K D cl lay cA t ∧ va_D A (ly_W lay ad cA u)
/-- what the statics hold: it outlives whatever a method does to its own cells -/
def ly_Zok (Zs : (Nat → Prop) → State → Heap → Prop) : Prop := (∀ (A B : Nat → Prop) (U : State) (H : Heap), Zs A U H → (∀ q, B q → A q) → Zs B U H) ∧ (∀ (A : Nat → Prop) (U : State) (H H1 : Heap), Zs A U H → (∀ a : Nat, a < H.size → ¬ A a → H1[a]? = H[a]?) → Zs A U H1) ∧ (∀ (A : Nat → Prop) (u U : State) (H : Heap), u.vm = U.vm → Zs A u H → Zs A U H) ∧ (∀ (A : Nat → Prop) (u U : State) (H : Heap), u.WarmedH U.vm → Zs A u H → Zs A U H)
def ly_Pc (Zs : (Nat → Prop) → State → Heap → Prop) (D : va_G) (cl : List vw_C) (lay : List ly_E) (ad : Nat → Nat) (cA : Nat → ClassId) (sz : Nat) (u : St) (av : List Value) : Array Value → State → Prop := va_Pc av (fun U => U.heap.size = sz ∧ va_P D cl (ly_W lay ad cA u) U.heap ∧ ly_K D cl lay cA U ∧ va_D (fun _ => True) (ly_W lay ad cA u) ∧ Zs (va_A (ly_W lay ad cA u) sz) U U.heap)
/-- contracts: from u the method returns r and leaves u' with post r u' -/
def ly_Mi (Zs : (Nat → Prop) → State → Heap → Prop) (cl : List vw_C) (lay : List ly_E) (l : Launch) (y : MethodName) (ws : List Cond) (rm : Room) (av : (Nat → Nat) → List Value) (u : St) (post : Int32 → St → Prop) : Prop := ∀ (D : va_G) (ad : Nat → Nat) (cA : Nat → ClassId) (sz : Nat), Met l y ws rm (ly_Pc Zs D cl lay ad cA sz u (av ad)) (va_Qi post (ly_B D cl lay ad cA (va_A (ly_W lay ad cA u) sz)) (va_A (ly_W lay ad cA u) sz)) 0 0 (va_A (ly_W lay ad cA u) sz)
def ly_Mv (Zs : (Nat → Prop) → State → Heap → Prop) (cl : List vw_C) (lay : List ly_E) (l : Launch) (y : MethodName) (ws : List Cond) (rm : Room) (av : (Nat → Nat) → List Value) (u : St) (post : St → Prop) : Prop := ∀ (D : va_G) (ad : Nat → Nat) (cA : Nat → ClassId) (sz : Nat), Met l y ws rm (ly_Pc Zs D cl lay ad cA sz u (av ad)) (va_Qv post (ly_B D cl lay ad cA (va_A (ly_W lay ad cA u) sz)) (va_A (ly_W lay ad cA u) sz)) 0 0 (va_A (ly_W lay ad cA u) sz)
section LY
variable {p : Program} {l : Launch} {e : Env} {R : Room} {s : State} {m : MethodId} {args : Array Value} {below : List Frame} {meth : Method} {c : Code} {H : Heap} {locs : List Loc} {cells slots : Nat} {Q : State → Prop} {cc bytes : ByteArray} {nL maxL index n pc : Nat} {Ts ws : List Cond} {own C host : String} {T : u_T} {N ci : Nat} {D : va_G} {cl : List vw_C} {lay : List ly_E} {ad : Nat → Nat} {cA : Nat → ClassId} {A : Nat → Prop} {H0 : Heap} {u : St} {ls : Array Slot} {rest st As : List Value} {y : MethodName} {ret : Option FieldType} {rm : Room} {Zs : (Nat → Prop) → State → Heap → Prop} {av : (Nat → Nat) → List Value}
theorem ly_get (fx : CallFix p m c cc nL s args Ts own) (hk : ly_K D cl lay cA s) (hw : ly_G D cl lay ad cA A H0 u H locs) (q0 : Nat) {fs : List (Option Nat)} (he : lay[q0]? = some (.inl (ci, fs))) (hc : cl[ci]? = some (C, T, N)) (hin : ∀ w ∈ u_ws C T N, w ∈ Ts) (k : Nat) (hkN : k < N) (hf : fs[k]? = some none) (hC : (T k).1 = C) (hl : Cond.fieldLink own index C (T k).2.1 (T k).2.2.1 ∈ Ts) (hdg : decode cc pc = .ok (.getfield index, 3))
    (kk : W p l e R s m args below meth c H locs cells slots Q (F0 m (pc + 3) ls (.int (u.1 q0 k) :: rest))) : W p l e R s m args below meth c H locs cells slots Q (F0 m pc ls (.ref (ad q0) :: rest)) :=
  va_get fx.1 fx.2.1 fx.2.2.2.2 hin fx.2.2.2.1 hk.1 hw.1 q0 (ly_at he) hc k hkN (fx.2.2.2.2 _ hl) (fun x h => by rw [hC] at h; exact h) (by simp only [ly_fs, List.getElem?_mapIdx, hf, Option.map_some, ly_f]) hdg kk
theorem ly_getr (fx : CallFix p m c cc nL s args Ts own) (hk : ly_K D cl lay cA s) (hw : ly_G D cl lay ad cA A H0 u H locs) (q0 : Nat) {fs : List (Option Nat)} (he : lay[q0]? = some (.inl (ci, fs))) (hc : cl[ci]? = some (C, T, N)) (hin : ∀ w ∈ u_ws C T N, w ∈ Ts) (k : Nat) (hkN : k < N) {q1 : Nat} (hf : fs[k]? = some (some q1)) (hC : (T k).1 = C) (hl : Cond.fieldLink own index C (T k).2.1 (T k).2.2.1 ∈ Ts) (hdg : decode cc pc = .ok (.getfield index, 3))
    (kk : W p l e R s m args below meth c H locs cells slots Q (F0 m (pc + 3) ls (.ref (ad q1) :: rest))) : W p l e R s m args below meth c H locs cells slots Q (F0 m pc ls (.ref (ad q0) :: rest)) :=
  va_get fx.1 fx.2.1 fx.2.2.2.2 hin fx.2.2.2.1 hk.1 hw.1 q0 (ly_at he) hc k hkN (fx.2.2.2.2 _ hl) (fun x h => by rw [hC] at h; exact h) (by simp only [ly_fs, List.getElem?_mapIdx, hf, Option.map_some, ly_f]) hdg kk
theorem ly_put (fx : CallFix p m c cc nL s args Ts own) (hk : ly_K D cl lay cA s) (hw : ly_G D cl lay ad cA A H0 u H locs) (q0 : Nat) {fs : List (Option Nat)} (he : lay[q0]? = some (.inl (ci, fs))) (hc : cl[ci]? = some (C, T, N)) (hin : ∀ w ∈ u_ws C T N, w ∈ Ts) (ty0 : Nat → FieldType) (hty : ∀ k, k < N → parseFieldDescriptor (T k).2.2.1 = some (ty0 k)) (hnm : ∀ a, a < N → ∀ b, b < N → a ≠ b → (T a).2.1 ≠ (T b).2.1) (k : Nat) (hkN : k < N) (hf : fs[k]? = some none) (hC : (T k).1 = C) (hfin : (T k).2.2.2 = false) (hl : Cond.fieldLink own index C (T k).2.1 (T k).2.2.1 ∈ Ts) {v : Int32} (hn : narrow (ty0 k) (.int v) = .int v) (hfit : fits (ty0 k) (.int v) = true) (hdg : decode cc pc = .ok (.putfield index, 3))
    (kk : ∀ (H1 : Heap) (locs1 : List Loc), ly_G D cl lay ad cA A H0 (ly_pi u q0 k v) H1 locs1 → W p l e R s m args below meth c H1 locs1 cells slots Q (F0 m (pc + 3) ls rest)) : W p l e R s m args below meth c H locs cells slots Q (F0 m pc ls (.int v :: .ref (ad q0) :: rest)) := by
  refine va_put fx.1 fx.2.1 fx.2.2.2.2 hin ty0 hty hnm fx.2.2.2.1 hk.1 hw.1 hw.2.1 hw.2.2 q0 (ly_at he) hc k hkN (fx.2.2.2.2 _ hl) (fun x h => by rw [hC] at h; exact h) hfin (hty k hkN) hn hfit ?_ hdg ?_
  · have := (List.getElem?_eq_some_iff.mp hf).1
    simpa [ly_fs] using this
  · intro H1 locs1 h1 h2 h3
    have es := ly_set_f (ad := ad) (cA := cA) (u := u) (v := v) he hf
    exact kk H1 locs1 ⟨es ▸ h1, es ▸ h2, h3⟩
theorem ly_iald (fx : CallFix p m c cc nL s args Ts own) (hk : ly_K D cl lay cA s) (hw : ly_G D cl lay ad cA A H0 u H locs) (q0 : Nat) (he : lay[q0]? = some (.inr (.inl (.int, n)))) {i : Int32} (hin : vp_in i n) (hdg : decode cc pc = .ok (.iaload, 1))
    (kk : W p l e R s m args below meth c H locs cells slots Q (F0 m (pc + 1) ls (.int (u.1 q0 i.toNatClampNeg) :: rest))) : W p l e R s m args below meth c H locs cells slots Q (F0 m pc ls (.int i :: .ref (ad q0) :: rest)) :=
  va_iald fx.1 fx.2.1 (hk.2 q0 .int (by simp only [ly_ty, he])) hw.1 q0 0 (ly_at he) rfl hin hdg kk
theorem ly_zald (fx : CallFix p m c cc nL s args Ts own) (hk : ly_K D cl lay cA s) (hw : ly_G D cl lay ad cA A H0 u H locs) (q0 : Nat) (he : lay[q0]? = some (.inr (.inl (.boolean, n)))) {i : Int32} (hin : vp_in i n) (hdg : decode cc pc = .ok (.baload, 1))
    (kk : W p l e R s m args below meth c H locs cells slots Q (F0 m (pc + 1) ls (.int (u.1 q0 i.toNatClampNeg) :: rest))) : W p l e R s m args below meth c H locs cells slots Q (F0 m pc ls (.int i :: .ref (ad q0) :: rest)) :=
  va_zald fx.1 fx.2.1 (hk.2 q0 .boolean (by simp only [ly_ty, he])) hw.1 q0 0 (ly_at he) rfl hin hdg kk
theorem ly_lald (fx : CallFix p m c cc nL s args Ts own) (hk : ly_K D cl lay cA s) (hw : ly_G D cl lay ad cA A H0 u H locs) (q0 : Nat) (he : lay[q0]? = some (.inr (.inr (.inl n)))) {i : Int32} (hin : vp_in i n) (hdg : decode cc pc = .ok (.laload, 1))
    (kk : W p l e R s m args below meth c H locs cells slots Q (F0 m (pc + 1) ls (.long (u.2 q0 i.toNatClampNeg) :: rest))) : W p l e R s m args below meth c H locs cells slots Q (F0 m pc ls (.int i :: .ref (ad q0) :: rest)) :=
  va_lald fx.1 fx.2.1 (hk.2 q0 .long (by simp only [ly_ty, he])) hw.1 q0 0 (ly_at he) rfl hin hdg kk
theorem ly_aald (fx : CallFix p m c cc nL s args Ts own) (hk : ly_K D cl lay cA s) (hw : ly_G D cl lay ad cA A H0 u H locs) (q0 : Nat) {E : String} {f : Nat → Option Nat} (he : lay[q0]? = some (.inr (.inr (.inr (E, n, f))))) {i : Int32} (hin : vp_in i n) {q1 : Nat} (hf : f i.toNatClampNeg = some q1) (hdg : decode cc pc = .ok (.aaload, 1))
    (kk : W p l e R s m args below meth c H locs cells slots Q (F0 m (pc + 1) ls (.ref (ad q1) :: rest))) : W p l e R s m args below meth c H locs cells slots Q (F0 m pc ls (.int i :: .ref (ad q0) :: rest)) := by
  refine va_aldq fx.1 fx.2.1 (hk.2 q0 (.object E) (by simp only [ly_ty, he])) hw.1 q0 0 (C := E) (ly_at he) rfl hin hdg ?_
  simp only [hf, Option.map_some]
  exact kk
theorem ly_iast (fx : CallFix p m c cc nL s args Ts own) (hk : ly_K D cl lay cA s) (hw : ly_G D cl lay ad cA A H0 u H locs) (q0 : Nat) (he : lay[q0]? = some (.inr (.inl (.int, n)))) {i x : Int32} (hin : vp_in i n) (hdg : decode cc pc = .ok (.iastore, 1))
    (kk : ∀ (H1 : Heap) (locs1 : List Loc), ly_G D cl lay ad cA A H0 (ly_pi u q0 i.toNatClampNeg x) H1 locs1 → W p l e R s m args below meth c H1 locs1 cells slots Q (F0 m (pc + 1) ls rest)) : W p l e R s m args below meth c H locs cells slots Q (F0 m pc ls (.int x :: .int i :: .ref (ad q0) :: rest)) := by
  refine va_iast fx.1 fx.2.1 (hk.2 q0 .int (by simp only [ly_ty, he])) hw.1 hw.2.1 hw.2.2 q0 0 (ly_at he) rfl hin hdg ?_
  intro H1 locs1 h1 h2 h3
  have es := ly_set_i (ad := ad) (cA := cA) (u := u) (j := i.toNatClampNeg) (v := x) he
  exact kk H1 locs1 ⟨es ▸ h1, es ▸ h2, h3⟩
theorem ly_zast (fx : CallFix p m c cc nL s args Ts own) (hk : ly_K D cl lay cA s) (hw : ly_G D cl lay ad cA A H0 u H locs) (q0 : Nat) (he : lay[q0]? = some (.inr (.inl (.boolean, n)))) {i x : Int32} (hin : vp_in i n) (hx : vp_nar .boolean x = x) (hdg : decode cc pc = .ok (.bastore, 1))
    (kk : ∀ (H1 : Heap) (locs1 : List Loc), ly_G D cl lay ad cA A H0 (ly_pi u q0 i.toNatClampNeg x) H1 locs1 → W p l e R s m args below meth c H1 locs1 cells slots Q (F0 m (pc + 1) ls rest)) : W p l e R s m args below meth c H locs cells slots Q (F0 m pc ls (.int x :: .int i :: .ref (ad q0) :: rest)) := by
  refine va_zast fx.1 fx.2.1 (hk.2 q0 .boolean (by simp only [ly_ty, he])) hw.1 hw.2.1 hw.2.2 q0 0 (ly_at he) rfl hin hdg ?_
  intro H1 locs1 h1 h2 h3
  rw [hx] at h1 h2
  have es := ly_set_i (ad := ad) (cA := cA) (u := u) (j := i.toNatClampNeg) (v := x) he
  exact kk H1 locs1 ⟨es ▸ h1, es ▸ h2, h3⟩
theorem ly_last (fx : CallFix p m c cc nL s args Ts own) (hk : ly_K D cl lay cA s) (hw : ly_G D cl lay ad cA A H0 u H locs) (q0 : Nat) (he : lay[q0]? = some (.inr (.inr (.inl n)))) {i : Int32} {x : Int64} (hin : vp_in i n) (hdg : decode cc pc = .ok (.lastore, 1))
    (kk : ∀ (H1 : Heap) (locs1 : List Loc), ly_G D cl lay ad cA A H0 (ly_pl u q0 i.toNatClampNeg x) H1 locs1 → W p l e R s m args below meth c H1 locs1 cells slots Q (F0 m (pc + 1) ls rest)) : W p l e R s m args below meth c H locs cells slots Q (F0 m pc ls (.long x :: .int i :: .ref (ad q0) :: rest)) := by
  refine va_last fx.1 fx.2.1 (hk.2 q0 .long (by simp only [ly_ty, he])) hw.1 hw.2.1 hw.2.2 q0 0 (ly_at he) rfl hin hdg ?_
  intro H1 locs1 h1 h2 h3
  have es := ly_set_l (ad := ad) (cA := cA) (u := u) (j := i.toNatClampNeg) (v := x) he
  exact kk H1 locs1 ⟨es ▸ h1, es ▸ h2, h3⟩
theorem ly_alen (fx : CallFix p m c cc nL s args Ts own) (hk : ly_K D cl lay cA s) (hw : ly_G D cl lay ad cA A H0 u H locs) (q0 : Nat) (he : lay[q0]? = some (.inr (.inr (.inl n)))) {v : Int32} (hv : Int32.ofNat n = v) (hdg : decode cc pc = .ok (.arraylength, 1))
    (kk : W p l e R s m args below meth c H locs cells slots Q (F0 m (pc + 1) ls (.int v :: rest))) : W p l e R s m args below meth c H locs cells slots Q (F0 m pc ls (.ref (ad q0) :: rest)) :=
  va_alen fx.1 fx.2.1 (hk.2 q0 .long (by simp only [ly_ty, he])) hw.1 q0 0 (ly_at he) rfl hv hdg kk
/-- returns -/
theorem ly_reti (fx : CallFix p m c cc nL s args Ts own) (hr : meth.sig.returnType = some .int) (hlocks : meth.locks = false) (hk : ly_K D cl lay cA s) (hw : ly_G D cl lay ad cA A s.heap u H locs) {post : Int32 → St → Prop} {v : Int32} (hp : post v u) (hdg : decode cc pc = .ok (.ireturn, 1)) : W p l e R s m args below meth c H locs cells slots (MQ below (va_Qi post (ly_B D cl lay ad cA A) A) args s cells slots A) (F0 m pc ls [.int v]) :=
  W.iret fx.1 fx.2.1 hr (fun t ht hW => ⟨⟨v, u, rfl, hp, by rw [ht]; exact hw.1, hk.moved hW.alike, hw.2.1⟩, hw.2.2.F ht⟩) hw.2.2.2.2 hdg hlocks
theorem ly_retz (fx : CallFix p m c cc nL s args Ts own) (hr : meth.sig.returnType = some .boolean) (hlocks : meth.locks = false) (hk : ly_K D cl lay cA s) (hw : ly_G D cl lay ad cA A s.heap u H locs) {post : Int32 → St → Prop} {v : Int32} (hn : v = 0 ∨ v = 1) (hp : post v u) (hdg : decode cc pc = .ok (.ireturn, 1)) : W p l e R s m args below meth c H locs cells slots (MQ below (va_Qi post (ly_B D cl lay ad cA A) A) args s cells slots A) (F0 m pc ls [.int v]) :=
  W.zret fx.1 fx.2.1 hr (by rcases hn with rfl | rfl <;> rfl) (fun t ht hW => ⟨⟨v, u, rfl, hp, by rw [ht]; exact hw.1, hk.moved hW.alike, hw.2.1⟩, hw.2.2.F ht⟩) hw.2.2.2.2 hdg hlocks
theorem ly_retv (fx : CallFix p m c cc nL s args Ts own) (hr : meth.sig.returnType = none) (hlocks : meth.locks = false) (hk : ly_K D cl lay cA s) (hw : ly_G D cl lay ad cA A s.heap u H locs) {post : St → Prop} (hp : post u) (hdg : decode cc pc = .ok (.return_, 1)) : W p l e R s m args below meth c H locs cells slots (MQ below (va_Qv post (ly_B D cl lay ad cA A) A) args s cells slots A) (F0 m pc ls []) :=
  W.vret fx.1 fx.2.1 hr (fun t ht hW => ⟨⟨u, rfl, hp, by rw [ht]; exact hw.1, hk.moved hW.alike, hw.2.1⟩, hw.2.2.F ht⟩) hw.2.2.2.2 hdg hlocks
/-- entries -/
theorem ly_enti {ws' : List Cond} {post : Int32 → St → Prop} (hy : plainName y.cls = true) (hw : ws = Cond.code y cc maxL ret :: ws') (hle : ∀ ad, (lg_sl (av ad)).length ≤ maxL)
    (body : ∀ (p : Program) (e : Env) (s : State) (m : MethodId) (below : List Frame) (meth : Method) (c : Code) (D : va_G) (ad : Nat → Nat) (cA : Nat → ClassId) (A : Nat → Prop) (ls : Array Slot), CallFix p m c cc maxL s (av ad).toArray ws y.cls → meth.sig.returnType = ret → meth.locks = false → ly_K D cl lay cA s → (∀ q, s.heap.size ≤ q → A q) → Zs A s s.heap → ly_G D cl lay ad cA A s.heap u s.heap [] → lv_has ls maxL (lv_args 0 (av ad)) →
      W p l e rm s m (av ad).toArray below meth c s.heap [] 0 0 (MQ below (va_Qi post (ly_B D cl lay ad cA A) A) (av ad).toArray s 0 0 A) (F0 m 0 ls [])) : ly_Mi Zs cl lay l y ws rm av u post := by
  intro D ad cA sz
  refine Met.ofW (cc := cc) (maxL := maxL) (ret := ret) hy hw ?_
  intro p e s m args below meth c s₁ B hml hv
  obtain ⟨rfl, hsz, hP, hK, hD0, hZ⟩ := hv
  subst hsz
  rw [lg_entry_eq]
  exact body p e s m below meth c D ad cA (va_A (ly_W lay ad cA u) s.heap.size) _ ⟨B.exec, B.bytes, hml, findClass_of_methodNamed B.named, atoms_spec (ws := ws) B.pre⟩ B.returns B.notSynchronized hK (fun q h => Or.inr h) hZ ⟨hP, hD0.self, va_S.rf⟩ (lv_entry (av ad) (hle ad))
theorem ly_entv {ws' : List Cond} {post : St → Prop} (hy : plainName y.cls = true) (hw : ws = Cond.code y cc maxL ret :: ws') (hle : ∀ ad, (lg_sl (av ad)).length ≤ maxL)
    (body : ∀ (p : Program) (e : Env) (s : State) (m : MethodId) (below : List Frame) (meth : Method) (c : Code) (D : va_G) (ad : Nat → Nat) (cA : Nat → ClassId) (A : Nat → Prop) (ls : Array Slot), CallFix p m c cc maxL s (av ad).toArray ws y.cls → meth.sig.returnType = ret → meth.locks = false → ly_K D cl lay cA s → (∀ q, s.heap.size ≤ q → A q) → Zs A s s.heap → ly_G D cl lay ad cA A s.heap u s.heap [] → lv_has ls maxL (lv_args 0 (av ad)) →
      W p l e rm s m (av ad).toArray below meth c s.heap [] 0 0 (MQ below (va_Qv post (ly_B D cl lay ad cA A) A) (av ad).toArray s 0 0 A) (F0 m 0 ls [])) : ly_Mv Zs cl lay l y ws rm av u post := by
  intro D ad cA sz
  refine Met.ofW (cc := cc) (maxL := maxL) (ret := ret) hy hw ?_
  intro p e s m args below meth c s₁ B hml hv
  obtain ⟨rfl, hsz, hP, hK, hD0, hZ⟩ := hv
  subst hsz
  rw [lg_entry_eq]
  exact body p e s m below meth c D ad cA (va_A (ly_W lay ad cA u) s.heap.size) _ ⟨B.exec, B.bytes, hml, findClass_of_methodNamed B.named, atoms_spec (ws := ws) B.pre⟩ B.returns B.notSynchronized hK (fun q h => Or.inr h) hZ ⟨hP, hD0.self, va_S.rf⟩ (lv_entry (av ad) (hle ad))
/-- what a callee may write is the caller's to write -/
theorem ly_fr (hw : ly_G D cl lay ad cA A H0 u H locs) (hA : ∀ q, H0.size ≤ q → A q) : ∀ q, va_A (ly_W lay ad cA u) H.size q → A q := by
  intro q h
  rcases h with ⟨k, e, h⟩ | h
  · exact hw.2.1.2 k (q, e) h
  · exact hA q (Nat.le_trans hw.2.2.1 h)
theorem ly_blind {sz : Nat} (hZ : ly_Zok Zs) : FrameBlind (ly_Pc Zs D cl lay ad cA sz u As) := by
  intro a U g mk q
  obtain ⟨q0, q1, qP, qK, qD, qZ⟩ := q
  exact ⟨q0, q1, qP, qK.moved (u := U) (U := U.calling g mk a) (Vm.Alike.refl U.vm), qD, hZ.2.2.1 _ U _ _ rfl qZ⟩
theorem ly_pre (hZ : ly_Zok Zs) (hk : ly_K D cl lay cA s) (hz : Zs A s s.heap) (hw : ly_G D cl lay ad cA A s.heap u H locs) (hA : ∀ q, s.heap.size ≤ q → A q) : ∀ U : State, U.heap = H → s.WarmedH U.vm → ly_Pc Zs D cl lay ad cA H.size u As As.toArray U := by
  intro U hU hW
  refine ⟨rfl, by rw [hU], by rw [hU]; exact hw.1, hk.moved hW.alike, hw.2.1.weaken (fun _ _ _ _ => trivial), ?_⟩
  rw [hU]
  exact hZ.2.2.2 _ s U _ hW (hZ.1 _ _ _ _ (hZ.2.1 _ _ _ _ hz (fun a ha hn => hw.2.2.2.1 a ha hn)) (ly_fr hw hA))
theorem ly_callVi (hZ : ly_Zok Zs) (fx : CallFix p m c cc nL s args Ts own) (hk : ly_K D cl lay cA s) (hz : Zs A s s.heap) (hA : ∀ q, s.heap.size ≤ q → A q) (hw : ly_G D cl lay ad cA A s.heap u H locs) {post : Int32 → St → Prop} (hM : ly_Mi Zs cl lay l y ws rm av u post) (cw : CallW R s args own C index y bytes maxL ret ws rm 0 0 n) (q0 : Nat) {fs : List (Option Nat)} (he : lay[q0]? = some (.inl (ci, fs))) (hc : cl[ci]? = some (C, T, N)) (hav : av ad = .ref (ad q0) :: As) (hn : As.length = n) (hsz : ls.size = nL) (hst : st = As.reverse ++ .ref (ad q0) :: rest) (hcat : (rest.map fun v => v.category).sum ≤ 8) (hdg : decode cc pc = .ok (.invokevirtual index, 3)) (hcs : cells ≤ R.cells) (hss : slots ≤ R.slots)
    (kk : ∀ (r : Int32) (u1 : St) (H1 : Heap) (locs1 : List Loc), post r u1 → ly_G D cl lay ad cA A s.heap u1 H1 locs1 → W p l e R s m args below meth c H1 locs1 cells slots Q (F0 m (pc + 3) ls (.int r :: rest))) : W p l e R s m args below meth c H locs cells slots Q (F0 m pc ls st) := by
  subst hst
  have hfr := ly_fr hw hA
  refine va_calli (va_runV (As := As) (rest := rest) fx (hM D ad cA H.size) cw ⟨ly_blind hZ, va_recv hk.1 hw.1 hc (ly_at he), ?_⟩ rfl hn hsz rfl (lv_room hcat) hdg ⟨hcs, hss⟩) hw.2.2 (fun q _ h => hfr q h) hfr ?_
  · rw [← hav]; exact ly_pre hZ hk hz hw hA
  · intro r u1 t H1 locs1 ht hvm hp hB _ _ hS
    obtain ⟨hP1, hK1, hD1⟩ := hB
    rw [ht] at hP1
    exact kk r u1 H1 locs1 hp ⟨hP1, hD1.weaken (fun _ q _ h => hfr q.1 h), hS⟩
theorem ly_callVv (hZ : ly_Zok Zs) (fx : CallFix p m c cc nL s args Ts own) (hk : ly_K D cl lay cA s) (hz : Zs A s s.heap) (hA : ∀ q, s.heap.size ≤ q → A q) (hw : ly_G D cl lay ad cA A s.heap u H locs) {post : St → Prop} (hM : ly_Mv Zs cl lay l y ws rm av u post) (cw : CallW R s args own C index y bytes maxL ret ws rm 0 0 n) (q0 : Nat) {fs : List (Option Nat)} (he : lay[q0]? = some (.inl (ci, fs))) (hc : cl[ci]? = some (C, T, N)) (hav : av ad = .ref (ad q0) :: As) (hn : As.length = n) (hsz : ls.size = nL) (hst : st = As.reverse ++ .ref (ad q0) :: rest) (hcat : (rest.map fun v => v.category).sum ≤ 8) (hdg : decode cc pc = .ok (.invokevirtual index, 3)) (hcs : cells ≤ R.cells) (hss : slots ≤ R.slots)
    (kk : ∀ (u1 : St) (H1 : Heap) (locs1 : List Loc), post u1 → ly_G D cl lay ad cA A s.heap u1 H1 locs1 → W p l e R s m args below meth c H1 locs1 cells slots Q (F0 m (pc + 3) ls rest)) : W p l e R s m args below meth c H locs cells slots Q (F0 m pc ls st) := by
  subst hst
  have hfr := ly_fr hw hA
  refine va_callv (va_runV (As := As) (rest := rest) fx (hM D ad cA H.size) cw ⟨ly_blind hZ, va_recv hk.1 hw.1 hc (ly_at he), ?_⟩ rfl hn hsz rfl (lv_room hcat) hdg ⟨hcs, hss⟩) hw.2.2 (fun q _ h => hfr q h) hfr ?_
  · rw [← hav]; exact ly_pre hZ hk hz hw hA
  · intro u1 t H1 locs1 ht hvm hp hB _ _ hS
    obtain ⟨hP1, hK1, hD1⟩ := hB
    rw [ht] at hP1
    exact kk u1 H1 locs1 hp ⟨hP1, hD1.weaken (fun _ q _ h => hfr q.1 h), hS⟩
theorem ly_callSi (hZ : ly_Zok Zs) (fx : CallFix p m c cc nL s args Ts own) (hk : ly_K D cl lay cA s) (hz : Zs A s s.heap) (hA : ∀ q, s.heap.size ≤ q → A q) (hw : ly_G D cl lay ad cA A s.heap u H locs) {post : Int32 → St → Prop} (hM : ly_Mi Zs cl lay l y ws rm av u post) (cw : CallB R s args own index y bytes maxL ret ws rm 0 0 n ∧ (Cond.static y).before args s = true) (hav : av ad = As) (hn : As.length = n) (hsz : ls.size = nL) (hst : st = As.reverse ++ rest) (hcat : (rest.map fun v => v.category).sum ≤ 8) (hdg : decode cc pc = .ok (.invokestatic index, 3)) (hcs : cells ≤ R.cells) (hss : slots ≤ R.slots)
    (kk : ∀ (r : Int32) (u1 : St) (H1 : Heap) (locs1 : List Loc), post r u1 → ly_G D cl lay ad cA A s.heap u1 H1 locs1 → W p l e R s m args below meth c H1 locs1 cells slots Q (F0 m (pc + 3) ls (.int r :: rest))) : W p l e R s m args below meth c H locs cells slots Q (F0 m pc ls st) := by
  subst hst
  have hfr := ly_fr hw hA
  refine va_calli (va_runS (As := As) (rest := rest) fx (hM D ad cA H.size) cw ⟨ly_blind hZ, ?_⟩ rfl hn hsz rfl (lv_room hcat) hdg ⟨hcs, hss⟩) hw.2.2 (fun q _ h => hfr q h) hfr ?_
  · rw [← hav]; exact ly_pre hZ hk hz hw hA
  · intro r u1 t H1 locs1 ht hvm hp hB _ _ hS
    obtain ⟨hP1, hK1, hD1⟩ := hB
    rw [ht] at hP1
    exact kk r u1 H1 locs1 hp ⟨hP1, hD1.weaken (fun _ q _ h => hfr q.1 h), hS⟩
theorem ly_callSv (hZ : ly_Zok Zs) (fx : CallFix p m c cc nL s args Ts own) (hk : ly_K D cl lay cA s) (hz : Zs A s s.heap) (hA : ∀ q, s.heap.size ≤ q → A q) (hw : ly_G D cl lay ad cA A s.heap u H locs) {post : St → Prop} (hM : ly_Mv Zs cl lay l y ws rm av u post) (cw : CallB R s args own index y bytes maxL ret ws rm 0 0 n ∧ (Cond.static y).before args s = true) (hav : av ad = As) (hn : As.length = n) (hsz : ls.size = nL) (hst : st = As.reverse ++ rest) (hcat : (rest.map fun v => v.category).sum ≤ 8) (hdg : decode cc pc = .ok (.invokestatic index, 3)) (hcs : cells ≤ R.cells) (hss : slots ≤ R.slots)
    (kk : ∀ (u1 : St) (H1 : Heap) (locs1 : List Loc), post u1 → ly_G D cl lay ad cA A s.heap u1 H1 locs1 → W p l e R s m args below meth c H1 locs1 cells slots Q (F0 m (pc + 3) ls rest)) : W p l e R s m args below meth c H locs cells slots Q (F0 m pc ls st) := by
  subst hst
  have hfr := ly_fr hw hA
  refine va_callv (va_runS (As := As) (rest := rest) fx (hM D ad cA H.size) cw ⟨ly_blind hZ, ?_⟩ rfl hn hsz rfl (lv_room hcat) hdg ⟨hcs, hss⟩) hw.2.2 (fun q _ h => hfr q h) hfr ?_
  · rw [← hav]; exact ly_pre hZ hk hz hw hA
  · intro u1 t H1 locs1 ht hvm hp hB _ _ hS
    obtain ⟨hP1, hK1, hD1⟩ := hB
    rw [ht] at hP1
    exact kk u1 H1 locs1 hp ⟨hP1, hD1.weaken (fun _ q _ h => hfr q.1 h), hS⟩
theorem ly_callVNi (hZ : ly_Zok Zs) (fx : CallFix p m c cc nL s args Ts own) (hk : ly_K D cl lay cA s) (hz : Zs A s s.heap) (hA : ∀ q, s.heap.size ≤ q → A q) (hw : ly_G D cl lay ad cA A s.heap u H locs) {post : Int32 → St → Prop} (hM : ly_Mi Zs cl lay l y ws rm av u post) (cw : va_CN R s args own index y host bytes maxL ret ws rm 0 0 n ∧ (Cond.instanceMethod y).before args s = true ∧ (Cond.selects C y y).before args s = true) (q0 : Nat) {fs : List (Option Nat)} (he : lay[q0]? = some (.inl (ci, fs))) (hc : cl[ci]? = some (C, T, N)) (hav : av ad = .ref (ad q0) :: As) (hn : As.length = n) (hsz : ls.size = nL) (hst : st = As.reverse ++ .ref (ad q0) :: rest) (hcat : (rest.map fun v => v.category).sum ≤ 8) (hdg : decode cc pc = .ok (.invokevirtual index, 3)) (hcs : cells ≤ R.cells) (hss : slots ≤ R.slots)
    (kk : ∀ (r : Int32) (u1 : St) (H1 : Heap) (locs1 : List Loc), post r u1 → ly_G D cl lay ad cA A s.heap u1 H1 locs1 → W p l e R s m args below meth c H1 locs1 cells slots Q (F0 m (pc + 3) ls (.int r :: rest))) : W p l e R s m args below meth c H locs cells slots Q (F0 m pc ls st) := by
  subst hst
  have hfr := ly_fr hw hA
  refine va_calli (va_runVN (As := As) (rest := rest) fx (hM D ad cA H.size) cw ⟨ly_blind hZ, va_recv hk.1 hw.1 hc (ly_at he), ?_⟩ rfl hn hsz rfl (lv_room hcat) hdg ⟨hcs, hss⟩) hw.2.2 (fun q _ h => hfr q h) hfr ?_
  · rw [← hav]; exact ly_pre hZ hk hz hw hA
  · intro r u1 t H1 locs1 ht hvm hp hB _ _ hS
    obtain ⟨hP1, hK1, hD1⟩ := hB
    rw [ht] at hP1
    exact kk r u1 H1 locs1 hp ⟨hP1, hD1.weaken (fun _ q _ h => hfr q.1 h), hS⟩
theorem ly_callVNv (hZ : ly_Zok Zs) (fx : CallFix p m c cc nL s args Ts own) (hk : ly_K D cl lay cA s) (hz : Zs A s s.heap) (hA : ∀ q, s.heap.size ≤ q → A q) (hw : ly_G D cl lay ad cA A s.heap u H locs) {post : St → Prop} (hM : ly_Mv Zs cl lay l y ws rm av u post) (cw : va_CN R s args own index y host bytes maxL ret ws rm 0 0 n ∧ (Cond.instanceMethod y).before args s = true ∧ (Cond.selects C y y).before args s = true) (q0 : Nat) {fs : List (Option Nat)} (he : lay[q0]? = some (.inl (ci, fs))) (hc : cl[ci]? = some (C, T, N)) (hav : av ad = .ref (ad q0) :: As) (hn : As.length = n) (hsz : ls.size = nL) (hst : st = As.reverse ++ .ref (ad q0) :: rest) (hcat : (rest.map fun v => v.category).sum ≤ 8) (hdg : decode cc pc = .ok (.invokevirtual index, 3)) (hcs : cells ≤ R.cells) (hss : slots ≤ R.slots)
    (kk : ∀ (u1 : St) (H1 : Heap) (locs1 : List Loc), post u1 → ly_G D cl lay ad cA A s.heap u1 H1 locs1 → W p l e R s m args below meth c H1 locs1 cells slots Q (F0 m (pc + 3) ls rest)) : W p l e R s m args below meth c H locs cells slots Q (F0 m pc ls st) := by
  subst hst
  have hfr := ly_fr hw hA
  refine va_callv (va_runVN (As := As) (rest := rest) fx (hM D ad cA H.size) cw ⟨ly_blind hZ, va_recv hk.1 hw.1 hc (ly_at he), ?_⟩ rfl hn hsz rfl (lv_room hcat) hdg ⟨hcs, hss⟩) hw.2.2 (fun q _ h => hfr q h) hfr ?_
  · rw [← hav]; exact ly_pre hZ hk hz hw hA
  · intro u1 t H1 locs1 ht hvm hp hB _ _ hS
    obtain ⟨hP1, hK1, hD1⟩ := hB
    rw [ht] at hP1
    exact kk u1 H1 locs1 hp ⟨hP1, hD1.weaken (fun _ q _ h => hfr q.1 h), hS⟩
theorem ly_callSNi (hZ : ly_Zok Zs) (fx : CallFix p m c cc nL s args Ts own) (hk : ly_K D cl lay cA s) (hz : Zs A s s.heap) (hA : ∀ q, s.heap.size ≤ q → A q) (hw : ly_G D cl lay ad cA A s.heap u H locs) {post : Int32 → St → Prop} (hM : ly_Mi Zs cl lay l y ws rm av u post) (cw : va_CN R s args own index y host bytes maxL ret ws rm 0 0 n ∧ (Cond.static y).before args s = true ∧ True) (hav : av ad = As) (hn : As.length = n) (hsz : ls.size = nL) (hst : st = As.reverse ++ rest) (hcat : (rest.map fun v => v.category).sum ≤ 8) (hdg : decode cc pc = .ok (.invokestatic index, 3)) (hcs : cells ≤ R.cells) (hss : slots ≤ R.slots)
    (kk : ∀ (r : Int32) (u1 : St) (H1 : Heap) (locs1 : List Loc), post r u1 → ly_G D cl lay ad cA A s.heap u1 H1 locs1 → W p l e R s m args below meth c H1 locs1 cells slots Q (F0 m (pc + 3) ls (.int r :: rest))) : W p l e R s m args below meth c H locs cells slots Q (F0 m pc ls st) := by
  subst hst
  have hfr := ly_fr hw hA
  refine va_calli (va_runSN (As := As) (rest := rest) fx (hM D ad cA H.size) cw ⟨ly_blind hZ, ?_⟩ rfl hn hsz rfl (lv_room hcat) hdg ⟨hcs, hss⟩) hw.2.2 (fun q _ h => hfr q h) hfr ?_
  · rw [← hav]; exact ly_pre hZ hk hz hw hA
  · intro r u1 t H1 locs1 ht hvm hp hB _ _ hS
    obtain ⟨hP1, hK1, hD1⟩ := hB
    rw [ht] at hP1
    exact kk r u1 H1 locs1 hp ⟨hP1, hD1.weaken (fun _ q _ h => hfr q.1 h), hS⟩
theorem ly_callSNv (hZ : ly_Zok Zs) (fx : CallFix p m c cc nL s args Ts own) (hk : ly_K D cl lay cA s) (hz : Zs A s s.heap) (hA : ∀ q, s.heap.size ≤ q → A q) (hw : ly_G D cl lay ad cA A s.heap u H locs) {post : St → Prop} (hM : ly_Mv Zs cl lay l y ws rm av u post) (cw : va_CN R s args own index y host bytes maxL ret ws rm 0 0 n ∧ (Cond.static y).before args s = true ∧ True) (hav : av ad = As) (hn : As.length = n) (hsz : ls.size = nL) (hst : st = As.reverse ++ rest) (hcat : (rest.map fun v => v.category).sum ≤ 8) (hdg : decode cc pc = .ok (.invokestatic index, 3)) (hcs : cells ≤ R.cells) (hss : slots ≤ R.slots)
    (kk : ∀ (u1 : St) (H1 : Heap) (locs1 : List Loc), post u1 → ly_G D cl lay ad cA A s.heap u1 H1 locs1 → W p l e R s m args below meth c H1 locs1 cells slots Q (F0 m (pc + 3) ls rest)) : W p l e R s m args below meth c H locs cells slots Q (F0 m pc ls st) := by
  subst hst
  have hfr := ly_fr hw hA
  refine va_callv (va_runSN (As := As) (rest := rest) fx (hM D ad cA H.size) cw ⟨ly_blind hZ, ?_⟩ rfl hn hsz rfl (lv_room hcat) hdg ⟨hcs, hss⟩) hw.2.2 (fun q _ h => hfr q h) hfr ?_
  · rw [← hav]; exact ly_pre hZ hk hz hw hA
  · intro u1 t H1 locs1 ht hvm hp hB _ _ hS
    obtain ⟨hP1, hK1, hD1⟩ := hB
    rw [ht] at hP1
    exact kk u1 H1 locs1 hp ⟨hP1, hD1.weaken (fun _ q _ h => hfr q.1 h), hS⟩
end LY
/-! words of the pure programs -/
def ib (i : Int32) (n : Nat) : Bool := !(decide (i < 0) || decide (n ≤ i.toNatClampNeg))
theorem ib_in {i : Int32} {n : Nat} : ib i n = true ↔ vp_in i n := by
  unfold ib vp_in
  simp
def nm_k {α β : Type} (e : α) (f : α → β) : β := f e
theorem nk_r {α β : Type} {e x : α} {f : α → Option β} {r : β} (ex : x = e) (h : nm_k e f = some r) : f x = some r := by subst ex; exact h
theorem it_t {α : Type} {q : Prop} {dq : Decidable q} (hc : q) {a b : Option α} {x : α} (h : (@ite (Option α) q dq a b) = some x) : a = some x := by rw [if_pos hc] at h; exact h
theorem it_f {α : Type} {q : Prop} {dq : Decidable q} (hc : ¬ q) {a b : Option α} {x : α} (h : (@ite (Option α) q dq a b) = some x) : b = some x := by rw [if_neg hc] at h; exact h
theorem it_n {α : Type} {q : Prop} {dq : Decidable q} {a : Option α} {x : α} (h : (@ite (Option α) q dq a none) = some x) : q ∧ a = some x := by
  by_cases hc : q
  · rw [if_pos hc] at h; exact ⟨hc, h⟩
  · rw [if_neg hc] at h; cases h
theorem it_in {α : Type} {i : Int32} {n : Nat} {a : Option α} {x : α} (h : (if ib i n = true then a else none) = some x) : vp_in i n ∧ a = some x := ⟨ib_in.mp (it_n h).1, (it_n h).2⟩
theorem bd_s {α β : Type} {o : Option α} {f : α → Option β} {x : β} (h : o.bind f = some x) : ∃ a, o = some a ∧ f a = some x := by
  cases o with
  | none => cases h
  | some a => exact ⟨a, rfl, h⟩
theorem vt_lt {i : Int32} {n : Nat} (h : vp_in i n) : i.toNatClampNeg < n := Nat.lt_of_not_le (fun q => h (Or.inr q))
def cl_k {α β γ : Type} (o : Option (α × β)) (f : α → β → Option γ) : Option γ := match o with
  | some q => f q.1 q.2
  | none => none
theorem ck_r {α β γ : Type} {o : Option (α × β)} {f : α → β → Option γ} {x : γ} (h : cl_k o f = some x) : ∃ r u, o = some (r, u) ∧ f r u = some x := by
  cases o with
  | none => cases h
  | some q => exact ⟨q.1, q.2, rfl, h⟩
theorem oi_p1 (x : Int32) : x + Int32.ofInt 1 = x + 1 := by rw [show Int32.ofInt 1 = 1 from by decide]
theorem oi_p6 (x : Int32) : x + Int32.ofInt 6 = x + 6 := by rw [show Int32.ofInt 6 = 6 from by decide]
theorem oi_m1 (x : Int32) : x + Int32.ofInt (-1) = x + (-1) := by rw [show Int32.ofInt (-1) = -1 from by decide]
theorem ts_o3 {x : Int32} (h0 : ¬ x = 0) (h1 : ¬ x = 1) (h2 : ¬ x = 2) : x.toInt < 0 ∨ 2 < x.toInt := by
  have a0 : ¬ x.toInt = 0 := fun h => h0 (Int32.toInt_inj.mp (by rw [h]; decide))
  have a1 : ¬ x.toInt = 1 := fun h => h1 (Int32.toInt_inj.mp (by rw [h]; decide))
  have a2 : ¬ x.toInt = 2 := fun h => h2 (Int32.toInt_inj.mp (by rw [h]; decide))
  omega
def fs_T (t : Nat) : List (Option Nat) := [none, none, none, none, none, none, none, none, none, none, none, none, some (9 + 6 * t + 1), some (9 + 6 * t + 2), none, none, some (9 + 6 * t + 3), some (9 + 6 * t + 4), some (9 + 6 * t + 5)]
def layC : List ly_E := [
  .inl (0, [some (1), some (45), some (49), none, none, none]),
  .inl (1, [some (2), some (3), some (5), some (7), none, none]),
  .inr (.inr (.inr ("CaseNet$Task", 6, fun i => some (9 + 6 * i)))),
  .inl (4, [some (3 + 1), none]),
  .inr (.inr (.inl 256)),
  .inl (4, [some (5 + 1), none]),
  .inr (.inr (.inl 256)),
  .inl (4, [some (7 + 1), none]),
  .inr (.inr (.inl 256)),
  .inl (2, fs_T 0),
  .inr (.inl (.int, 3)),
  .inr (.inl (.int, 7)),
  .inr (.inl (.int, 8)),
  .inr (.inl (.int, 8)),
  .inr (.inl (.int, 8)),
  .inl (2, fs_T 1),
  .inr (.inl (.int, 3)),
  .inr (.inl (.int, 7)),
  .inr (.inl (.int, 8)),
  .inr (.inl (.int, 8)),
  .inr (.inl (.int, 8)),
  .inl (2, fs_T 2),
  .inr (.inl (.int, 3)),
  .inr (.inl (.int, 7)),
  .inr (.inl (.int, 8)),
  .inr (.inl (.int, 8)),
  .inr (.inl (.int, 8)),
  .inl (2, fs_T 3),
  .inr (.inl (.int, 3)),
  .inr (.inl (.int, 7)),
  .inr (.inl (.int, 8)),
  .inr (.inl (.int, 8)),
  .inr (.inl (.int, 8)),
  .inl (2, fs_T 4),
  .inr (.inl (.int, 3)),
  .inr (.inl (.int, 7)),
  .inr (.inl (.int, 8)),
  .inr (.inl (.int, 8)),
  .inr (.inl (.int, 8)),
  .inl (2, fs_T 5),
  .inr (.inl (.int, 3)),
  .inr (.inl (.int, 7)),
  .inr (.inl (.int, 8)),
  .inr (.inl (.int, 8)),
  .inr (.inl (.int, 8)),
  .inl (3, [some (46), some (47), some (48), none]),
  .inr (.inl (.int, 61)),
  .inr (.inl (.int, 61)),
  .inr (.inl (.int, 61)),
  .inr (.inl (.int, 4))]
theorem la_T {t : Nat} (h : t < 6) : layC[9 + 6 * t]? = some (.inl (2, fs_T t)) :=
  match t, h with
  | 0, _ => rfl
  | 1, _ => rfl
  | 2, _ => rfl
  | 3, _ => rfl
  | 4, _ => rfl
  | 5, _ => rfl
theorem la_T1 {t : Nat} (h : t < 6) : layC[9 + 6 * t + 1]? = some (.inr (.inl (.int, 3))) :=
  match t, h with
  | 0, _ => rfl
  | 1, _ => rfl
  | 2, _ => rfl
  | 3, _ => rfl
  | 4, _ => rfl
  | 5, _ => rfl
theorem la_T2 {t : Nat} (h : t < 6) : layC[9 + 6 * t + 2]? = some (.inr (.inl (.int, 7))) :=
  match t, h with
  | 0, _ => rfl
  | 1, _ => rfl
  | 2, _ => rfl
  | 3, _ => rfl
  | 4, _ => rfl
  | 5, _ => rfl
theorem la_T3 {t : Nat} (h : t < 6) : layC[9 + 6 * t + 3]? = some (.inr (.inl (.int, 8))) :=
  match t, h with
  | 0, _ => rfl
  | 1, _ => rfl
  | 2, _ => rfl
  | 3, _ => rfl
  | 4, _ => rfl
  | 5, _ => rfl
theorem la_T4 {t : Nat} (h : t < 6) : layC[9 + 6 * t + 4]? = some (.inr (.inl (.int, 8))) :=
  match t, h with
  | 0, _ => rfl
  | 1, _ => rfl
  | 2, _ => rfl
  | 3, _ => rfl
  | 4, _ => rfl
  | 5, _ => rfl
theorem la_T5 {t : Nat} (h : t < 6) : layC[9 + 6 * t + 5]? = some (.inr (.inl (.int, 8))) :=
  match t, h with
  | 0, _ => rfl
  | 1, _ => rfl
  | 2, _ => rfl
  | 3, _ => rfl
  | 4, _ => rfl
  | 5, _ => rfl
theorem la_M {q : Nat} (h : q = 3 ∨ q = 5 ∨ q = 7) : layC[q]? = some (.inl (4, [some (q + 1), none])) := by
  rcases h with rfl | rfl | rfl <;> rfl
theorem la_Mw {q : Nat} (h : q = 3 ∨ q = 5 ∨ q = 7) : layC[q + 1]? = some (.inr (.inr (.inl 256))) := by
  rcases h with rfl | rfl | rfl <;> rfl
def layM : List ly_E := [
  .inl (5, [some (1), some (2), some (3), some (4), some (5), some (6), some (7), some (8), some (9), some (10), some (11), some (12), some (13), some (14), some (15), none, none, none, some (16), none, some (17), some (18), some (19), some (20), some (21), some (22), none, some (23)]),
  .inr (.inl (.boolean, 6)),
  .inr (.inl (.int, 6)),
  .inr (.inl (.int, 6)),
  .inr (.inl (.int, 6)),
  .inr (.inl (.int, 6)),
  .inr (.inl (.int, 18)),
  .inr (.inl (.int, 18)),
  .inr (.inl (.int, 6)),
  .inr (.inl (.int, 48)),
  .inr (.inl (.int, 48)),
  .inr (.inl (.int, 48)),
  .inr (.inl (.int, 6)),
  .inr (.inl (.int, 6)),
  .inr (.inl (.int, 6)),
  .inr (.inl (.int, 6)),
  .inr (.inl (.int, 4)),
  .inr (.inl (.int, 61)),
  .inr (.inl (.int, 61)),
  .inr (.inl (.int, 61)),
  .inr (.inl (.int, 6)),
  .inr (.inr (.inl 256)),
  .inr (.inl (.int, 16384)),
  .inr (.inr (.inl 256))]
/-- the static table of the mask sets: for each low place the bits of a word whose masks have it -/
def hv_T : Nat → Int64 := fun k => match k with
  | 0 => -6148914691236517206
  | 1 => -3689348814741910324
  | 2 => -1085102592571150096
  | 3 => -71777214294589696
  | 4 => -281470681808896
  | _ => -4294967296
def hv_V : Nat → Value := fun k => .long (hv_T k)
def ZsC (A : Nat → Prop) (U : State) (H : Heap) : Prop := (∃ tH : Nat, va_Z "CaseNet$MaskSet" "HAVING" "[J" (.ref tH) A U H ∧ va_T .long tH 6 hv_V A U H) ∧ va_Nw (.methodLinkNest "CaseNet$Net" 33 y_CN_isBetween "CaseNet") U
theorem ZsC_ok : ly_Zok ZsC := ⟨fun A B U H ⟨⟨t, h1, h2⟩, h3⟩ hAB => ⟨⟨t, h1.narrow hAB, h2.narrow hAB⟩, h3⟩, fun A U H H1 ⟨⟨t, h1, h2⟩, h3⟩ hq => ⟨⟨t, h1.kept hq, h2.kept hq⟩, h3⟩, fun A u U H hvm ⟨⟨t, h1, h2⟩, h3⟩ => ⟨⟨t, h1.moved (hvm ▸ Vm.Alike.refl u.vm), h2.moved (hvm ▸ Vm.Alike.refl u.vm)⟩, h3.same rfl hvm⟩, fun A u U H hW ⟨⟨t, h1, h2⟩, h3⟩ => ⟨⟨t, h1.moved hW.alike, h2.moved hW.alike⟩, h3.warmM hW⟩⟩
def ZsM (_ : Nat → Prop) (_ : State) (_ : Heap) : Prop := True
theorem ZsM_ok : ly_Zok ZsM := ⟨fun _ _ _ _ _ _ => trivial, fun _ _ _ _ _ _ => trivial, fun _ _ _ _ _ _ => trivial, fun _ _ _ _ _ _ => trivial⟩
