/-! constructors: worlds that grow at their end -/
abbrev kt_S : Type := va_W × List (ClassId × FieldType)
def kt_Zn (U : State) : Prop := va_Nw (.methodLinkNest "CaseNet$Net" 19 y_MS_init "CaseNet") U ∧ va_Nw (.methodLinkNest "CaseNet" 18 y_Work_init "CaseNet") U ∧ va_AO "CaseNet$Task" U
theorem kt_Zn.same {u U : State} (h : u.vm = U.vm) (z : kt_Zn u) : kt_Zn U := ⟨z.1.same rfl h, z.2.1.same rfl h, z.2.2.moved (h ▸ Vm.Alike.refl u.vm)⟩
theorem kt_Zn.warm {u U : State} (h : u.WarmedH U.vm) (z : kt_Zn u) : kt_Zn U := ⟨z.1.warmM h, z.2.1.warmM h, z.2.2.moved h.alike⟩
def kt_Pc (D : va_G) (sz : Nat) (w0 : va_W) (av : List Value) : Array Value → State → Prop := va_Pc av (fun U => U.heap.size = sz ∧ va_P D clA w0 U.heap ∧ va_K D clA [] U ∧ va_D (fun _ => True) w0 ∧ kt_Zn U)
def kt_B (D : va_G) (A : Nat → Prop) (u : kt_S) (t : State) : Prop := va_P D clA u.1 t.heap ∧ va_K D clA u.2 t ∧ va_D A u.1
def kt_M (l : Launch) (y : MethodName) (ws : List Cond) (rm : Room) (av : List Value) (w0 : va_W) (mc ms : Nat) (post : kt_S → Prop) : Prop := ∀ (D : va_G) (sz : Nat), Met l y ws rm (kt_Pc D sz w0 av) (va_Qv post (kt_B D (va_A w0 sz)) (va_A w0 sz)) mc ms (va_A w0 sz)
theorem kt_jn {A0 : Nat → Prop} {D : va_G} {cl : List vw_C} {pre wc w1 : va_W} {H H1 : Heap} (hP : va_P D cl (pre ++ wc) H) (hD : va_D A0 (pre ++ wc)) (hk : ∀ q : Nat, q < H.size → ¬ va_A wc H.size q → H1[q]? = H[q]?) (hF : ∀ q, va_A wc H.size q → A0 q) (hP1 : va_P D cl w1 H1) (hD1 : va_D (va_A wc H.size) w1) : va_P D cl (pre ++ w1) H1 ∧ va_D A0 (pre ++ w1) := by
  have apart : ∀ (k : Nat) (q : Nat × va_E), pre[k]? = some q → q.1 < H.size ∧ ¬ va_A wc H.size q.1 := by
    intro k q hq
    have hlt := (List.getElem?_eq_some_iff.mp hq).1
    have h2 : (pre ++ wc)[k]? = some q := by rw [List.getElem?_append_left hlt]; exact hq
    have hl := (hP k q h2).lt
    refine ⟨hl, fun h => ?_⟩
    rcases h with ⟨k2, e, h⟩ | h
    · have h4 : (pre ++ wc)[pre.length + k2]? = some (q.1, e) := by rw [List.getElem?_append_right (by omega)]; simpa using h
      have hij := hD.1 k _ q (q.1, e) h2 h4 rfl
      omega
    · omega
  have hPp : va_P D cl pre H1 := by
    intro k q hq
    have hlt := (List.getElem?_eq_some_iff.mp hq).1
    exact (hP k q (by rw [List.getElem?_append_left hlt]; exact hq)).kept (hk q.1 (apart k q hq).1 (apart k q hq).2)
  have hDp : va_D A0 pre := by
    refine ⟨fun i j x y hx hy => hD.1 i j x y ?_ ?_, fun k q hq => hD.2 k q ?_⟩
    · rw [List.getElem?_append_left (List.getElem?_eq_some_iff.mp hx).1]; exact hx
    · rw [List.getElem?_append_left (List.getElem?_eq_some_iff.mp hy).1]; exact hy
    · rw [List.getElem?_append_left (List.getElem?_eq_some_iff.mp hq).1]; exact hq
  refine ⟨va_P.app hPp hP1, va_D.app hDp (hD1.weaken (fun k q _ h => hF q.1 h)) (fun i j x y hx hy hxy => ?_)⟩
  exact (apart i x hx).2 (by rw [hxy]; exact hD1.2 j y hy)
theorem kt_suf {A0 : Nat → Prop} {D : va_G} {cl : List vw_C} {pre wc : va_W} {H : Heap} (hP : va_P D cl (pre ++ wc) H) (hD : va_D A0 (pre ++ wc)) : va_P D cl wc H ∧ va_D A0 wc := by
  have at' : ∀ (k : Nat), (pre ++ wc)[pre.length + k]? = wc[k]? := fun k => by
    rw [List.getElem?_append_right (by omega)]; simp
  refine ⟨fun k q hq => hP (pre.length + k) q (by rw [at']; exact hq), fun i j x y hx hy h => ?_, fun k q hq => hD.2 (pre.length + k) q (by rw [at']; exact hq)⟩
  have := hD.1 (pre.length + i) (pre.length + j) x y (by rw [at']; exact hx) (by rw [at']; exact hy) h
  omega
section KT
variable {p : Program} {l : Launch} {e : Env} {R : Room} {s : State} {m : MethodId} {args : Array Value} {below : List Frame} {meth : Method} {c : Code} {H : Heap} {locs : List Loc} {cells slots : Nat} {Q : State → Prop} {cc bytes : ByteArray} {nL maxL index n pc mc ms : Nat} {Ts ws : List Cond} {own C host : String} {D : va_G} {A : Nat → Prop} {ls : Array Slot} {rest st As av : List Value} {y : MethodName} {rm : Room} {w0 pre : va_W} {tys : List (ClassId × FieldType)} {post : kt_S → Prop}
theorem kt_ent {ws' : List Cond} (hy : plainName y.cls = true) (hyn : y.name = "<init>") (hw : ws = Cond.code y cc maxL none :: ws') (hle : (lg_sl av).length ≤ maxL)
    (body : ∀ (p : Program) (e : Env) (s : State) (m : MethodId) (below : List Frame) (meth : Method) (c : Code) (D : va_G) (A : Nat → Prop) (ls : Array Slot), CallFix p m c cc maxL s av.toArray ws y.cls → meth.sig.returnType = none → meth.locks = false → meth.name = "<init>" → va_K D clA [] s → (∀ q, s.heap.size ≤ q → A q) → kt_Zn s → va_P D clA w0 s.heap → va_D A w0 → va_S A s.heap s.heap [] → lv_has ls maxL (lv_args 0 av) →
      W p l e rm s m av.toArray below meth c s.heap [] 0 0 (MQ below (va_Qv post (kt_B D A) A) av.toArray s mc ms A) (F0 m 0 ls [])) : kt_M l y ws rm av w0 mc ms post := by
  intro D sz
  refine Met.ofW (cc := cc) (maxL := maxL) (ret := none) hy hw ?_
  intro p e s m args below meth c s₁ B hml hv
  obtain ⟨rfl, hsz, hP, hK, hD0, hZ⟩ := hv
  subst hsz
  rw [lg_entry_eq]
  exact body p e s m below meth c D (va_A w0 s.heap.size) _ ⟨B.exec, B.bytes, hml, findClass_of_methodNamed B.named, atoms_spec (ws := ws) B.pre⟩ B.returns B.notSynchronized ((name_of_methodNamed B.named B.method).1.trans hyn) hK (fun q h => Or.inr h) hZ hP hD0.self va_S.rf (lv_entry av hle)
theorem kt_ret (fx : CallFix p m c cc nL s args Ts own) (hr : meth.sig.returnType = none) (hlocks : meth.locks = false) {w : va_W} (hK : va_K D clA tys s) (hP : va_P D clA w H) (hD : va_D A w) (hS : va_S A s.heap H locs) (hp : post (w, tys)) (hdg : decode cc pc = .ok (.return_, 1)) : W p l e R s m args below meth c H locs cells slots (MQ below (va_Qv post (kt_B D A) A) args s cells slots A) (F0 m pc ls []) :=
  W.vret fx.1 fx.2.1 hr (fun t ht hW => ⟨⟨(w, tys), rfl, hp, by show va_P D clA w t.heap; rw [ht]; exact hP, va_K.moved hW.alike hK, hD⟩, hS.F ht⟩) hS.2.2 hdg hlocks
theorem kt_fr (hP : va_P D clA (pre ++ w0) H) (hD : va_D A (pre ++ w0)) (hS : va_S A s.heap H locs) (hA : ∀ q, s.heap.size ≤ q → A q) : ∀ q, va_A w0 H.size q → A q := by
  intro q h
  rcases h with ⟨k, e, h⟩ | h
  · exact (kt_suf hP hD).2.2 k (q, e) h
  · exact hA q (Nat.le_trans hS.1 h)
theorem kt_blind {sz : Nat} : FrameBlind (kt_Pc D sz w0 As) := by
  intro a U g mk q
  obtain ⟨q0, q1, qP, qK, qD, qZ⟩ := q
  exact ⟨q0, q1, qP, va_K.moved (u := U) (U := U.calling g mk a) (Vm.Alike.refl U.vm) qK, qD, qZ.same (u := U) (U := U.calling g mk a) rfl⟩
theorem kt_pre (hK : va_K D clA tys s) (hz : kt_Zn s) (hP : va_P D clA (pre ++ w0) H) (hD : va_D A (pre ++ w0)) : ∀ U : State, U.heap = H → s.WarmedH U.vm → kt_Pc D H.size w0 As As.toArray U := fun U hU hW =>
  ⟨rfl, by rw [hU], by rw [hU]; exact (kt_suf hP hD).1, va_K.moved hW.alike (hK.sub (tys' := []) [] rfl), (kt_suf hP hD).2.weaken (fun _ _ _ _ => trivial), hz.warm hW⟩
theorem kt_callI (fx : CallFix p m c cc nL s args Ts own) (hK : va_K D clA tys s) (hz : kt_Zn s) (hA : ∀ q, s.heap.size ≤ q → A q) (hP : va_P D clA (pre ++ w0) H) (hD : va_D A (pre ++ w0)) (hS : va_S A s.heap H locs) {b : Nat} (hM : kt_M l y ws rm (.ref b :: As) w0 mc ms post) (cw : CallB R s args own index y bytes maxL none ws rm mc ms n ∧ y.name = "<init>" ∧ (Cond.instanceMethod y).before args s = true) (hn : As.length = n) (hsz : ls.size = nL) (hst : st = As.reverse ++ .ref b :: rest) (hcat : (rest.map fun v => v.category).sum ≤ 8) (hdg : decode cc pc = .ok (.invokespecial index, 3)) (hf : cells + mc ≤ R.cells ∧ slots + ms ≤ R.slots)
    (kk : ∀ (u : kt_S) (H1 : Heap) (locs1 : List Loc), post u → va_P D clA (pre ++ u.1) H1 → va_D A (pre ++ u.1) → va_K D clA (tys ++ u.2) s → va_S A s.heap H1 locs1 → W p l e R s m args below meth c H1 locs1 (cells + mc) (slots + ms) Q (F0 m (pc + 3) ls rest)) : W p l e R s m args below meth c H locs cells slots Q (F0 m pc ls st) := by
  subst hst
  have hfr := kt_fr hP hD hS hA
  refine va_callv (va_runI (As := As) (rest := rest) fx (hM D H.size) cw ⟨kt_blind, kt_pre hK hz hP hD⟩ rfl hn hsz rfl (lv_room hcat) hdg hf) hS (fun q _ h => hfr q h) hfr ?_
  intro u t H1 locs1 ht hvm hp hB _ hk1 hS1
  obtain ⟨hP1, hK1, hD1⟩ := hB
  rw [ht] at hP1
  obtain ⟨hP2, hD2⟩ := kt_jn hP hD hk1 hfr hP1 hD1
  exact kk u H1 locs1 hp hP2 hD2 (hK.app (va_K.moved hvm.symm hK1)) hS1
theorem kt_callIN (fx : CallFix p m c cc nL s args Ts own) (hK : va_K D clA tys s) (hz : kt_Zn s) (hA : ∀ q, s.heap.size ≤ q → A q) (hP : va_P D clA (pre ++ w0) H) (hD : va_D A (pre ++ w0)) (hS : va_S A s.heap H locs) {b : Nat} (hM : kt_M l y ws rm (.ref b :: As) w0 mc ms post) (cw : va_CN R s args own index y host bytes maxL none ws rm mc ms n ∧ y.name = "<init>" ∧ (Cond.instanceMethod y).before args s = true) (hn : As.length = n) (hsz : ls.size = nL) (hst : st = As.reverse ++ .ref b :: rest) (hcat : (rest.map fun v => v.category).sum ≤ 8) (hdg : decode cc pc = .ok (.invokespecial index, 3)) (hf : cells + mc ≤ R.cells ∧ slots + ms ≤ R.slots)
    (kk : ∀ (u : kt_S) (H1 : Heap) (locs1 : List Loc), post u → va_P D clA (pre ++ u.1) H1 → va_D A (pre ++ u.1) → va_K D clA (tys ++ u.2) s → va_S A s.heap H1 locs1 → W p l e R s m args below meth c H1 locs1 (cells + mc) (slots + ms) Q (F0 m (pc + 3) ls rest)) : W p l e R s m args below meth c H locs cells slots Q (F0 m pc ls st) := by
  subst hst
  have hfr := kt_fr hP hD hS hA
  refine va_callv (va_runIN (As := As) (rest := rest) fx (hM D H.size) cw ⟨kt_blind, kt_pre hK hz hP hD⟩ rfl hn hsz rfl (lv_room hcat) hdg hf) hS (fun q _ h => hfr q h) hfr ?_
  intro u t H1 locs1 ht hvm hp hB _ hk1 hS1
  obtain ⟨hP1, hK1, hD1⟩ := hB
  rw [ht] at hP1
  obtain ⟨hP2, hD2⟩ := kt_jn hP hD hk1 hfr hP1 hD1
  exact kk u H1 locs1 hp hP2 hD2 (hK.app (va_K.moved hvm.symm hK1)) hS1
theorem cw_I {x : Cond} {idx : Nat} (hts : ∀ w ∈ x :: wAll, w.before args s = true) (h1 : Cond.methodLink own idx y ∈ wAll) (h2 : Cond.instanceMethod y ∈ wAll) (h3 : Cond.initialized y.cls ∈ wAll) (h4 : Cond.code y bytes maxL none ∈ wAll) (hrc : rm.cells = mc) (hrs : rm.slots = ms) (hyn : y.name = "<init>") (hd : y.cls ≠ "java/lang/invoke/MethodHandle" ∧ y.cls ≠ "java/lang/invoke/VarHandle" ∧ (parseMethodDescriptor y.desc).map (fun d => d.parameters.length) = some n) (hR : rm.frames + 1 ≤ R.frames ∧ 8 + (maxL + 11) + rm.locals ≤ R.locals) :
    CallB R s args own idx y bytes maxL none (Cond.code y bytes maxL none :: wAll) rm mc ms n ∧ y.name = "<init>" ∧ (Cond.instanceMethod y).before args s = true :=
  ⟨callB_of n hts (gi_c (w := x) (fun z hz => (List.mem_cons.mp hz).elim (fun e => e ▸ h4) id)) rfl hrc hrs (hts _ (List.mem_cons_of_mem _ h3)) (hts _ (List.mem_cons_of_mem _ h1)) hd hR, hyn, hts _ (List.mem_cons_of_mem _ h2)⟩
theorem cw_IN {x : Cond} {idx : Nat} (hts : ∀ w ∈ x :: wAll, w.before args s = true) (h1 : va_Nw (.methodLinkNest own idx y host) s) (h2 : Cond.instanceMethod y ∈ wAll) (h3 : Cond.initialized y.cls ∈ wAll) (h4 : Cond.code y bytes maxL none ∈ wAll) (hrc : rm.cells = mc) (hrs : rm.slots = ms) (hyn : y.name = "<init>") (hd : y.cls ≠ "java/lang/invoke/MethodHandle" ∧ y.cls ≠ "java/lang/invoke/VarHandle" ∧ (parseMethodDescriptor y.desc).map (fun d => d.parameters.length) = some n) (hR : rm.frames + 1 ≤ R.frames ∧ 8 + (maxL + 11) + rm.locals ≤ R.locals) :
    va_CN R s args own idx y host bytes maxL none (Cond.code y bytes maxL none :: wAll) rm mc ms n ∧ y.name = "<init>" ∧ (Cond.instanceMethod y).before args s = true :=
  ⟨va_cnB n hts (gi_c (w := x) (fun z hz => (List.mem_cons.mp hz).elim (fun e => e ▸ h4) id)) rfl hrc hrs h1 (hts _ (List.mem_cons_of_mem _ h3)) hd hR, hyn, hts _ (List.mem_cons_of_mem _ h2)⟩
end KT
theorem df_CaseNet : ∀ j, j < 6 → defaultValue (t_CaseNet j) = vp_V [.null, .null, .null, .int 0, .int 0, .int 0] j := by decide +kernel
theorem df_Net : ∀ j, j < 6 → defaultValue (t_Net j) = vp_V [.null, .null, .null, .null, .int 0, .int 0] j := by decide +kernel
theorem df_Task : ∀ j, j < 19 → defaultValue (t_Task j) = vp_V [.int 0, .int 0, .int 0, .int 0, .int 0, .int 0, .int 0, .int 0, .int 0, .int 0, .int 0, .int 0, .null, .null, .int 0, .int 0, .null, .null, .null] j := by decide +kernel
theorem df_WorkList : ∀ j, j < 4 → defaultValue (t_WorkList j) = vp_V [.null, .null, .null, .int 0] j := by decide +kernel
theorem df_MaskSet : ∀ j, j < 2 → defaultValue (t_MaskSet j) = vp_V [.null, .int 0] j := by decide +kernel
theorem df_Model : ∀ j, j < 28 → defaultValue (t_Model j) = vp_V [.null, .null, .null, .null, .null, .null, .null, .null, .null, .null, .null, .null, .null, .null, .null, .int 0, .int 0, .int 0, .null, .int 0, .null, .null, .null, .null, .null, .null, .int 0, .null] j := by decide +kernel
