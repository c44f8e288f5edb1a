section
-- ===== PART A: goes FIRST, ahead of the names: the tables' words, and 'selects' of the private methods out of them =====
/-- a private method of a class that the tables say can be made, by its rows of tables_1 -/
def lw_okq (q : MethodName × Nat) : Prop := (q.1.cls ≠ "java/lang/invoke/MethodHandle" ∧ q.1.cls ≠ "java/lang/invoke/VarHandle") ∧ Cond.instantiable q.1.cls q.2 ∈ tables_1 ∧ Cond.privateMethod q.1 ∈ tables_1 ∧ Cond.instanceMethod q.1 ∈ tables_1
theorem lw_p0 : lw_okq (⟨"CaseNet$Task", "listTakes", "()V"⟩, 19) := ⟨⟨by decide +kernel, by decide +kernel⟩, List.mem_of_getElem? (i := 40) (by decide +kernel), List.mem_of_getElem? (i := 214) (by decide +kernel), List.mem_of_getElem? (i := 215) (by decide +kernel)⟩
theorem lw_p1 : lw_okq (⟨"CaseNet$Task", "listPuts", "()V"⟩, 19) := ⟨⟨by decide +kernel, by decide +kernel⟩, List.mem_of_getElem? (i := 40) (by decide +kernel), List.mem_of_getElem? (i := 222) (by decide +kernel), List.mem_of_getElem? (i := 223) (by decide +kernel)⟩
theorem lw_p2 : lw_okq (⟨"CaseNet", "stopTasksAmong", "(I)V"⟩, 6) := ⟨⟨by decide +kernel, by decide +kernel⟩, List.mem_of_getElem? (i := 11) (by decide +kernel), List.mem_of_getElem? (i := 263) (by decide +kernel), List.mem_of_getElem? (i := 264) (by decide +kernel)⟩
theorem lw_p3 : lw_okq (⟨"CaseNet", "stop", "(LCaseNet$Task;)V"⟩, 6) := ⟨⟨by decide +kernel, by decide +kernel⟩, List.mem_of_getElem? (i := 11) (by decide +kernel), List.mem_of_getElem? (i := 267) (by decide +kernel), List.mem_of_getElem? (i := 268) (by decide +kernel)⟩
theorem lw_p4 : lw_okq (⟨"CaseNet", "canFire", "(I)Z"⟩, 6) := ⟨⟨by decide +kernel, by decide +kernel⟩, List.mem_of_getElem? (i := 11) (by decide +kernel), List.mem_of_getElem? (i := 283) (by decide +kernel), List.mem_of_getElem? (i := 284) (by decide +kernel)⟩
theorem lw_p5 : lw_okq (⟨"CaseNet", "canMoreInputsCome", "(I)Z"⟩, 6) := ⟨⟨by decide +kernel, by decide +kernel⟩, List.mem_of_getElem? (i := 11) (by decide +kernel), List.mem_of_getElem? (i := 287) (by decide +kernel), List.mem_of_getElem? (i := 288) (by decide +kernel)⟩
theorem lw_p6 : lw_okq (⟨"CaseNet$Net", "addNeed", "(I)V"⟩, 6) := ⟨⟨by decide +kernel, by decide +kernel⟩, List.mem_of_getElem? (i := 19) (by decide +kernel), List.mem_of_getElem? (i := 302) (by decide +kernel), List.mem_of_getElem? (i := 303) (by decide +kernel)⟩
theorem lw_p7 : lw_okq (⟨"CaseNet$Net", "goBackBeforeEnd", "(LCaseNet$Task;I)V"⟩, 6) := ⟨⟨by decide +kernel, by decide +kernel⟩, List.mem_of_getElem? (i := 19) (by decide +kernel), List.mem_of_getElem? (i := 331) (by decide +kernel), List.mem_of_getElem? (i := 332) (by decide +kernel)⟩
theorem lw_p8 : lw_okq (⟨"CaseNet$Net", "goBackBeforeBegin", "(LCaseNet$Task;I)V"⟩, 6) := ⟨⟨by decide +kernel, by decide +kernel⟩, List.mem_of_getElem? (i := 19) (by decide +kernel), List.mem_of_getElem? (i := 335) (by decide +kernel), List.mem_of_getElem? (i := 336) (by decide +kernel)⟩
theorem lw_p9 : lw_okq (⟨"CaseNet", "end", "(LCaseNet$Task;)V"⟩, 6) := ⟨⟨by decide +kernel, by decide +kernel⟩, List.mem_of_getElem? (i := 11) (by decide +kernel), List.mem_of_getElem? (i := 371) (by decide +kernel), List.mem_of_getElem? (i := 372) (by decide +kernel)⟩
theorem lw_p10 : lw_okq (⟨"CaseNet$Task", "guardHolds", "(I[I)Z"⟩, 19) := ⟨⟨by decide +kernel, by decide +kernel⟩, List.mem_of_getElem? (i := 40) (by decide +kernel), List.mem_of_getElem? (i := 379) (by decide +kernel), List.mem_of_getElem? (i := 380) (by decide +kernel)⟩
theorem lw_p11 : lw_okq (⟨"CaseNet", "stopIfNoneIsOpen", "(LCaseNet$Task;)Z"⟩, 6) := ⟨⟨by decide +kernel, by decide +kernel⟩, List.mem_of_getElem? (i := 11) (by decide +kernel), List.mem_of_getElem? (i := 383) (by decide +kernel), List.mem_of_getElem? (i := 384) (by decide +kernel)⟩
theorem lw_p12 : lw_okq (⟨"CaseNet", "failOpen", "(I)Z"⟩, 6) := ⟨⟨by decide +kernel, by decide +kernel⟩, List.mem_of_getElem? (i := 11) (by decide +kernel), List.mem_of_getElem? (i := 396) (by decide +kernel), List.mem_of_getElem? (i := 397) (by decide +kernel)⟩
theorem lw_p13 : lw_okq (⟨"CaseNet", "isOverdue", "(I)Z"⟩, 6) := ⟨⟨by decide +kernel, by decide +kernel⟩, List.mem_of_getElem? (i := 11) (by decide +kernel), List.mem_of_getElem? (i := 404) (by decide +kernel), List.mem_of_getElem? (i := 405) (by decide +kernel)⟩
theorem lw_p14 : lw_okq (⟨"CaseNet$Net", "hasJoinSome", "()Z"⟩, 6) := ⟨⟨by decide +kernel, by decide +kernel⟩, List.mem_of_getElem? (i := 19) (by decide +kernel), List.mem_of_getElem? (i := 437) (by decide +kernel), List.mem_of_getElem? (i := 438) (by decide +kernel)⟩
theorem lw_p15 : lw_okq (⟨"CaseNet$Net", "reachFromStart", "()V"⟩, 6) := ⟨⟨by decide +kernel, by decide +kernel⟩, List.mem_of_getElem? (i := 19) (by decide +kernel), List.mem_of_getElem? (i := 441) (by decide +kernel), List.mem_of_getElem? (i := 442) (by decide +kernel)⟩
def lw_privs_1 : List (MethodName × Nat) := [(⟨"CaseNet$Task", "listTakes", "()V"⟩, 19), (⟨"CaseNet$Task", "listPuts", "()V"⟩, 19), (⟨"CaseNet", "stopTasksAmong", "(I)V"⟩, 6), (⟨"CaseNet", "stop", "(LCaseNet$Task;)V"⟩, 6), (⟨"CaseNet", "canFire", "(I)Z"⟩, 6), (⟨"CaseNet", "canMoreInputsCome", "(I)Z"⟩, 6), (⟨"CaseNet$Net", "addNeed", "(I)V"⟩, 6), (⟨"CaseNet$Net", "goBackBeforeEnd", "(LCaseNet$Task;I)V"⟩, 6), (⟨"CaseNet$Net", "goBackBeforeBegin", "(LCaseNet$Task;I)V"⟩, 6), (⟨"CaseNet", "end", "(LCaseNet$Task;)V"⟩, 6), (⟨"CaseNet$Task", "guardHolds", "(I[I)Z"⟩, 19), (⟨"CaseNet", "stopIfNoneIsOpen", "(LCaseNet$Task;)Z"⟩, 6), (⟨"CaseNet", "failOpen", "(I)Z"⟩, 6), (⟨"CaseNet", "isOverdue", "(I)Z"⟩, 6), (⟨"CaseNet$Net", "hasJoinSome", "()Z"⟩, 6), (⟨"CaseNet$Net", "reachFromStart", "()V"⟩, 6)]
theorem lw_r1 : ∀ q ∈ lw_privs_1, lw_okq q := List.forall_mem_cons.mpr ⟨lw_p0, List.forall_mem_cons.mpr ⟨lw_p1, List.forall_mem_cons.mpr ⟨lw_p2, List.forall_mem_cons.mpr ⟨lw_p3, List.forall_mem_cons.mpr ⟨lw_p4, List.forall_mem_cons.mpr ⟨lw_p5, List.forall_mem_cons.mpr ⟨lw_p6, List.forall_mem_cons.mpr ⟨lw_p7, List.forall_mem_cons.mpr ⟨lw_p8, List.forall_mem_cons.mpr ⟨lw_p9, List.forall_mem_cons.mpr ⟨lw_p10, List.forall_mem_cons.mpr ⟨lw_p11, List.forall_mem_cons.mpr ⟨lw_p12, List.forall_mem_cons.mpr ⟨lw_p13, List.forall_mem_cons.mpr ⟨lw_p14, List.forall_mem_cons.mpr ⟨lw_p15, fun _ h => absurd h List.not_mem_nil⟩⟩⟩⟩⟩⟩⟩⟩⟩⟩⟩⟩⟩⟩⟩⟩
theorem lw_p16 : lw_okq (⟨"CaseNet$Net", "addReached", "(I)V"⟩, 6) := ⟨⟨by decide +kernel, by decide +kernel⟩, List.mem_of_getElem? (i := 19) (by decide +kernel), List.mem_of_getElem? (i := 445) (by decide +kernel), List.mem_of_getElem? (i := 446) (by decide +kernel)⟩
theorem lw_p17 : lw_okq (⟨"CaseNet$Net", "goOnByBegin", "(II)V"⟩, 6) := ⟨⟨by decide +kernel, by decide +kernel⟩, List.mem_of_getElem? (i := 19) (by decide +kernel), List.mem_of_getElem? (i := 449) (by decide +kernel), List.mem_of_getElem? (i := 450) (by decide +kernel)⟩
theorem lw_p18 : lw_okq (⟨"CaseNet$Net", "goOnByEnd", "(LCaseNet$Task;I)V"⟩, 6) := ⟨⟨by decide +kernel, by decide +kernel⟩, List.mem_of_getElem? (i := 19) (by decide +kernel), List.mem_of_getElem? (i := 453) (by decide +kernel), List.mem_of_getElem? (i := 454) (by decide +kernel)⟩
theorem lw_p19 : lw_okq (⟨"CaseNetModel", "isDefined", "(I)Z"⟩, 28) := ⟨⟨by decide +kernel, by decide +kernel⟩, List.mem_of_getElem? (i := 462) (by decide +kernel), List.mem_of_getElem? (i := 570) (by decide +kernel), List.mem_of_getElem? (i := 571) (by decide +kernel)⟩
theorem lw_p20 : lw_okq (⟨"CaseNetModel", "search", "(III)Z"⟩, 28) := ⟨⟨by decide +kernel, by decide +kernel⟩, List.mem_of_getElem? (i := 462) (by decide +kernel), List.mem_of_getElem? (i := 589) (by decide +kernel), List.mem_of_getElem? (i := 590) (by decide +kernel)⟩
theorem lw_p21 : lw_okq (⟨"CaseNetModel", "meet", "(I)V"⟩, 28) := ⟨⟨by decide +kernel, by decide +kernel⟩, List.mem_of_getElem? (i := 462) (by decide +kernel), List.mem_of_getElem? (i := 593) (by decide +kernel), List.mem_of_getElem? (i := 594) (by decide +kernel)⟩
theorem lw_p22 : lw_okq (⟨"CaseNetModel", "after", "(III)I"⟩, 28) := ⟨⟨by decide +kernel, by decide +kernel⟩, List.mem_of_getElem? (i := 462) (by decide +kernel), List.mem_of_getElem? (i := 597) (by decide +kernel), List.mem_of_getElem? (i := 598) (by decide +kernel)⟩
theorem lw_p23 : lw_okq (⟨"CaseNetModel", "outputs", "(II)I"⟩, 28) := ⟨⟨by decide +kernel, by decide +kernel⟩, List.mem_of_getElem? (i := 462) (by decide +kernel), List.mem_of_getElem? (i := 601) (by decide +kernel), List.mem_of_getElem? (i := 602) (by decide +kernel)⟩
theorem lw_p24 : lw_okq (⟨"CaseNetModel", "isAny", "()Z"⟩, 28) := ⟨⟨by decide +kernel, by decide +kernel⟩, List.mem_of_getElem? (i := 462) (by decide +kernel), List.mem_of_getElem? (i := 609) (by decide +kernel), List.mem_of_getElem? (i := 610) (by decide +kernel)⟩
theorem lw_p25 : lw_okq (⟨"CaseNetModel", "runs", "(I)Z"⟩, 28) := ⟨⟨by decide +kernel, by decide +kernel⟩, List.mem_of_getElem? (i := 462) (by decide +kernel), List.mem_of_getElem? (i := 617) (by decide +kernel), List.mem_of_getElem? (i := 618) (by decide +kernel)⟩
theorem lw_p26 : lw_okq (⟨"CaseNetModel", "stop", "(I)V"⟩, 28) := ⟨⟨by decide +kernel, by decide +kernel⟩, List.mem_of_getElem? (i := 462) (by decide +kernel), List.mem_of_getElem? (i := 621) (by decide +kernel), List.mem_of_getElem? (i := 622) (by decide +kernel)⟩
theorem lw_p27 : lw_okq (⟨"CaseNetModel", "isEnabled", "(I)Z"⟩, 28) := ⟨⟨by decide +kernel, by decide +kernel⟩, List.mem_of_getElem? (i := 462) (by decide +kernel), List.mem_of_getElem? (i := 629) (by decide +kernel), List.mem_of_getElem? (i := 630) (by decide +kernel)⟩
theorem lw_p28 : lw_okq (⟨"CaseNetModel", "isLast", "(I)Z"⟩, 28) := ⟨⟨by decide +kernel, by decide +kernel⟩, List.mem_of_getElem? (i := 462) (by decide +kernel), List.mem_of_getElem? (i := 633) (by decide +kernel), List.mem_of_getElem? (i := 634) (by decide +kernel)⟩
theorem lw_p29 : lw_okq (⟨"CaseNetModel", "isItem", "(I)Z"⟩, 28) := ⟨⟨by decide +kernel, by decide +kernel⟩, List.mem_of_getElem? (i := 462) (by decide +kernel), List.mem_of_getElem? (i := 645) (by decide +kernel), List.mem_of_getElem? (i := 646) (by decide +kernel)⟩
theorem lw_p30 : lw_okq (⟨"CaseNetModel", "inState", "(III)I"⟩, 28) := ⟨⟨by decide +kernel, by decide +kernel⟩, List.mem_of_getElem? (i := 462) (by decide +kernel), List.mem_of_getElem? (i := 653) (by decide +kernel), List.mem_of_getElem? (i := 654) (by decide +kernel)⟩
theorem lw_p31 : lw_okq (⟨"CaseNetModel", "end", "(I)V"⟩, 28) := ⟨⟨by decide +kernel, by decide +kernel⟩, List.mem_of_getElem? (i := 462) (by decide +kernel), List.mem_of_getElem? (i := 657) (by decide +kernel), List.mem_of_getElem? (i := 658) (by decide +kernel)⟩
def lw_privs_2 : List (MethodName × Nat) := [(⟨"CaseNet$Net", "addReached", "(I)V"⟩, 6), (⟨"CaseNet$Net", "goOnByBegin", "(II)V"⟩, 6), (⟨"CaseNet$Net", "goOnByEnd", "(LCaseNet$Task;I)V"⟩, 6), (⟨"CaseNetModel", "isDefined", "(I)Z"⟩, 28), (⟨"CaseNetModel", "search", "(III)Z"⟩, 28), (⟨"CaseNetModel", "meet", "(I)V"⟩, 28), (⟨"CaseNetModel", "after", "(III)I"⟩, 28), (⟨"CaseNetModel", "outputs", "(II)I"⟩, 28), (⟨"CaseNetModel", "isAny", "()Z"⟩, 28), (⟨"CaseNetModel", "runs", "(I)Z"⟩, 28), (⟨"CaseNetModel", "stop", "(I)V"⟩, 28), (⟨"CaseNetModel", "isEnabled", "(I)Z"⟩, 28), (⟨"CaseNetModel", "isLast", "(I)Z"⟩, 28), (⟨"CaseNetModel", "isItem", "(I)Z"⟩, 28), (⟨"CaseNetModel", "inState", "(III)I"⟩, 28), (⟨"CaseNetModel", "end", "(I)V"⟩, 28)]
theorem lw_r2 : ∀ q ∈ lw_privs_2, lw_okq q := List.forall_mem_cons.mpr ⟨lw_p16, List.forall_mem_cons.mpr ⟨lw_p17, List.forall_mem_cons.mpr ⟨lw_p18, List.forall_mem_cons.mpr ⟨lw_p19, List.forall_mem_cons.mpr ⟨lw_p20, List.forall_mem_cons.mpr ⟨lw_p21, List.forall_mem_cons.mpr ⟨lw_p22, List.forall_mem_cons.mpr ⟨lw_p23, List.forall_mem_cons.mpr ⟨lw_p24, List.forall_mem_cons.mpr ⟨lw_p25, List.forall_mem_cons.mpr ⟨lw_p26, List.forall_mem_cons.mpr ⟨lw_p27, List.forall_mem_cons.mpr ⟨lw_p28, List.forall_mem_cons.mpr ⟨lw_p29, List.forall_mem_cons.mpr ⟨lw_p30, List.forall_mem_cons.mpr ⟨lw_p31, fun _ h => absurd h List.not_mem_nil⟩⟩⟩⟩⟩⟩⟩⟩⟩⟩⟩⟩⟩⟩⟩⟩
theorem lw_p32 : lw_okq (⟨"CaseNetModel", "failed", "(I)I"⟩, 28) := ⟨⟨by decide +kernel, by decide +kernel⟩, List.mem_of_getElem? (i := 462) (by decide +kernel), List.mem_of_getElem? (i := 665) (by decide +kernel), List.mem_of_getElem? (i := 666) (by decide +kernel)⟩
theorem lw_p33 : lw_okq (⟨"CaseNetModel", "canBegin", "(I)Z"⟩, 28) := ⟨⟨by decide +kernel, by decide +kernel⟩, List.mem_of_getElem? (i := 462) (by decide +kernel), List.mem_of_getElem? (i := 693) (by decide +kernel), List.mem_of_getElem? (i := 694) (by decide +kernel)⟩
theorem lw_p34 : lw_okq (⟨"CaseNetModel", "allEnd", "()Z"⟩, 28) := ⟨⟨by decide +kernel, by decide +kernel⟩, List.mem_of_getElem? (i := 462) (by decide +kernel), List.mem_of_getElem? (i := 697) (by decide +kernel), List.mem_of_getElem? (i := 698) (by decide +kernel)⟩
theorem lw_p35 : lw_okq (⟨"CaseNetModel", "isGood", "(I)Z"⟩, 28) := ⟨⟨by decide +kernel, by decide +kernel⟩, List.mem_of_getElem? (i := 462) (by decide +kernel), List.mem_of_getElem? (i := 701) (by decide +kernel), List.mem_of_getElem? (i := 702) (by decide +kernel)⟩
theorem lw_p36 : lw_okq (⟨"CaseNetModel", "leads", "(I)Z"⟩, 28) := ⟨⟨by decide +kernel, by decide +kernel⟩, List.mem_of_getElem? (i := 462) (by decide +kernel), List.mem_of_getElem? (i := 705) (by decide +kernel), List.mem_of_getElem? (i := 706) (by decide +kernel)⟩
def lw_privs_3 : List (MethodName × Nat) := [(⟨"CaseNetModel", "failed", "(I)I"⟩, 28), (⟨"CaseNetModel", "canBegin", "(I)Z"⟩, 28), (⟨"CaseNetModel", "allEnd", "()Z"⟩, 28), (⟨"CaseNetModel", "isGood", "(I)Z"⟩, 28), (⟨"CaseNetModel", "leads", "(I)Z"⟩, 28)]
theorem lw_r3 : ∀ q ∈ lw_privs_3, lw_okq q := List.forall_mem_cons.mpr ⟨lw_p32, List.forall_mem_cons.mpr ⟨lw_p33, List.forall_mem_cons.mpr ⟨lw_p34, List.forall_mem_cons.mpr ⟨lw_p35, List.forall_mem_cons.mpr ⟨lw_p36, fun _ h => absurd h List.not_mem_nil⟩⟩⟩⟩⟩
def lw_privs : List (MethodName × Nat) := lw_privs_1 ++ (lw_privs_2 ++ (lw_privs_3))
def lw_tbl : List Cond := k2_sels lw_privs ++ tables_1
theorem lw_privs_ok : ∀ q ∈ lw_privs, lw_okq q := by
  show ∀ q ∈ lw_privs_1 ++ (lw_privs_2 ++ (lw_privs_3)), lw_okq q
  exact List.forall_mem_append.mpr ⟨lw_r1, List.forall_mem_append.mpr ⟨lw_r2, lw_r3⟩⟩
end
section
def wAll : List Cond := lw_tbl.filter goodWord
theorem wa_in {w : Cond} (i : Nat) (h : tables_1[i]? = some w) (hg : goodWord w = true) : w ∈ wAll := List.mem_filter.mpr ⟨List.mem_append_right _ (List.mem_of_getElem? h), hg⟩
theorem wa_sel {q : MethodName × Nat} (i : Nat) (h : lw_privs[i]? = some q) : Cond.selects q.1.cls q.1 q.1 ∈ wAll := List.mem_filter.mpr ⟨List.mem_append_left _ (List.mem_map.mpr ⟨q, List.mem_of_getElem? h, rfl⟩), rfl⟩
theorem a_1 : (Jvm.Cond.initialized "CaseNet") ∈ wAll := wa_in 1 (by decide +kernel) (by decide +kernel)
theorem a_2 : (Jvm.Cond.initialized "CaseNet$Net") ∈ wAll := wa_in 2 (by decide +kernel) (by decide +kernel)
theorem a_3 : (Jvm.Cond.initialized "CaseNet$MaskSet") ∈ wAll := wa_in 3 (by decide +kernel) (by decide +kernel)
theorem a_4 : (Jvm.Cond.initialized "CaseNet$Task") ∈ wAll := wa_in 4 (by decide +kernel) (by decide +kernel)
theorem a_5 : (Jvm.Cond.initialized "CaseNet$WorkList") ∈ wAll := wa_in 5 (by decide +kernel) (by decide +kernel)
theorem a_6 : (Jvm.Cond.initialized "CaseNetModel") ∈ wAll := wa_in 6 (by decide +kernel) (by decide +kernel)
theorem a_7 : (Jvm.Cond.initialized "java/lang/Integer") ∈ wAll := wa_in 7 (by decide +kernel) (by decide +kernel)
theorem a_8 : (Jvm.Cond.initialized "java/util/Arrays") ∈ wAll := wa_in 8 (by decide +kernel) (by decide +kernel)
theorem a_9 : (Jvm.Cond.initialized "java/lang/Long") ∈ wAll := wa_in 9 (by decide +kernel) (by decide +kernel)
theorem a_32 : (Jvm.Cond.fieldLink "CaseNet$MaskSet" (11 : Nat) "CaseNet$MaskSet" "words" "[J") ∈ wAll := wa_in 32 (by decide +kernel) (by decide +kernel)
theorem a_33 : (Jvm.Cond.fieldLink "CaseNet$MaskSet" (15 : Nat) "CaseNet$MaskSet" "firstUsed" "I") ∈ wAll := wa_in 33 (by decide +kernel) (by decide +kernel)
theorem a_34 : (Jvm.Cond.laysFinal "CaseNet$MaskSet" "CaseNet$MaskSet" "words" "[J") ∈ wAll := wa_in 34 (by decide +kernel) (by decide +kernel)
theorem a_36 : (Jvm.Cond.lays "CaseNet$MaskSet" "CaseNet$MaskSet" "firstUsed" "I") ∈ wAll := wa_in 36 (by decide +kernel) (by decide +kernel)
theorem a_46 : (Jvm.Cond.fieldLink "CaseNet$Net" (92 : Nat) "CaseNet$Task" "place" "I") ∈ wAll := wa_in 46 (by decide +kernel) (by decide +kernel)
theorem a_47 : (Jvm.Cond.fieldLink "CaseNet" (95 : Nat) "CaseNet$Task" "place" "I") ∈ wAll := wa_in 47 (by decide +kernel) (by decide +kernel)
theorem a_48 : (Jvm.Cond.fieldLink "CaseNet$Task" (31 : Nat) "CaseNet$Task" "defined" "Z") ∈ wAll := wa_in 48 (by decide +kernel) (by decide +kernel)
theorem a_49 : (Jvm.Cond.fieldLink "CaseNet$Net" (37 : Nat) "CaseNet$Task" "defined" "Z") ∈ wAll := wa_in 49 (by decide +kernel) (by decide +kernel)
theorem a_50 : (Jvm.Cond.fieldLink "CaseNet$Task" (35 : Nat) "CaseNet$Task" "join" "I") ∈ wAll := wa_in 50 (by decide +kernel) (by decide +kernel)
theorem a_51 : (Jvm.Cond.fieldLink "CaseNet$Net" (66 : Nat) "CaseNet$Task" "join" "I") ∈ wAll := wa_in 51 (by decide +kernel) (by decide +kernel)
theorem a_52 : (Jvm.Cond.fieldLink "CaseNet" (164 : Nat) "CaseNet$Task" "join" "I") ∈ wAll := wa_in 52 (by decide +kernel) (by decide +kernel)
theorem a_53 : (Jvm.Cond.fieldLink "CaseNet$Task" (38 : Nat) "CaseNet$Task" "split" "I") ∈ wAll := wa_in 53 (by decide +kernel) (by decide +kernel)
theorem a_54 : (Jvm.Cond.fieldLink "CaseNet$Task" (41 : Nat) "CaseNet$Task" "ins" "I") ∈ wAll := wa_in 54 (by decide +kernel) (by decide +kernel)
theorem a_55 : (Jvm.Cond.fieldLink "CaseNet" (161 : Nat) "CaseNet$Task" "ins" "I") ∈ wAll := wa_in 55 (by decide +kernel) (by decide +kernel)
theorem a_56 : (Jvm.Cond.fieldLink "CaseNet$Task" (44 : Nat) "CaseNet$Task" "outs" "I") ∈ wAll := wa_in 56 (by decide +kernel) (by decide +kernel)
theorem a_57 : (Jvm.Cond.fieldLink "CaseNet" (62 : Nat) "CaseNet$Task" "outs" "I") ∈ wAll := wa_in 57 (by decide +kernel) (by decide +kernel)
theorem a_58 : (Jvm.Cond.fieldLink "CaseNet$Task" (47 : Nat) "CaseNet$Task" "cleared" "I") ∈ wAll := wa_in 58 (by decide +kernel) (by decide +kernel)
theorem a_59 : (Jvm.Cond.fieldLink "CaseNet" (55 : Nat) "CaseNet$Task" "cleared" "I") ∈ wAll := wa_in 59 (by decide +kernel) (by decide +kernel)
theorem a_60 : (Jvm.Cond.fieldLink "CaseNet$Net" (89 : Nat) "CaseNet$Task" "cleared" "I") ∈ wAll := wa_in 60 (by decide +kernel) (by decide +kernel)
theorem a_61 : (Jvm.Cond.fieldLink "CaseNet$Task" (65 : Nat) "CaseNet$Task" "number" "I") ∈ wAll := wa_in 61 (by decide +kernel) (by decide +kernel)
theorem a_62 : (Jvm.Cond.fieldLink "CaseNet" (85 : Nat) "CaseNet$Task" "number" "I") ∈ wAll := wa_in 62 (by decide +kernel) (by decide +kernel)
theorem a_63 : (Jvm.Cond.fieldLink "CaseNet$Task" (68 : Nat) "CaseNet$Task" "threshold" "I") ∈ wAll := wa_in 63 (by decide +kernel) (by decide +kernel)
theorem a_64 : (Jvm.Cond.fieldLink "CaseNet" (124 : Nat) "CaseNet$Task" "threshold" "I") ∈ wAll := wa_in 64 (by decide +kernel) (by decide +kernel)
theorem a_65 : (Jvm.Cond.fieldLink "CaseNet$Task" (71 : Nat) "CaseNet$Task" "variable" "I") ∈ wAll := wa_in 65 (by decide +kernel) (by decide +kernel)
theorem a_66 : (Jvm.Cond.fieldLink "CaseNet" (117 : Nat) "CaseNet$Task" "variable" "I") ∈ wAll := wa_in 66 (by decide +kernel) (by decide +kernel)
theorem a_67 : (Jvm.Cond.fieldLink "CaseNet$Task" (74 : Nat) "CaseNet$Task" "deadline" "I") ∈ wAll := wa_in 67 (by decide +kernel) (by decide +kernel)
theorem a_68 : (Jvm.Cond.fieldLink "CaseNet" (185 : Nat) "CaseNet$Task" "deadline" "I") ∈ wAll := wa_in 68 (by decide +kernel) (by decide +kernel)
theorem a_69 : (Jvm.Cond.fieldLink "CaseNet" (105 : Nat) "CaseNet$Task" "firstItem" "I") ∈ wAll := wa_in 69 (by decide +kernel) (by decide +kernel)
theorem a_70 : (Jvm.Cond.fieldLink "CaseNet$Task" (9 : Nat) "CaseNet$Task" "takes" "[I") ∈ wAll := wa_in 70 (by decide +kernel) (by decide +kernel)
theorem a_71 : (Jvm.Cond.fieldLink "CaseNet$Net" (105 : Nat) "CaseNet$Task" "takes" "[I") ∈ wAll := wa_in 71 (by decide +kernel) (by decide +kernel)
theorem a_72 : (Jvm.Cond.fieldLink "CaseNet$Task" (15 : Nat) "CaseNet$Task" "puts" "[I") ∈ wAll := wa_in 72 (by decide +kernel) (by decide +kernel)
theorem a_73 : (Jvm.Cond.fieldLink "CaseNet$Net" (98 : Nat) "CaseNet$Task" "puts" "[I") ∈ wAll := wa_in 73 (by decide +kernel) (by decide +kernel)
theorem a_74 : (Jvm.Cond.fieldLink "CaseNet$Task" (77 : Nat) "CaseNet$Task" "takesCount" "I") ∈ wAll := wa_in 74 (by decide +kernel) (by decide +kernel)
theorem a_75 : (Jvm.Cond.fieldLink "CaseNet$Net" (102 : Nat) "CaseNet$Task" "takesCount" "I") ∈ wAll := wa_in 75 (by decide +kernel) (by decide +kernel)
theorem a_76 : (Jvm.Cond.fieldLink "CaseNet$Task" (84 : Nat) "CaseNet$Task" "putsCount" "I") ∈ wAll := wa_in 76 (by decide +kernel) (by decide +kernel)
theorem a_77 : (Jvm.Cond.fieldLink "CaseNet$Net" (95 : Nat) "CaseNet$Task" "putsCount" "I") ∈ wAll := wa_in 77 (by decide +kernel) (by decide +kernel)
theorem a_78 : (Jvm.Cond.fieldLink "CaseNet$Task" (18 : Nat) "CaseNet$Task" "guardVariable" "[I") ∈ wAll := wa_in 78 (by decide +kernel) (by decide +kernel)
theorem a_79 : (Jvm.Cond.fieldLink "CaseNet$Task" (21 : Nat) "CaseNet$Task" "guardLow" "[I") ∈ wAll := wa_in 79 (by decide +kernel) (by decide +kernel)
theorem a_80 : (Jvm.Cond.fieldLink "CaseNet$Task" (24 : Nat) "CaseNet$Task" "guardHigh" "[I") ∈ wAll := wa_in 80 (by decide +kernel) (by decide +kernel)
theorem a_81 : (Jvm.Cond.laysFinal "CaseNet$Task" "CaseNet$Task" "place" "I") ∈ wAll := wa_in 81 (by decide +kernel) (by decide +kernel)
theorem a_83 : (Jvm.Cond.lays "CaseNet$Task" "CaseNet$Task" "defined" "Z") ∈ wAll := wa_in 83 (by decide +kernel) (by decide +kernel)
theorem a_85 : (Jvm.Cond.lays "CaseNet$Task" "CaseNet$Task" "join" "I") ∈ wAll := wa_in 85 (by decide +kernel) (by decide +kernel)
theorem a_87 : (Jvm.Cond.lays "CaseNet$Task" "CaseNet$Task" "split" "I") ∈ wAll := wa_in 87 (by decide +kernel) (by decide +kernel)
theorem a_89 : (Jvm.Cond.lays "CaseNet$Task" "CaseNet$Task" "ins" "I") ∈ wAll := wa_in 89 (by decide +kernel) (by decide +kernel)
theorem a_91 : (Jvm.Cond.lays "CaseNet$Task" "CaseNet$Task" "outs" "I") ∈ wAll := wa_in 91 (by decide +kernel) (by decide +kernel)
theorem a_93 : (Jvm.Cond.lays "CaseNet$Task" "CaseNet$Task" "cleared" "I") ∈ wAll := wa_in 93 (by decide +kernel) (by decide +kernel)
theorem a_95 : (Jvm.Cond.lays "CaseNet$Task" "CaseNet$Task" "number" "I") ∈ wAll := wa_in 95 (by decide +kernel) (by decide +kernel)
theorem a_97 : (Jvm.Cond.lays "CaseNet$Task" "CaseNet$Task" "threshold" "I") ∈ wAll := wa_in 97 (by decide +kernel) (by decide +kernel)
theorem a_99 : (Jvm.Cond.lays "CaseNet$Task" "CaseNet$Task" "variable" "I") ∈ wAll := wa_in 99 (by decide +kernel) (by decide +kernel)
theorem a_101 : (Jvm.Cond.lays "CaseNet$Task" "CaseNet$Task" "deadline" "I") ∈ wAll := wa_in 101 (by decide +kernel) (by decide +kernel)
theorem a_103 : (Jvm.Cond.lays "CaseNet$Task" "CaseNet$Task" "firstItem" "I") ∈ wAll := wa_in 103 (by decide +kernel) (by decide +kernel)
theorem a_105 : (Jvm.Cond.laysFinal "CaseNet$Task" "CaseNet$Task" "takes" "[I") ∈ wAll := wa_in 105 (by decide +kernel) (by decide +kernel)
theorem a_107 : (Jvm.Cond.laysFinal "CaseNet$Task" "CaseNet$Task" "puts" "[I") ∈ wAll := wa_in 107 (by decide +kernel) (by decide +kernel)
theorem a_109 : (Jvm.Cond.lays "CaseNet$Task" "CaseNet$Task" "takesCount" "I") ∈ wAll := wa_in 109 (by decide +kernel) (by decide +kernel)
theorem a_111 : (Jvm.Cond.lays "CaseNet$Task" "CaseNet$Task" "putsCount" "I") ∈ wAll := wa_in 111 (by decide +kernel) (by decide +kernel)
theorem a_113 : (Jvm.Cond.laysFinal "CaseNet$Task" "CaseNet$Task" "guardVariable" "[I") ∈ wAll := wa_in 113 (by decide +kernel) (by decide +kernel)
theorem a_115 : (Jvm.Cond.laysFinal "CaseNet$Task" "CaseNet$Task" "guardLow" "[I") ∈ wAll := wa_in 115 (by decide +kernel) (by decide +kernel)
theorem a_117 : (Jvm.Cond.laysFinal "CaseNet$Task" "CaseNet$Task" "guardHigh" "[I") ∈ wAll := wa_in 117 (by decide +kernel) (by decide +kernel)
theorem a_121 : (Jvm.Cond.fieldLink "CaseNet$Net" (11 : Nat) "CaseNet$Net" "tasks" "[LCaseNet$Task;") ∈ wAll := wa_in 121 (by decide +kernel) (by decide +kernel)
theorem a_122 : (Jvm.Cond.fieldLink "CaseNet" (39 : Nat) "CaseNet$Net" "tasks" "[LCaseNet$Task;") ∈ wAll := wa_in 122 (by decide +kernel) (by decide +kernel)
theorem a_123 : (Jvm.Cond.fieldLink "CaseNet$Net" (20 : Nat) "CaseNet$Net" "open" "LCaseNet$MaskSet;") ∈ wAll := wa_in 123 (by decide +kernel) (by decide +kernel)
theorem a_124 : (Jvm.Cond.fieldLink "CaseNet$Net" (24 : Nat) "CaseNet$Net" "reached" "LCaseNet$MaskSet;") ∈ wAll := wa_in 124 (by decide +kernel) (by decide +kernel)
theorem a_125 : (Jvm.Cond.fieldLink "CaseNet$Net" (27 : Nat) "CaseNet$Net" "covering" "LCaseNet$MaskSet;") ∈ wAll := wa_in 125 (by decide +kernel) (by decide +kernel)
theorem a_126 : (Jvm.Cond.fieldLink "CaseNet$Net" (62 : Nat) "CaseNet$Net" "begun" "I") ∈ wAll := wa_in 126 (by decide +kernel) (by decide +kernel)
theorem a_127 : (Jvm.Cond.fieldLink "CaseNet$Net" (59 : Nat) "CaseNet$Net" "endStandsAlone" "Z") ∈ wAll := wa_in 127 (by decide +kernel) (by decide +kernel)
theorem a_128 : (Jvm.Cond.laysFinal "CaseNet$Net" "CaseNet$Net" "tasks" "[LCaseNet$Task;") ∈ wAll := wa_in 128 (by decide +kernel) (by decide +kernel)
theorem a_130 : (Jvm.Cond.laysFinal "CaseNet$Net" "CaseNet$Net" "open" "LCaseNet$MaskSet;") ∈ wAll := wa_in 130 (by decide +kernel) (by decide +kernel)
theorem a_132 : (Jvm.Cond.laysFinal "CaseNet$Net" "CaseNet$Net" "reached" "LCaseNet$MaskSet;") ∈ wAll := wa_in 132 (by decide +kernel) (by decide +kernel)
theorem a_134 : (Jvm.Cond.laysFinal "CaseNet$Net" "CaseNet$Net" "covering" "LCaseNet$MaskSet;") ∈ wAll := wa_in 134 (by decide +kernel) (by decide +kernel)
theorem a_136 : (Jvm.Cond.lays "CaseNet$Net" "CaseNet$Net" "begun" "I") ∈ wAll := wa_in 136 (by decide +kernel) (by decide +kernel)
theorem a_138 : (Jvm.Cond.lays "CaseNet$Net" "CaseNet$Net" "endStandsAlone" "Z") ∈ wAll := wa_in 138 (by decide +kernel) (by decide +kernel)
theorem a_147 : (Jvm.Cond.fieldLink "CaseNet$WorkList" (9 : Nat) "CaseNet$WorkList" "task" "[I") ∈ wAll := wa_in 147 (by decide +kernel) (by decide +kernel)
theorem a_148 : (Jvm.Cond.fieldLink "CaseNet" (114 : Nat) "CaseNet$WorkList" "task" "[I") ∈ wAll := wa_in 148 (by decide +kernel) (by decide +kernel)
theorem a_149 : (Jvm.Cond.fieldLink "CaseNet$WorkList" (15 : Nat) "CaseNet$WorkList" "state" "[I") ∈ wAll := wa_in 149 (by decide +kernel) (by decide +kernel)
theorem a_150 : (Jvm.Cond.fieldLink "CaseNet" (111 : Nat) "CaseNet$WorkList" "state" "[I") ∈ wAll := wa_in 150 (by decide +kernel) (by decide +kernel)
theorem a_151 : (Jvm.Cond.fieldLink "CaseNet$WorkList" (18 : Nat) "CaseNet$WorkList" "offeredAt" "[I") ∈ wAll := wa_in 151 (by decide +kernel) (by decide +kernel)
theorem a_152 : (Jvm.Cond.fieldLink "CaseNet" (147 : Nat) "CaseNet$WorkList" "offeredAt" "[I") ∈ wAll := wa_in 152 (by decide +kernel) (by decide +kernel)
theorem a_153 : (Jvm.Cond.fieldLink "CaseNet$WorkList" (21 : Nat) "CaseNet$WorkList" "made" "I") ∈ wAll := wa_in 153 (by decide +kernel) (by decide +kernel)
theorem a_154 : (Jvm.Cond.fieldLink "CaseNet" (141 : Nat) "CaseNet$WorkList" "made" "I") ∈ wAll := wa_in 154 (by decide +kernel) (by decide +kernel)
theorem a_155 : (Jvm.Cond.laysFinal "CaseNet$WorkList" "CaseNet$WorkList" "task" "[I") ∈ wAll := wa_in 155 (by decide +kernel) (by decide +kernel)
theorem a_157 : (Jvm.Cond.laysFinal "CaseNet$WorkList" "CaseNet$WorkList" "state" "[I") ∈ wAll := wa_in 157 (by decide +kernel) (by decide +kernel)
theorem a_159 : (Jvm.Cond.laysFinal "CaseNet$WorkList" "CaseNet$WorkList" "offeredAt" "[I") ∈ wAll := wa_in 159 (by decide +kernel) (by decide +kernel)
theorem a_161 : (Jvm.Cond.lays "CaseNet$WorkList" "CaseNet$WorkList" "made" "I") ∈ wAll := wa_in 161 (by decide +kernel) (by decide +kernel)
theorem a_164 : (Jvm.Cond.fieldLink "CaseNet" (12 : Nat) "CaseNet" "net" "LCaseNet$Net;") ∈ wAll := wa_in 164 (by decide +kernel) (by decide +kernel)
theorem a_165 : (Jvm.Cond.fieldLink "CaseNet" (19 : Nat) "CaseNet" "work" "LCaseNet$WorkList;") ∈ wAll := wa_in 165 (by decide +kernel) (by decide +kernel)
theorem a_166 : (Jvm.Cond.fieldLink "CaseNet" (23 : Nat) "CaseNet" "variables" "[I") ∈ wAll := wa_in 166 (by decide +kernel) (by decide +kernel)
theorem a_167 : (Jvm.Cond.fieldLink "CaseNet" (27 : Nat) "CaseNet" "on" "Z") ∈ wAll := wa_in 167 (by decide +kernel) (by decide +kernel)
theorem a_168 : (Jvm.Cond.fieldLink "CaseNet" (75 : Nat) "CaseNet" "present" "I") ∈ wAll := wa_in 168 (by decide +kernel) (by decide +kernel)
theorem a_169 : (Jvm.Cond.fieldLink "CaseNet" (98 : Nat) "CaseNet" "clock" "I") ∈ wAll := wa_in 169 (by decide +kernel) (by decide +kernel)
theorem a_170 : (Jvm.Cond.laysFinal "CaseNet" "CaseNet" "net" "LCaseNet$Net;") ∈ wAll := wa_in 170 (by decide +kernel) (by decide +kernel)
theorem a_172 : (Jvm.Cond.laysFinal "CaseNet" "CaseNet" "work" "LCaseNet$WorkList;") ∈ wAll := wa_in 172 (by decide +kernel) (by decide +kernel)
theorem a_174 : (Jvm.Cond.laysFinal "CaseNet" "CaseNet" "variables" "[I") ∈ wAll := wa_in 174 (by decide +kernel) (by decide +kernel)
theorem a_176 : (Jvm.Cond.lays "CaseNet" "CaseNet" "on" "Z") ∈ wAll := wa_in 176 (by decide +kernel) (by decide +kernel)
theorem a_178 : (Jvm.Cond.lays "CaseNet" "CaseNet" "present" "I") ∈ wAll := wa_in 178 (by decide +kernel) (by decide +kernel)
theorem a_180 : (Jvm.Cond.lays "CaseNet" "CaseNet" "clock" "I") ∈ wAll := wa_in 180 (by decide +kernel) (by decide +kernel)
set_option maxRecDepth 20000 in
theorem a_186 : (Jvm.Cond.code ({ cls := "CaseNet", name := "task", desc := "(IIIII)Z" } : Jvm.MethodName) prog_1_method_2_code (6 : Nat) (Option.some Jvm.ClassFile.FieldType.boolean)) ∈ wAll := wa_in 186 rfl rfl
theorem a_187 : (Jvm.Cond.methodLink "CaseNet" (31 : Nat) ({ cls := "CaseNet", name := "isBetween", desc := "(III)Z" } : Jvm.MethodName)) ∈ wAll := wa_in 187 (by decide +kernel) (by decide +kernel)
theorem a_188 : (Jvm.Cond.static ({ cls := "CaseNet", name := "isBetween", desc := "(III)Z" } : Jvm.MethodName)) ∈ wAll := wa_in 188 (by decide +kernel) (by decide +kernel)
set_option maxRecDepth 20000 in
theorem a_189 : (Jvm.Cond.code ({ cls := "CaseNet", name := "isBetween", desc := "(III)Z" } : Jvm.MethodName) prog_1_method_20_code (3 : Nat) (Option.some Jvm.ClassFile.FieldType.boolean)) ∈ wAll := wa_in 189 rfl rfl
theorem a_190 : (Jvm.Cond.methodLink "CaseNet" (35 : Nat) ({ cls := "CaseNet", name := "isOneToThreeConditions", desc := "(I)Z" } : Jvm.MethodName)) ∈ wAll := wa_in 190 (by decide +kernel) (by decide +kernel)
theorem a_191 : (Jvm.Cond.static ({ cls := "CaseNet", name := "isOneToThreeConditions", desc := "(I)Z" } : Jvm.MethodName)) ∈ wAll := wa_in 191 (by decide +kernel) (by decide +kernel)
set_option maxRecDepth 20000 in
theorem a_192 : (Jvm.Cond.code ({ cls := "CaseNet", name := "isOneToThreeConditions", desc := "(I)Z" } : Jvm.MethodName) prog_1_method_23_code (1 : Nat) (Option.some Jvm.ClassFile.FieldType.boolean)) ∈ wAll := wa_in 192 rfl rfl
theorem a_193 : (Jvm.Cond.methodLink "CaseNet" (156 : Nat) ({ cls := "java/lang/Integer", name := "bitCount", desc := "(I)I" } : Jvm.MethodName)) ∈ wAll := wa_in 193 (by decide +kernel) (by decide +kernel)
theorem a_194 : (Jvm.Cond.static ({ cls := "java/lang/Integer", name := "bitCount", desc := "(I)I" } : Jvm.MethodName)) ∈ wAll := wa_in 194 (by decide +kernel) (by decide +kernel)
set_option maxRecDepth 20000 in
theorem a_195 : (Jvm.Cond.code ({ cls := "java/lang/Integer", name := "bitCount", desc := "(I)I" } : Jvm.MethodName) prog_8_method_49_code (1 : Nat) (Option.some Jvm.ClassFile.FieldType.int)) ∈ wAll := wa_in 195 rfl rfl
theorem a_196 : (Jvm.Cond.constant "java/lang/Integer" (265 : Nat) (1431655765 : Int32)) ∈ wAll := wa_in 196 (by decide +kernel) (by decide +kernel)
theorem a_197 : (Jvm.Cond.constant "java/lang/Integer" (266 : Nat) (858993459 : Int32)) ∈ wAll := wa_in 197 (by decide +kernel) (by decide +kernel)
theorem a_198 : (Jvm.Cond.constant "java/lang/Integer" (267 : Nat) (252645135 : Int32)) ∈ wAll := wa_in 198 (by decide +kernel) (by decide +kernel)
theorem a_199 : (Jvm.Cond.methodLink "CaseNet" (43 : Nat) ({ cls := "CaseNet$Task", name := "define", desc := "(IIII)V" } : Jvm.MethodName)) ∈ wAll := wa_in 199 (by decide +kernel) (by decide +kernel)
theorem a_200 : (Jvm.Cond.instanceMethod ({ cls := "CaseNet$Task", name := "define", desc := "(IIII)V" } : Jvm.MethodName)) ∈ wAll := wa_in 200 (by decide +kernel) (by decide +kernel)
theorem a_201 : (Jvm.Cond.selects "CaseNet$Task" ({ cls := "CaseNet$Task", name := "define", desc := "(IIII)V" } : Jvm.MethodName) ({ cls := "CaseNet$Task", name := "define", desc := "(IIII)V" } : Jvm.MethodName)) ∈ wAll := wa_in 201 (by decide +kernel) (by decide +kernel)
set_option maxRecDepth 20000 in
theorem a_202 : (Jvm.Cond.code ({ cls := "CaseNet$Task", name := "define", desc := "(IIII)V" } : Jvm.MethodName) prog_4_method_2_code (6 : Nat) (Option.none : Option Jvm.ClassFile.FieldType)) ∈ wAll := wa_in 202 rfl rfl
theorem a_203 : (Jvm.Cond.methodLink "CaseNet$Task" (50 : Nat) ({ cls := "CaseNet$Task", name := "putWork", desc := "(IIII)V" } : Jvm.MethodName)) ∈ wAll := wa_in 203 (by decide +kernel) (by decide +kernel)
theorem a_204 : (Jvm.Cond.instanceMethod ({ cls := "CaseNet$Task", name := "putWork", desc := "(IIII)V" } : Jvm.MethodName)) ∈ wAll := wa_in 204 (by decide +kernel) (by decide +kernel)
theorem a_205 : (Jvm.Cond.selects "CaseNet$Task" ({ cls := "CaseNet$Task", name := "putWork", desc := "(IIII)V" } : Jvm.MethodName) ({ cls := "CaseNet$Task", name := "putWork", desc := "(IIII)V" } : Jvm.MethodName)) ∈ wAll := wa_in 205 (by decide +kernel) (by decide +kernel)
set_option maxRecDepth 20000 in
theorem a_206 : (Jvm.Cond.code ({ cls := "CaseNet$Task", name := "putWork", desc := "(IIII)V" } : Jvm.MethodName) prog_4_method_3_code (5 : Nat) (Option.none : Option Jvm.ClassFile.FieldType)) ∈ wAll := wa_in 206 rfl rfl
theorem a_207 : (Jvm.Cond.constant "CaseNet$Task" (54 : Nat) (-2147483648 : Int32)) ∈ wAll := wa_in 207 (by decide +kernel) (by decide +kernel)
theorem a_208 : (Jvm.Cond.constant "CaseNet$Task" (55 : Nat) (2147483647 : Int32)) ∈ wAll := wa_in 208 (by decide +kernel) (by decide +kernel)
theorem a_209 : (Jvm.Cond.methodLink "CaseNet$Task" (56 : Nat) ({ cls := "CaseNet$Task", name := "putGuard", desc := "(IIII)V" } : Jvm.MethodName)) ∈ wAll := wa_in 209 (by decide +kernel) (by decide +kernel)
theorem a_210 : (Jvm.Cond.instanceMethod ({ cls := "CaseNet$Task", name := "putGuard", desc := "(IIII)V" } : Jvm.MethodName)) ∈ wAll := wa_in 210 (by decide +kernel) (by decide +kernel)
theorem a_211 : (Jvm.Cond.selects "CaseNet$Task" ({ cls := "CaseNet$Task", name := "putGuard", desc := "(IIII)V" } : Jvm.MethodName) ({ cls := "CaseNet$Task", name := "putGuard", desc := "(IIII)V" } : Jvm.MethodName)) ∈ wAll := wa_in 211 (by decide +kernel) (by decide +kernel)
set_option maxRecDepth 20000 in
theorem a_212 : (Jvm.Cond.code ({ cls := "CaseNet$Task", name := "putGuard", desc := "(IIII)V" } : Jvm.MethodName) prog_4_method_4_code (5 : Nat) (Option.none : Option Jvm.ClassFile.FieldType)) ∈ wAll := wa_in 212 rfl rfl
theorem a_213 : (Jvm.Cond.methodLink "CaseNet$Task" (59 : Nat) ({ cls := "CaseNet$Task", name := "listTakes", desc := "()V" } : Jvm.MethodName)) ∈ wAll := wa_in 213 (by decide +kernel) (by decide +kernel)
theorem a_215 : (Jvm.Cond.instanceMethod ({ cls := "CaseNet$Task", name := "listTakes", desc := "()V" } : Jvm.MethodName)) ∈ wAll := wa_in 215 (by decide +kernel) (by decide +kernel)
set_option maxRecDepth 20000 in
theorem a_216 : (Jvm.Cond.code ({ cls := "CaseNet$Task", name := "listTakes", desc := "()V" } : Jvm.MethodName) prog_4_method_5_code (2 : Nat) (Option.none : Option Jvm.ClassFile.FieldType)) ∈ wAll := wa_in 216 rfl rfl
theorem a_217 : (Jvm.Cond.methodLink "CaseNet$Task" (80 : Nat) ({ cls := "CaseNet$Task", name := "isMoveOf", desc := "(III)Z" } : Jvm.MethodName)) ∈ wAll := wa_in 217 (by decide +kernel) (by decide +kernel)
theorem a_218 : (Jvm.Cond.static ({ cls := "CaseNet$Task", name := "isMoveOf", desc := "(III)Z" } : Jvm.MethodName)) ∈ wAll := wa_in 218 (by decide +kernel) (by decide +kernel)
set_option maxRecDepth 20000 in
theorem a_219 : (Jvm.Cond.code ({ cls := "CaseNet$Task", name := "isMoveOf", desc := "(III)Z" } : Jvm.MethodName) prog_4_method_7_code (3 : Nat) (Option.some Jvm.ClassFile.FieldType.boolean)) ∈ wAll := wa_in 219 rfl rfl
theorem a_220 : (Jvm.Cond.methodLink "CaseNet$Task" (87 : Nat) ({ cls := "java/lang/Integer", name := "bitCount", desc := "(I)I" } : Jvm.MethodName)) ∈ wAll := wa_in 220 (by decide +kernel) (by decide +kernel)
theorem a_221 : (Jvm.Cond.methodLink "CaseNet$Task" (62 : Nat) ({ cls := "CaseNet$Task", name := "listPuts", desc := "()V" } : Jvm.MethodName)) ∈ wAll := wa_in 221 (by decide +kernel) (by decide +kernel)
theorem a_223 : (Jvm.Cond.instanceMethod ({ cls := "CaseNet$Task", name := "listPuts", desc := "()V" } : Jvm.MethodName)) ∈ wAll := wa_in 223 (by decide +kernel) (by decide +kernel)
set_option maxRecDepth 20000 in
theorem a_224 : (Jvm.Cond.code ({ cls := "CaseNet$Task", name := "listPuts", desc := "()V" } : Jvm.MethodName) prog_4_method_6_code (2 : Nat) (Option.none : Option Jvm.ClassFile.FieldType)) ∈ wAll := wa_in 224 rfl rfl
set_option maxRecDepth 20000 in
theorem a_228 : (Jvm.Cond.code ({ cls := "CaseNet", name := "region", desc := "(II)Z" } : Jvm.MethodName) prog_1_method_3_code (3 : Nat) (Option.some Jvm.ClassFile.FieldType.boolean)) ∈ wAll := wa_in 228 rfl rfl
theorem a_229 : (Jvm.Cond.methodLink "CaseNet" (49 : Nat) ({ cls := "CaseNet$Net", name := "isDefined", desc := "(I)Z" } : Jvm.MethodName)) ∈ wAll := wa_in 229 (by decide +kernel) (by decide +kernel)
theorem a_230 : (Jvm.Cond.instanceMethod ({ cls := "CaseNet$Net", name := "isDefined", desc := "(I)Z" } : Jvm.MethodName)) ∈ wAll := wa_in 230 (by decide +kernel) (by decide +kernel)
theorem a_231 : (Jvm.Cond.selects "CaseNet$Net" ({ cls := "CaseNet$Net", name := "isDefined", desc := "(I)Z" } : Jvm.MethodName) ({ cls := "CaseNet$Net", name := "isDefined", desc := "(I)Z" } : Jvm.MethodName)) ∈ wAll := wa_in 231 (by decide +kernel) (by decide +kernel)
set_option maxRecDepth 20000 in
theorem a_232 : (Jvm.Cond.code ({ cls := "CaseNet$Net", name := "isDefined", desc := "(I)Z" } : Jvm.MethodName) prog_3_method_2_code (2 : Nat) (Option.some Jvm.ClassFile.FieldType.boolean)) ∈ wAll := wa_in 232 rfl rfl
theorem a_234 : (Jvm.Cond.methodLink "CaseNet" (52 : Nat) ({ cls := "CaseNet", name := "isMaskOfPlaces", desc := "(I)Z" } : Jvm.MethodName)) ∈ wAll := wa_in 234 (by decide +kernel) (by decide +kernel)
theorem a_235 : (Jvm.Cond.static ({ cls := "CaseNet", name := "isMaskOfPlaces", desc := "(I)Z" } : Jvm.MethodName)) ∈ wAll := wa_in 235 (by decide +kernel) (by decide +kernel)
set_option maxRecDepth 20000 in
theorem a_236 : (Jvm.Cond.code ({ cls := "CaseNet", name := "isMaskOfPlaces", desc := "(I)Z" } : Jvm.MethodName) prog_1_method_22_code (1 : Nat) (Option.some Jvm.ClassFile.FieldType.boolean)) ∈ wAll := wa_in 236 rfl rfl
set_option maxRecDepth 20000 in
theorem a_240 : (Jvm.Cond.code ({ cls := "CaseNet", name := "guard", desc := "(IIIII)Z" } : Jvm.MethodName) prog_1_method_4_code (6 : Nat) (Option.some Jvm.ClassFile.FieldType.boolean)) ∈ wAll := wa_in 240 rfl rfl
theorem a_241 : (Jvm.Cond.methodLink "CaseNet" (59 : Nat) ({ cls := "CaseNet", name := "isVariable", desc := "(I)Z" } : Jvm.MethodName)) ∈ wAll := wa_in 241 (by decide +kernel) (by decide +kernel)
theorem a_242 : (Jvm.Cond.static ({ cls := "CaseNet", name := "isVariable", desc := "(I)Z" } : Jvm.MethodName)) ∈ wAll := wa_in 242 (by decide +kernel) (by decide +kernel)
set_option maxRecDepth 20000 in
theorem a_243 : (Jvm.Cond.code ({ cls := "CaseNet", name := "isVariable", desc := "(I)Z" } : Jvm.MethodName) prog_1_method_21_code (1 : Nat) (Option.some Jvm.ClassFile.FieldType.boolean)) ∈ wAll := wa_in 243 rfl rfl
theorem a_244 : (Jvm.Cond.methodLink "CaseNet" (65 : Nat) ({ cls := "CaseNet$Task", name := "putGuard", desc := "(IIII)V" } : Jvm.MethodName)) ∈ wAll := wa_in 244 (by decide +kernel) (by decide +kernel)
set_option maxRecDepth 20000 in
theorem a_248 : (Jvm.Cond.code ({ cls := "CaseNet", name := "items", desc := "(IIIII)Z" } : Jvm.MethodName) prog_1_method_5_code (6 : Nat) (Option.some Jvm.ClassFile.FieldType.boolean)) ∈ wAll := wa_in 248 rfl rfl
theorem a_249 : (Jvm.Cond.methodLink "CaseNet" (68 : Nat) ({ cls := "CaseNet$Task", name := "putWork", desc := "(IIII)V" } : Jvm.MethodName)) ∈ wAll := wa_in 249 (by decide +kernel) (by decide +kernel)
set_option maxRecDepth 20000 in
theorem a_253 : (Jvm.Cond.code ({ cls := "CaseNet", name := "launch", desc := "()Z" } : Jvm.MethodName) prog_1_method_6_code (1 : Nat) (Option.some Jvm.ClassFile.FieldType.boolean)) ∈ wAll := wa_in 253 rfl rfl
theorem a_254 : (Jvm.Cond.methodLink "CaseNet" (71 : Nat) ({ cls := "CaseNet$Net", name := "definedTasks", desc := "()I" } : Jvm.MethodName)) ∈ wAll := wa_in 254 (by decide +kernel) (by decide +kernel)
theorem a_255 : (Jvm.Cond.instanceMethod ({ cls := "CaseNet$Net", name := "definedTasks", desc := "()I" } : Jvm.MethodName)) ∈ wAll := wa_in 255 (by decide +kernel) (by decide +kernel)
theorem a_256 : (Jvm.Cond.selects "CaseNet$Net" ({ cls := "CaseNet$Net", name := "definedTasks", desc := "()I" } : Jvm.MethodName) ({ cls := "CaseNet$Net", name := "definedTasks", desc := "()I" } : Jvm.MethodName)) ∈ wAll := wa_in 256 (by decide +kernel) (by decide +kernel)
set_option maxRecDepth 20000 in
theorem a_257 : (Jvm.Cond.code ({ cls := "CaseNet$Net", name := "definedTasks", desc := "()I" } : Jvm.MethodName) prog_3_method_3_code (3 : Nat) (Option.some Jvm.ClassFile.FieldType.int)) ∈ wAll := wa_in 257 rfl rfl
set_option maxRecDepth 20000 in
theorem a_261 : (Jvm.Cond.code ({ cls := "CaseNet", name := "cancel", desc := "()Z" } : Jvm.MethodName) prog_1_method_7_code (1 : Nat) (Option.some Jvm.ClassFile.FieldType.boolean)) ∈ wAll := wa_in 261 rfl rfl
theorem a_262 : (Jvm.Cond.methodLink "CaseNet" (78 : Nat) ({ cls := "CaseNet", name := "stopTasksAmong", desc := "(I)V" } : Jvm.MethodName)) ∈ wAll := wa_in 262 (by decide +kernel) (by decide +kernel)
theorem a_264 : (Jvm.Cond.instanceMethod ({ cls := "CaseNet", name := "stopTasksAmong", desc := "(I)V" } : Jvm.MethodName)) ∈ wAll := wa_in 264 (by decide +kernel) (by decide +kernel)
set_option maxRecDepth 20000 in
theorem a_265 : (Jvm.Cond.code ({ cls := "CaseNet", name := "stopTasksAmong", desc := "(I)V" } : Jvm.MethodName) prog_1_method_28_code (4 : Nat) (Option.none : Option Jvm.ClassFile.FieldType)) ∈ wAll := wa_in 265 rfl rfl
theorem a_266 : (Jvm.Cond.methodLink "CaseNet" (170 : Nat) ({ cls := "CaseNet", name := "stop", desc := "(LCaseNet$Task;)V" } : Jvm.MethodName)) ∈ wAll := wa_in 266 (by decide +kernel) (by decide +kernel)
theorem a_268 : (Jvm.Cond.instanceMethod ({ cls := "CaseNet", name := "stop", desc := "(LCaseNet$Task;)V" } : Jvm.MethodName)) ∈ wAll := wa_in 268 (by decide +kernel) (by decide +kernel)
set_option maxRecDepth 20000 in
theorem a_269 : (Jvm.Cond.code ({ cls := "CaseNet", name := "stop", desc := "(LCaseNet$Task;)V" } : Jvm.MethodName) prog_1_method_27_code (2 : Nat) (Option.none : Option Jvm.ClassFile.FieldType)) ∈ wAll := wa_in 269 rfl rfl
theorem a_270 : (Jvm.Cond.methodLink "CaseNet" (177 : Nat) ({ cls := "CaseNet$WorkList", name := "withdrawOpen", desc := "(II)V" } : Jvm.MethodName)) ∈ wAll := wa_in 270 (by decide +kernel) (by decide +kernel)
theorem a_271 : (Jvm.Cond.instanceMethod ({ cls := "CaseNet$WorkList", name := "withdrawOpen", desc := "(II)V" } : Jvm.MethodName)) ∈ wAll := wa_in 271 (by decide +kernel) (by decide +kernel)
theorem a_272 : (Jvm.Cond.selects "CaseNet$WorkList" ({ cls := "CaseNet$WorkList", name := "withdrawOpen", desc := "(II)V" } : Jvm.MethodName) ({ cls := "CaseNet$WorkList", name := "withdrawOpen", desc := "(II)V" } : Jvm.MethodName)) ∈ wAll := wa_in 272 (by decide +kernel) (by decide +kernel)
set_option maxRecDepth 20000 in
theorem a_273 : (Jvm.Cond.code ({ cls := "CaseNet$WorkList", name := "withdrawOpen", desc := "(II)V" } : Jvm.MethodName) prog_5_method_8_code (4 : Nat) (Option.none : Option Jvm.ClassFile.FieldType)) ∈ wAll := wa_in 273 rfl rfl
theorem a_274 : (Jvm.Cond.methodLink "CaseNet$WorkList" (25 : Nat) ({ cls := "CaseNet$WorkList", name := "isOpen", desc := "(I)Z" } : Jvm.MethodName)) ∈ wAll := wa_in 274 (by decide +kernel) (by decide +kernel)
theorem a_275 : (Jvm.Cond.instanceMethod ({ cls := "CaseNet$WorkList", name := "isOpen", desc := "(I)Z" } : Jvm.MethodName)) ∈ wAll := wa_in 275 (by decide +kernel) (by decide +kernel)
theorem a_276 : (Jvm.Cond.selects "CaseNet$WorkList" ({ cls := "CaseNet$WorkList", name := "isOpen", desc := "(I)Z" } : Jvm.MethodName) ({ cls := "CaseNet$WorkList", name := "isOpen", desc := "(I)Z" } : Jvm.MethodName)) ∈ wAll := wa_in 276 (by decide +kernel) (by decide +kernel)
set_option maxRecDepth 20000 in
theorem a_277 : (Jvm.Cond.code ({ cls := "CaseNet$WorkList", name := "isOpen", desc := "(I)Z" } : Jvm.MethodName) prog_5_method_5_code (2 : Nat) (Option.some Jvm.ClassFile.FieldType.boolean)) ∈ wAll := wa_in 277 rfl rfl
set_option maxRecDepth 20000 in
theorem a_281 : (Jvm.Cond.code ({ cls := "CaseNet", name := "enabled", desc := "()I" } : Jvm.MethodName) prog_1_method_8_code (3 : Nat) (Option.some Jvm.ClassFile.FieldType.int)) ∈ wAll := wa_in 281 rfl rfl
theorem a_282 : (Jvm.Cond.methodLink "CaseNet" (82 : Nat) ({ cls := "CaseNet", name := "canFire", desc := "(I)Z" } : Jvm.MethodName)) ∈ wAll := wa_in 282 (by decide +kernel) (by decide +kernel)
theorem a_284 : (Jvm.Cond.instanceMethod ({ cls := "CaseNet", name := "canFire", desc := "(I)Z" } : Jvm.MethodName)) ∈ wAll := wa_in 284 (by decide +kernel) (by decide +kernel)
set_option maxRecDepth 20000 in
theorem a_285 : (Jvm.Cond.code ({ cls := "CaseNet", name := "canFire", desc := "(I)Z" } : Jvm.MethodName) prog_1_method_24_code (4 : Nat) (Option.some Jvm.ClassFile.FieldType.boolean)) ∈ wAll := wa_in 285 rfl rfl
theorem a_286 : (Jvm.Cond.methodLink "CaseNet" (167 : Nat) ({ cls := "CaseNet", name := "canMoreInputsCome", desc := "(I)Z" } : Jvm.MethodName)) ∈ wAll := wa_in 286 (by decide +kernel) (by decide +kernel)
theorem a_288 : (Jvm.Cond.instanceMethod ({ cls := "CaseNet", name := "canMoreInputsCome", desc := "(I)Z" } : Jvm.MethodName)) ∈ wAll := wa_in 288 (by decide +kernel) (by decide +kernel)
set_option maxRecDepth 20000 in
theorem a_289 : (Jvm.Cond.code ({ cls := "CaseNet", name := "canMoreInputsCome", desc := "(I)Z" } : Jvm.MethodName) prog_1_method_25_code (5 : Nat) (Option.some Jvm.ClassFile.FieldType.boolean)) ∈ wAll := wa_in 289 rfl rfl
theorem a_290 : (Jvm.Cond.methodLink "CaseNet" (150 : Nat) ({ cls := "CaseNet$Net", name := "findCovering", desc := "(III)Z" } : Jvm.MethodName)) ∈ wAll := wa_in 290 (by decide +kernel) (by decide +kernel)
theorem a_291 : (Jvm.Cond.instanceMethod ({ cls := "CaseNet$Net", name := "findCovering", desc := "(III)Z" } : Jvm.MethodName)) ∈ wAll := wa_in 291 (by decide +kernel) (by decide +kernel)
theorem a_292 : (Jvm.Cond.selects "CaseNet$Net" ({ cls := "CaseNet$Net", name := "findCovering", desc := "(III)Z" } : Jvm.MethodName) ({ cls := "CaseNet$Net", name := "findCovering", desc := "(III)Z" } : Jvm.MethodName)) ∈ wAll := wa_in 292 (by decide +kernel) (by decide +kernel)
set_option maxRecDepth 20000 in
theorem a_293 : (Jvm.Cond.code ({ cls := "CaseNet$Net", name := "findCovering", desc := "(III)Z" } : Jvm.MethodName) prog_3_method_6_code (7 : Nat) (Option.some Jvm.ClassFile.FieldType.boolean)) ∈ wAll := wa_in 293 rfl rfl
theorem a_294 : (Jvm.Cond.methodLink "CaseNet$Net" (69 : Nat) ({ cls := "CaseNet$MaskSet", name := "clear", desc := "()V" } : Jvm.MethodName)) ∈ wAll := wa_in 294 (by decide +kernel) (by decide +kernel)
theorem a_295 : (Jvm.Cond.instanceMethod ({ cls := "CaseNet$MaskSet", name := "clear", desc := "()V" } : Jvm.MethodName)) ∈ wAll := wa_in 295 (by decide +kernel) (by decide +kernel)
theorem a_296 : (Jvm.Cond.selects "CaseNet$MaskSet" ({ cls := "CaseNet$MaskSet", name := "clear", desc := "()V" } : Jvm.MethodName) ({ cls := "CaseNet$MaskSet", name := "clear", desc := "()V" } : Jvm.MethodName)) ∈ wAll := wa_in 296 (by decide +kernel) (by decide +kernel)
set_option maxRecDepth 20000 in
theorem a_297 : (Jvm.Cond.code ({ cls := "CaseNet$MaskSet", name := "clear", desc := "()V" } : Jvm.MethodName) prog_2_method_2_code (1 : Nat) (Option.none : Option Jvm.ClassFile.FieldType)) ∈ wAll := wa_in 297 rfl rfl
theorem a_298 : (Jvm.Cond.methodLink "CaseNet$MaskSet" (19 : Nat) ({ cls := "java/util/Arrays", name := "fill", desc := "([JJ)V" } : Jvm.MethodName)) ∈ wAll := wa_in 298 (by decide +kernel) (by decide +kernel)
theorem a_299 : (Jvm.Cond.static ({ cls := "java/util/Arrays", name := "fill", desc := "([JJ)V" } : Jvm.MethodName)) ∈ wAll := wa_in 299 (by decide +kernel) (by decide +kernel)
set_option maxRecDepth 20000 in
theorem a_300 : (Jvm.Cond.code ({ cls := "java/util/Arrays", name := "fill", desc := "([JJ)V" } : Jvm.MethodName) prog_10_method_101_code (5 : Nat) (Option.none : Option Jvm.ClassFile.FieldType)) ∈ wAll := wa_in 300 rfl rfl
theorem a_301 : (Jvm.Cond.methodLink "CaseNet$Net" (72 : Nat) ({ cls := "CaseNet$Net", name := "addNeed", desc := "(I)V" } : Jvm.MethodName)) ∈ wAll := wa_in 301 (by decide +kernel) (by decide +kernel)
theorem a_303 : (Jvm.Cond.instanceMethod ({ cls := "CaseNet$Net", name := "addNeed", desc := "(I)V" } : Jvm.MethodName)) ∈ wAll := wa_in 303 (by decide +kernel) (by decide +kernel)
set_option maxRecDepth 20000 in
theorem a_304 : (Jvm.Cond.code ({ cls := "CaseNet$Net", name := "addNeed", desc := "(I)V" } : Jvm.MethodName) prog_3_method_9_code (2 : Nat) (Option.none : Option Jvm.ClassFile.FieldType)) ∈ wAll := wa_in 304 rfl rfl
theorem a_305 : (Jvm.Cond.methodLink "CaseNet$Net" (75 : Nat) ({ cls := "CaseNet$MaskSet", name := "has", desc := "(I)Z" } : Jvm.MethodName)) ∈ wAll := wa_in 305 (by decide +kernel) (by decide +kernel)
theorem a_306 : (Jvm.Cond.instanceMethod ({ cls := "CaseNet$MaskSet", name := "has", desc := "(I)Z" } : Jvm.MethodName)) ∈ wAll := wa_in 306 (by decide +kernel) (by decide +kernel)
theorem a_307 : (Jvm.Cond.selects "CaseNet$MaskSet" ({ cls := "CaseNet$MaskSet", name := "has", desc := "(I)Z" } : Jvm.MethodName) ({ cls := "CaseNet$MaskSet", name := "has", desc := "(I)Z" } : Jvm.MethodName)) ∈ wAll := wa_in 307 (by decide +kernel) (by decide +kernel)
set_option maxRecDepth 20000 in
theorem a_308 : (Jvm.Cond.code ({ cls := "CaseNet$MaskSet", name := "has", desc := "(I)Z" } : Jvm.MethodName) prog_2_method_3_code (2 : Nat) (Option.some Jvm.ClassFile.FieldType.boolean)) ∈ wAll := wa_in 308 rfl rfl
theorem a_309 : (Jvm.Cond.methodLink "CaseNet$Net" (108 : Nat) ({ cls := "CaseNet$MaskSet", name := "addAllAbove", desc := "(I)V" } : Jvm.MethodName)) ∈ wAll := wa_in 309 (by decide +kernel) (by decide +kernel)
theorem a_310 : (Jvm.Cond.instanceMethod ({ cls := "CaseNet$MaskSet", name := "addAllAbove", desc := "(I)V" } : Jvm.MethodName)) ∈ wAll := wa_in 310 (by decide +kernel) (by decide +kernel)
theorem a_311 : (Jvm.Cond.selects "CaseNet$MaskSet" ({ cls := "CaseNet$MaskSet", name := "addAllAbove", desc := "(I)V" } : Jvm.MethodName) ({ cls := "CaseNet$MaskSet", name := "addAllAbove", desc := "(I)V" } : Jvm.MethodName)) ∈ wAll := wa_in 311 (by decide +kernel) (by decide +kernel)
set_option maxRecDepth 20000 in
theorem a_312 : (Jvm.Cond.code ({ cls := "CaseNet$MaskSet", name := "addAllAbove", desc := "(I)V" } : Jvm.MethodName) prog_2_method_5_code (6 : Nat) (Option.none : Option Jvm.ClassFile.FieldType)) ∈ wAll := wa_in 312 rfl rfl
theorem a_313 : (Jvm.Cond.constantLong "CaseNet$MaskSet" (25 : Nat) (-1 : Int64)) ∈ wAll := wa_in 313 (by decide +kernel) (by decide +kernel)
theorem a_314 : (Jvm.Cond.fieldLink "CaseNet$MaskSet" (27 : Nat) "CaseNet$MaskSet" "HAVING" "[J") ∈ wAll := wa_in 314 (by decide +kernel) (by decide +kernel)
theorem a_316 : (Jvm.Cond.methodLink "CaseNet$Net" (111 : Nat) ({ cls := "CaseNet$MaskSet", name := "add", desc := "(I)V" } : Jvm.MethodName)) ∈ wAll := wa_in 316 (by decide +kernel) (by decide +kernel)
theorem a_317 : (Jvm.Cond.instanceMethod ({ cls := "CaseNet$MaskSet", name := "add", desc := "(I)V" } : Jvm.MethodName)) ∈ wAll := wa_in 317 (by decide +kernel) (by decide +kernel)
theorem a_318 : (Jvm.Cond.selects "CaseNet$MaskSet" ({ cls := "CaseNet$MaskSet", name := "add", desc := "(I)V" } : Jvm.MethodName) ({ cls := "CaseNet$MaskSet", name := "add", desc := "(I)V" } : Jvm.MethodName)) ∈ wAll := wa_in 318 (by decide +kernel) (by decide +kernel)
set_option maxRecDepth 20000 in
theorem a_319 : (Jvm.Cond.code ({ cls := "CaseNet$MaskSet", name := "add", desc := "(I)V" } : Jvm.MethodName) prog_2_method_4_code (3 : Nat) (Option.none : Option Jvm.ClassFile.FieldType)) ∈ wAll := wa_in 319 rfl rfl
theorem a_320 : (Jvm.Cond.methodLink "CaseNet$Net" (79 : Nat) ({ cls := "CaseNet$MaskSet", name := "draw", desc := "()I" } : Jvm.MethodName)) ∈ wAll := wa_in 320 (by decide +kernel) (by decide +kernel)
theorem a_321 : (Jvm.Cond.instanceMethod ({ cls := "CaseNet$MaskSet", name := "draw", desc := "()I" } : Jvm.MethodName)) ∈ wAll := wa_in 321 (by decide +kernel) (by decide +kernel)
theorem a_322 : (Jvm.Cond.selects "CaseNet$MaskSet" ({ cls := "CaseNet$MaskSet", name := "draw", desc := "()I" } : Jvm.MethodName) ({ cls := "CaseNet$MaskSet", name := "draw", desc := "()I" } : Jvm.MethodName)) ∈ wAll := wa_in 322 (by decide +kernel) (by decide +kernel)
set_option maxRecDepth 20000 in
theorem a_323 : (Jvm.Cond.code ({ cls := "CaseNet$MaskSet", name := "draw", desc := "()I" } : Jvm.MethodName) prog_2_method_6_code (5 : Nat) (Option.some Jvm.ClassFile.FieldType.int)) ∈ wAll := wa_in 323 rfl rfl
theorem a_324 : (Jvm.Cond.methodLink "CaseNet$MaskSet" (30 : Nat) ({ cls := "java/lang/Long", name := "bitCount", desc := "(J)I" } : Jvm.MethodName)) ∈ wAll := wa_in 324 (by decide +kernel) (by decide +kernel)
theorem a_325 : (Jvm.Cond.static ({ cls := "java/lang/Long", name := "bitCount", desc := "(J)I" } : Jvm.MethodName)) ∈ wAll := wa_in 325 (by decide +kernel) (by decide +kernel)
set_option maxRecDepth 20000 in
theorem a_326 : (Jvm.Cond.code ({ cls := "java/lang/Long", name := "bitCount", desc := "(J)I" } : Jvm.MethodName) prog_9_method_50_code (2 : Nat) (Option.some Jvm.ClassFile.FieldType.int)) ∈ wAll := wa_in 326 rfl rfl
theorem a_327 : (Jvm.Cond.constantLong "java/lang/Long" (314 : Nat) (6148914691236517205 : Int64)) ∈ wAll := wa_in 327 (by decide +kernel) (by decide +kernel)
theorem a_328 : (Jvm.Cond.constantLong "java/lang/Long" (316 : Nat) (3689348814741910323 : Int64)) ∈ wAll := wa_in 328 (by decide +kernel) (by decide +kernel)
theorem a_329 : (Jvm.Cond.constantLong "java/lang/Long" (318 : Nat) (1085102592571150095 : Int64)) ∈ wAll := wa_in 329 (by decide +kernel) (by decide +kernel)
theorem a_330 : (Jvm.Cond.methodLink "CaseNet$Net" (82 : Nat) ({ cls := "CaseNet$Net", name := "goBackBeforeEnd", desc := "(LCaseNet$Task;I)V" } : Jvm.MethodName)) ∈ wAll := wa_in 330 (by decide +kernel) (by decide +kernel)
theorem a_332 : (Jvm.Cond.instanceMethod ({ cls := "CaseNet$Net", name := "goBackBeforeEnd", desc := "(LCaseNet$Task;I)V" } : Jvm.MethodName)) ∈ wAll := wa_in 332 (by decide +kernel) (by decide +kernel)
set_option maxRecDepth 20000 in
theorem a_333 : (Jvm.Cond.code ({ cls := "CaseNet$Net", name := "goBackBeforeEnd", desc := "(LCaseNet$Task;I)V" } : Jvm.MethodName) prog_3_method_7_code (6 : Nat) (Option.none : Option Jvm.ClassFile.FieldType)) ∈ wAll := wa_in 333 rfl rfl
theorem a_334 : (Jvm.Cond.methodLink "CaseNet$Net" (86 : Nat) ({ cls := "CaseNet$Net", name := "goBackBeforeBegin", desc := "(LCaseNet$Task;I)V" } : Jvm.MethodName)) ∈ wAll := wa_in 334 (by decide +kernel) (by decide +kernel)
theorem a_336 : (Jvm.Cond.instanceMethod ({ cls := "CaseNet$Net", name := "goBackBeforeBegin", desc := "(LCaseNet$Task;I)V" } : Jvm.MethodName)) ∈ wAll := wa_in 336 (by decide +kernel) (by decide +kernel)
set_option maxRecDepth 20000 in
theorem a_337 : (Jvm.Cond.code ({ cls := "CaseNet$Net", name := "goBackBeforeBegin", desc := "(LCaseNet$Task;I)V" } : Jvm.MethodName) prog_3_method_8_code (5 : Nat) (Option.none : Option Jvm.ClassFile.FieldType)) ∈ wAll := wa_in 337 rfl rfl
set_option maxRecDepth 20000 in
theorem a_341 : (Jvm.Cond.code ({ cls := "CaseNet", name := "fire", desc := "(I)I" } : Jvm.MethodName) prog_1_method_9_code (3 : Nat) (Option.some Jvm.ClassFile.FieldType.int)) ∈ wAll := wa_in 341 rfl rfl
theorem a_342 : (Jvm.Cond.methodLink "CaseNet" (88 : Nat) ({ cls := "CaseNet$WorkList", name := "hasRoomFor", desc := "(I)Z" } : Jvm.MethodName)) ∈ wAll := wa_in 342 (by decide +kernel) (by decide +kernel)
theorem a_343 : (Jvm.Cond.instanceMethod ({ cls := "CaseNet$WorkList", name := "hasRoomFor", desc := "(I)Z" } : Jvm.MethodName)) ∈ wAll := wa_in 343 (by decide +kernel) (by decide +kernel)
theorem a_344 : (Jvm.Cond.selects "CaseNet$WorkList" ({ cls := "CaseNet$WorkList", name := "hasRoomFor", desc := "(I)Z" } : Jvm.MethodName) ({ cls := "CaseNet$WorkList", name := "hasRoomFor", desc := "(I)Z" } : Jvm.MethodName)) ∈ wAll := wa_in 344 (by decide +kernel) (by decide +kernel)
set_option maxRecDepth 20000 in
theorem a_345 : (Jvm.Cond.code ({ cls := "CaseNet$WorkList", name := "hasRoomFor", desc := "(I)Z" } : Jvm.MethodName) prog_5_method_3_code (2 : Nat) (Option.some Jvm.ClassFile.FieldType.boolean)) ∈ wAll := wa_in 345 rfl rfl
theorem a_346 : (Jvm.Cond.methodLink "CaseNet" (91 : Nat) ({ cls := "CaseNet$Task", name := "inputsUsed", desc := "(I)I" } : Jvm.MethodName)) ∈ wAll := wa_in 346 (by decide +kernel) (by decide +kernel)
theorem a_347 : (Jvm.Cond.instanceMethod ({ cls := "CaseNet$Task", name := "inputsUsed", desc := "(I)I" } : Jvm.MethodName)) ∈ wAll := wa_in 347 (by decide +kernel) (by decide +kernel)
theorem a_348 : (Jvm.Cond.selects "CaseNet$Task" ({ cls := "CaseNet$Task", name := "inputsUsed", desc := "(I)I" } : Jvm.MethodName) ({ cls := "CaseNet$Task", name := "inputsUsed", desc := "(I)I" } : Jvm.MethodName)) ∈ wAll := wa_in 348 (by decide +kernel) (by decide +kernel)
set_option maxRecDepth 20000 in
theorem a_349 : (Jvm.Cond.code ({ cls := "CaseNet$Task", name := "inputsUsed", desc := "(I)I" } : Jvm.MethodName) prog_4_method_8_code (3 : Nat) (Option.some Jvm.ClassFile.FieldType.int)) ∈ wAll := wa_in 349 rfl rfl
theorem a_350 : (Jvm.Cond.methodLink "CaseNet" (101 : Nat) ({ cls := "CaseNet$WorkList", name := "offer", desc := "(III)I" } : Jvm.MethodName)) ∈ wAll := wa_in 350 (by decide +kernel) (by decide +kernel)
theorem a_351 : (Jvm.Cond.instanceMethod ({ cls := "CaseNet$WorkList", name := "offer", desc := "(III)I" } : Jvm.MethodName)) ∈ wAll := wa_in 351 (by decide +kernel) (by decide +kernel)
theorem a_352 : (Jvm.Cond.selects "CaseNet$WorkList" ({ cls := "CaseNet$WorkList", name := "offer", desc := "(III)I" } : Jvm.MethodName) ({ cls := "CaseNet$WorkList", name := "offer", desc := "(III)I" } : Jvm.MethodName)) ∈ wAll := wa_in 352 (by decide +kernel) (by decide +kernel)
set_option maxRecDepth 20000 in
theorem a_353 : (Jvm.Cond.code ({ cls := "CaseNet$WorkList", name := "offer", desc := "(III)I" } : Jvm.MethodName) prog_5_method_4_code (6 : Nat) (Option.some Jvm.ClassFile.FieldType.int)) ∈ wAll := wa_in 353 rfl rfl
set_option maxRecDepth 20000 in
theorem a_357 : (Jvm.Cond.code ({ cls := "CaseNet", name := "start", desc := "(I)I" } : Jvm.MethodName) prog_1_method_10_code (2 : Nat) (Option.some Jvm.ClassFile.FieldType.int)) ∈ wAll := wa_in 357 rfl rfl
theorem a_358 : (Jvm.Cond.methodLink "CaseNet" (108 : Nat) ({ cls := "CaseNet$WorkList", name := "has", desc := "(I)Z" } : Jvm.MethodName)) ∈ wAll := wa_in 358 (by decide +kernel) (by decide +kernel)
theorem a_359 : (Jvm.Cond.instanceMethod ({ cls := "CaseNet$WorkList", name := "has", desc := "(I)Z" } : Jvm.MethodName)) ∈ wAll := wa_in 359 (by decide +kernel) (by decide +kernel)
theorem a_360 : (Jvm.Cond.selects "CaseNet$WorkList" ({ cls := "CaseNet$WorkList", name := "has", desc := "(I)Z" } : Jvm.MethodName) ({ cls := "CaseNet$WorkList", name := "has", desc := "(I)Z" } : Jvm.MethodName)) ∈ wAll := wa_in 360 (by decide +kernel) (by decide +kernel)
set_option maxRecDepth 20000 in
theorem a_361 : (Jvm.Cond.code ({ cls := "CaseNet$WorkList", name := "has", desc := "(I)Z" } : Jvm.MethodName) prog_5_method_2_code (2 : Nat) (Option.some Jvm.ClassFile.FieldType.boolean)) ∈ wAll := wa_in 361 rfl rfl
set_option maxRecDepth 20000 in
theorem a_365 : (Jvm.Cond.code ({ cls := "CaseNet", name := "finish", desc := "(II)I" } : Jvm.MethodName) prog_1_method_11_code (4 : Nat) (Option.some Jvm.ClassFile.FieldType.int)) ∈ wAll := wa_in 365 rfl rfl
theorem a_366 : (Jvm.Cond.methodLink "CaseNet" (120 : Nat) ({ cls := "CaseNet$WorkList", name := "countCompleted", desc := "(II)I" } : Jvm.MethodName)) ∈ wAll := wa_in 366 (by decide +kernel) (by decide +kernel)
theorem a_367 : (Jvm.Cond.instanceMethod ({ cls := "CaseNet$WorkList", name := "countCompleted", desc := "(II)I" } : Jvm.MethodName)) ∈ wAll := wa_in 367 (by decide +kernel) (by decide +kernel)
theorem a_368 : (Jvm.Cond.selects "CaseNet$WorkList" ({ cls := "CaseNet$WorkList", name := "countCompleted", desc := "(II)I" } : Jvm.MethodName) ({ cls := "CaseNet$WorkList", name := "countCompleted", desc := "(II)I" } : Jvm.MethodName)) ∈ wAll := wa_in 368 (by decide +kernel) (by decide +kernel)
set_option maxRecDepth 20000 in
theorem a_369 : (Jvm.Cond.code ({ cls := "CaseNet$WorkList", name := "countCompleted", desc := "(II)I" } : Jvm.MethodName) prog_5_method_7_code (5 : Nat) (Option.some Jvm.ClassFile.FieldType.int)) ∈ wAll := wa_in 369 rfl rfl
theorem a_370 : (Jvm.Cond.methodLink "CaseNet" (127 : Nat) ({ cls := "CaseNet", name := "end", desc := "(LCaseNet$Task;)V" } : Jvm.MethodName)) ∈ wAll := wa_in 370 (by decide +kernel) (by decide +kernel)
theorem a_372 : (Jvm.Cond.instanceMethod ({ cls := "CaseNet", name := "end", desc := "(LCaseNet$Task;)V" } : Jvm.MethodName)) ∈ wAll := wa_in 372 (by decide +kernel) (by decide +kernel)
set_option maxRecDepth 20000 in
theorem a_373 : (Jvm.Cond.code ({ cls := "CaseNet", name := "end", desc := "(LCaseNet$Task;)V" } : Jvm.MethodName) prog_1_method_26_code (2 : Nat) (Option.none : Option Jvm.ClassFile.FieldType)) ∈ wAll := wa_in 373 rfl rfl
theorem a_374 : (Jvm.Cond.methodLink "CaseNet" (173 : Nat) ({ cls := "CaseNet$Task", name := "chosenOutputs", desc := "([I)I" } : Jvm.MethodName)) ∈ wAll := wa_in 374 (by decide +kernel) (by decide +kernel)
theorem a_375 : (Jvm.Cond.instanceMethod ({ cls := "CaseNet$Task", name := "chosenOutputs", desc := "([I)I" } : Jvm.MethodName)) ∈ wAll := wa_in 375 (by decide +kernel) (by decide +kernel)
theorem a_376 : (Jvm.Cond.selects "CaseNet$Task" ({ cls := "CaseNet$Task", name := "chosenOutputs", desc := "([I)I" } : Jvm.MethodName) ({ cls := "CaseNet$Task", name := "chosenOutputs", desc := "([I)I" } : Jvm.MethodName)) ∈ wAll := wa_in 376 (by decide +kernel) (by decide +kernel)
set_option maxRecDepth 20000 in
theorem a_377 : (Jvm.Cond.code ({ cls := "CaseNet$Task", name := "chosenOutputs", desc := "([I)I" } : Jvm.MethodName) prog_4_method_9_code (5 : Nat) (Option.some Jvm.ClassFile.FieldType.int)) ∈ wAll := wa_in 377 rfl rfl
theorem a_378 : (Jvm.Cond.methodLink "CaseNet$Task" (93 : Nat) ({ cls := "CaseNet$Task", name := "guardHolds", desc := "(I[I)Z" } : Jvm.MethodName)) ∈ wAll := wa_in 378 (by decide +kernel) (by decide +kernel)
theorem a_380 : (Jvm.Cond.instanceMethod ({ cls := "CaseNet$Task", name := "guardHolds", desc := "(I[I)Z" } : Jvm.MethodName)) ∈ wAll := wa_in 380 (by decide +kernel) (by decide +kernel)
set_option maxRecDepth 20000 in
theorem a_381 : (Jvm.Cond.code ({ cls := "CaseNet$Task", name := "guardHolds", desc := "(I[I)Z" } : Jvm.MethodName) prog_4_method_10_code (4 : Nat) (Option.some Jvm.ClassFile.FieldType.boolean)) ∈ wAll := wa_in 381 rfl rfl
theorem a_382 : (Jvm.Cond.methodLink "CaseNet" (131 : Nat) ({ cls := "CaseNet", name := "stopIfNoneIsOpen", desc := "(LCaseNet$Task;)Z" } : Jvm.MethodName)) ∈ wAll := wa_in 382 (by decide +kernel) (by decide +kernel)
theorem a_384 : (Jvm.Cond.instanceMethod ({ cls := "CaseNet", name := "stopIfNoneIsOpen", desc := "(LCaseNet$Task;)Z" } : Jvm.MethodName)) ∈ wAll := wa_in 384 (by decide +kernel) (by decide +kernel)
set_option maxRecDepth 20000 in
theorem a_385 : (Jvm.Cond.code ({ cls := "CaseNet", name := "stopIfNoneIsOpen", desc := "(LCaseNet$Task;)Z" } : Jvm.MethodName) prog_1_method_29_code (2 : Nat) (Option.some Jvm.ClassFile.FieldType.boolean)) ∈ wAll := wa_in 385 rfl rfl
theorem a_386 : (Jvm.Cond.methodLink "CaseNet" (181 : Nat) ({ cls := "CaseNet$WorkList", name := "isAnyOpen", desc := "(II)Z" } : Jvm.MethodName)) ∈ wAll := wa_in 386 (by decide +kernel) (by decide +kernel)
theorem a_387 : (Jvm.Cond.instanceMethod ({ cls := "CaseNet$WorkList", name := "isAnyOpen", desc := "(II)Z" } : Jvm.MethodName)) ∈ wAll := wa_in 387 (by decide +kernel) (by decide +kernel)
theorem a_388 : (Jvm.Cond.selects "CaseNet$WorkList" ({ cls := "CaseNet$WorkList", name := "isAnyOpen", desc := "(II)Z" } : Jvm.MethodName) ({ cls := "CaseNet$WorkList", name := "isAnyOpen", desc := "(II)Z" } : Jvm.MethodName)) ∈ wAll := wa_in 388 (by decide +kernel) (by decide +kernel)
set_option maxRecDepth 20000 in
theorem a_389 : (Jvm.Cond.code ({ cls := "CaseNet$WorkList", name := "isAnyOpen", desc := "(II)Z" } : Jvm.MethodName) prog_5_method_6_code (4 : Nat) (Option.some Jvm.ClassFile.FieldType.boolean)) ∈ wAll := wa_in 389 rfl rfl
set_option maxRecDepth 20000 in
theorem a_393 : (Jvm.Cond.code ({ cls := "CaseNet", name := "fail", desc := "(I)I" } : Jvm.MethodName) prog_1_method_12_code (2 : Nat) (Option.some Jvm.ClassFile.FieldType.int)) ∈ wAll := wa_in 393 rfl rfl
theorem a_394 : (Jvm.Cond.methodLink "CaseNet" (135 : Nat) ({ cls := "CaseNet$WorkList", name := "isOpen", desc := "(I)Z" } : Jvm.MethodName)) ∈ wAll := wa_in 394 (by decide +kernel) (by decide +kernel)
theorem a_395 : (Jvm.Cond.methodLink "CaseNet" (138 : Nat) ({ cls := "CaseNet", name := "failOpen", desc := "(I)Z" } : Jvm.MethodName)) ∈ wAll := wa_in 395 (by decide +kernel) (by decide +kernel)
theorem a_397 : (Jvm.Cond.instanceMethod ({ cls := "CaseNet", name := "failOpen", desc := "(I)Z" } : Jvm.MethodName)) ∈ wAll := wa_in 397 (by decide +kernel) (by decide +kernel)
set_option maxRecDepth 20000 in
theorem a_398 : (Jvm.Cond.code ({ cls := "CaseNet", name := "failOpen", desc := "(I)Z" } : Jvm.MethodName) prog_1_method_30_code (2 : Nat) (Option.some Jvm.ClassFile.FieldType.boolean)) ∈ wAll := wa_in 398 rfl rfl
set_option maxRecDepth 20000 in
theorem a_402 : (Jvm.Cond.code ({ cls := "CaseNet", name := "tick", desc := "(I)I" } : Jvm.MethodName) prog_1_method_13_code (3 : Nat) (Option.some Jvm.ClassFile.FieldType.int)) ∈ wAll := wa_in 402 rfl rfl
theorem a_403 : (Jvm.Cond.methodLink "CaseNet" (144 : Nat) ({ cls := "CaseNet", name := "isOverdue", desc := "(I)Z" } : Jvm.MethodName)) ∈ wAll := wa_in 403 (by decide +kernel) (by decide +kernel)
theorem a_405 : (Jvm.Cond.instanceMethod ({ cls := "CaseNet", name := "isOverdue", desc := "(I)Z" } : Jvm.MethodName)) ∈ wAll := wa_in 405 (by decide +kernel) (by decide +kernel)
set_option maxRecDepth 20000 in
theorem a_406 : (Jvm.Cond.code ({ cls := "CaseNet", name := "isOverdue", desc := "(I)Z" } : Jvm.MethodName) prog_1_method_31_code (3 : Nat) (Option.some Jvm.ClassFile.FieldType.boolean)) ∈ wAll := wa_in 406 rfl rfl
set_option maxRecDepth 20000 in
theorem a_410 : (Jvm.Cond.code ({ cls := "CaseNet", name := "set", desc := "(II)Z" } : Jvm.MethodName) prog_1_method_14_code (3 : Nat) (Option.some Jvm.ClassFile.FieldType.boolean)) ∈ wAll := wa_in 410 rfl rfl
set_option maxRecDepth 20000 in
theorem a_414 : (Jvm.Cond.code ({ cls := "CaseNet", name := "variable", desc := "(I)I" } : Jvm.MethodName) prog_1_method_15_code (2 : Nat) (Option.some Jvm.ClassFile.FieldType.int)) ∈ wAll := wa_in 414 rfl rfl
set_option maxRecDepth 20000 in
theorem a_418 : (Jvm.Cond.code ({ cls := "CaseNet", name := "marking", desc := "()I" } : Jvm.MethodName) prog_1_method_16_code (1 : Nat) (Option.some Jvm.ClassFile.FieldType.int)) ∈ wAll := wa_in 418 rfl rfl
set_option maxRecDepth 20000 in
theorem a_422 : (Jvm.Cond.code ({ cls := "CaseNet", name := "item", desc := "(II)I" } : Jvm.MethodName) prog_1_method_17_code (3 : Nat) (Option.some Jvm.ClassFile.FieldType.int)) ∈ wAll := wa_in 422 rfl rfl
set_option maxRecDepth 20000 in
theorem a_426 : (Jvm.Cond.code ({ cls := "CaseNet", name := "covers", desc := "(III)I" } : Jvm.MethodName) prog_1_method_18_code (4 : Nat) (Option.some Jvm.ClassFile.FieldType.int)) ∈ wAll := wa_in 426 rfl rfl
set_option maxRecDepth 20000 in
theorem a_430 : (Jvm.Cond.code ({ cls := "CaseNet", name := "verdict", desc := "()I" } : Jvm.MethodName) prog_1_method_19_code (1 : Nat) (Option.some Jvm.ClassFile.FieldType.int)) ∈ wAll := wa_in 430 rfl rfl
theorem a_431 : (Jvm.Cond.methodLink "CaseNet" (153 : Nat) ({ cls := "CaseNet$Net", name := "judge", desc := "()I" } : Jvm.MethodName)) ∈ wAll := wa_in 431 (by decide +kernel) (by decide +kernel)
theorem a_432 : (Jvm.Cond.instanceMethod ({ cls := "CaseNet$Net", name := "judge", desc := "()I" } : Jvm.MethodName)) ∈ wAll := wa_in 432 (by decide +kernel) (by decide +kernel)
theorem a_433 : (Jvm.Cond.selects "CaseNet$Net" ({ cls := "CaseNet$Net", name := "judge", desc := "()I" } : Jvm.MethodName) ({ cls := "CaseNet$Net", name := "judge", desc := "()I" } : Jvm.MethodName)) ∈ wAll := wa_in 433 (by decide +kernel) (by decide +kernel)
set_option maxRecDepth 20000 in
theorem a_434 : (Jvm.Cond.code ({ cls := "CaseNet$Net", name := "judge", desc := "()I" } : Jvm.MethodName) prog_3_method_4_code (2 : Nat) (Option.some Jvm.ClassFile.FieldType.int)) ∈ wAll := wa_in 434 rfl rfl
theorem a_435 : (Jvm.Cond.methodLink "CaseNet$Net" (41 : Nat) ({ cls := "CaseNet$Net", name := "definedTasks", desc := "()I" } : Jvm.MethodName)) ∈ wAll := wa_in 435 (by decide +kernel) (by decide +kernel)
theorem a_436 : (Jvm.Cond.methodLink "CaseNet$Net" (45 : Nat) ({ cls := "CaseNet$Net", name := "hasJoinSome", desc := "()Z" } : Jvm.MethodName)) ∈ wAll := wa_in 436 (by decide +kernel) (by decide +kernel)
theorem a_438 : (Jvm.Cond.instanceMethod ({ cls := "CaseNet$Net", name := "hasJoinSome", desc := "()Z" } : Jvm.MethodName)) ∈ wAll := wa_in 438 (by decide +kernel) (by decide +kernel)
set_option maxRecDepth 20000 in
theorem a_439 : (Jvm.Cond.code ({ cls := "CaseNet$Net", name := "hasJoinSome", desc := "()Z" } : Jvm.MethodName) prog_3_method_5_code (2 : Nat) (Option.some Jvm.ClassFile.FieldType.boolean)) ∈ wAll := wa_in 439 rfl rfl
theorem a_440 : (Jvm.Cond.methodLink "CaseNet$Net" (49 : Nat) ({ cls := "CaseNet$Net", name := "reachFromStart", desc := "()V" } : Jvm.MethodName)) ∈ wAll := wa_in 440 (by decide +kernel) (by decide +kernel)
theorem a_442 : (Jvm.Cond.instanceMethod ({ cls := "CaseNet$Net", name := "reachFromStart", desc := "()V" } : Jvm.MethodName)) ∈ wAll := wa_in 442 (by decide +kernel) (by decide +kernel)
set_option maxRecDepth 20000 in
theorem a_443 : (Jvm.Cond.code ({ cls := "CaseNet$Net", name := "reachFromStart", desc := "()V" } : Jvm.MethodName) prog_3_method_10_code (4 : Nat) (Option.none : Option Jvm.ClassFile.FieldType)) ∈ wAll := wa_in 443 rfl rfl
theorem a_444 : (Jvm.Cond.methodLink "CaseNet$Net" (114 : Nat) ({ cls := "CaseNet$Net", name := "addReached", desc := "(I)V" } : Jvm.MethodName)) ∈ wAll := wa_in 444 (by decide +kernel) (by decide +kernel)
theorem a_446 : (Jvm.Cond.instanceMethod ({ cls := "CaseNet$Net", name := "addReached", desc := "(I)V" } : Jvm.MethodName)) ∈ wAll := wa_in 446 (by decide +kernel) (by decide +kernel)
set_option maxRecDepth 20000 in
theorem a_447 : (Jvm.Cond.code ({ cls := "CaseNet$Net", name := "addReached", desc := "(I)V" } : Jvm.MethodName) prog_3_method_13_code (2 : Nat) (Option.none : Option Jvm.ClassFile.FieldType)) ∈ wAll := wa_in 447 rfl rfl
theorem a_448 : (Jvm.Cond.methodLink "CaseNet$Net" (117 : Nat) ({ cls := "CaseNet$Net", name := "goOnByBegin", desc := "(II)V" } : Jvm.MethodName)) ∈ wAll := wa_in 448 (by decide +kernel) (by decide +kernel)
theorem a_450 : (Jvm.Cond.instanceMethod ({ cls := "CaseNet$Net", name := "goOnByBegin", desc := "(II)V" } : Jvm.MethodName)) ∈ wAll := wa_in 450 (by decide +kernel) (by decide +kernel)
set_option maxRecDepth 20000 in
theorem a_451 : (Jvm.Cond.code ({ cls := "CaseNet$Net", name := "goOnByBegin", desc := "(II)V" } : Jvm.MethodName) prog_3_method_11_code (6 : Nat) (Option.none : Option Jvm.ClassFile.FieldType)) ∈ wAll := wa_in 451 rfl rfl
theorem a_452 : (Jvm.Cond.methodLink "CaseNet$Net" (121 : Nat) ({ cls := "CaseNet$Net", name := "goOnByEnd", desc := "(LCaseNet$Task;I)V" } : Jvm.MethodName)) ∈ wAll := wa_in 452 (by decide +kernel) (by decide +kernel)
theorem a_454 : (Jvm.Cond.instanceMethod ({ cls := "CaseNet$Net", name := "goOnByEnd", desc := "(LCaseNet$Task;I)V" } : Jvm.MethodName)) ∈ wAll := wa_in 454 (by decide +kernel) (by decide +kernel)
set_option maxRecDepth 20000 in
theorem a_455 : (Jvm.Cond.code ({ cls := "CaseNet$Net", name := "goOnByEnd", desc := "(LCaseNet$Task;I)V" } : Jvm.MethodName) prog_3_method_12_code (5 : Nat) (Option.none : Option Jvm.ClassFile.FieldType)) ∈ wAll := wa_in 455 rfl rfl
theorem a_456 : (Jvm.Cond.methodLink "CaseNet$Net" (52 : Nat) ({ cls := "CaseNet$Net", name := "findCovering", desc := "(III)Z" } : Jvm.MethodName)) ∈ wAll := wa_in 456 (by decide +kernel) (by decide +kernel)
theorem a_457 : (Jvm.Cond.methodLink "CaseNet$Net" (55 : Nat) ({ cls := "CaseNet$MaskSet", name := "isWithin", desc := "(LCaseNet$MaskSet;)Z" } : Jvm.MethodName)) ∈ wAll := wa_in 457 (by decide +kernel) (by decide +kernel)
theorem a_458 : (Jvm.Cond.instanceMethod ({ cls := "CaseNet$MaskSet", name := "isWithin", desc := "(LCaseNet$MaskSet;)Z" } : Jvm.MethodName)) ∈ wAll := wa_in 458 (by decide +kernel) (by decide +kernel)
theorem a_459 : (Jvm.Cond.selects "CaseNet$MaskSet" ({ cls := "CaseNet$MaskSet", name := "isWithin", desc := "(LCaseNet$MaskSet;)Z" } : Jvm.MethodName) ({ cls := "CaseNet$MaskSet", name := "isWithin", desc := "(LCaseNet$MaskSet;)Z" } : Jvm.MethodName)) ∈ wAll := wa_in 459 (by decide +kernel) (by decide +kernel)
set_option maxRecDepth 20000 in
theorem a_460 : (Jvm.Cond.code ({ cls := "CaseNet$MaskSet", name := "isWithin", desc := "(LCaseNet$MaskSet;)Z" } : Jvm.MethodName) prog_2_method_7_code (3 : Nat) (Option.some Jvm.ClassFile.FieldType.boolean)) ∈ wAll := wa_in 460 rfl rfl
theorem a_467 : (Jvm.Cond.fieldLink "CaseNetModel" (7 : Nat) "CaseNetModel" "defined" "[Z") ∈ wAll := wa_in 467 (by decide +kernel) (by decide +kernel)
theorem a_468 : (Jvm.Cond.fieldLink "CaseNetModel" (13 : Nat) "CaseNetModel" "joins" "[I") ∈ wAll := wa_in 468 (by decide +kernel) (by decide +kernel)
theorem a_469 : (Jvm.Cond.fieldLink "CaseNetModel" (17 : Nat) "CaseNetModel" "splits" "[I") ∈ wAll := wa_in 469 (by decide +kernel) (by decide +kernel)
theorem a_470 : (Jvm.Cond.fieldLink "CaseNetModel" (20 : Nat) "CaseNetModel" "insOf" "[I") ∈ wAll := wa_in 470 (by decide +kernel) (by decide +kernel)
theorem a_471 : (Jvm.Cond.fieldLink "CaseNetModel" (23 : Nat) "CaseNetModel" "outsOf" "[I") ∈ wAll := wa_in 471 (by decide +kernel) (by decide +kernel)
theorem a_472 : (Jvm.Cond.fieldLink "CaseNetModel" (26 : Nat) "CaseNetModel" "inBits" "[I") ∈ wAll := wa_in 472 (by decide +kernel) (by decide +kernel)
theorem a_473 : (Jvm.Cond.fieldLink "CaseNetModel" (29 : Nat) "CaseNetModel" "outBits" "[I") ∈ wAll := wa_in 473 (by decide +kernel) (by decide +kernel)
theorem a_474 : (Jvm.Cond.fieldLink "CaseNetModel" (32 : Nat) "CaseNetModel" "regions" "[I") ∈ wAll := wa_in 474 (by decide +kernel) (by decide +kernel)
theorem a_475 : (Jvm.Cond.fieldLink "CaseNetModel" (35 : Nat) "CaseNetModel" "guardOf" "[I") ∈ wAll := wa_in 475 (by decide +kernel) (by decide +kernel)
theorem a_476 : (Jvm.Cond.fieldLink "CaseNetModel" (38 : Nat) "CaseNetModel" "lows" "[I") ∈ wAll := wa_in 476 (by decide +kernel) (by decide +kernel)
theorem a_477 : (Jvm.Cond.fieldLink "CaseNetModel" (41 : Nat) "CaseNetModel" "highs" "[I") ∈ wAll := wa_in 477 (by decide +kernel) (by decide +kernel)
theorem a_478 : (Jvm.Cond.fieldLink "CaseNetModel" (44 : Nat) "CaseNetModel" "numbers" "[I") ∈ wAll := wa_in 478 (by decide +kernel) (by decide +kernel)
theorem a_479 : (Jvm.Cond.fieldLink "CaseNetModel" (47 : Nat) "CaseNetModel" "thresholds" "[I") ∈ wAll := wa_in 479 (by decide +kernel) (by decide +kernel)
theorem a_480 : (Jvm.Cond.fieldLink "CaseNetModel" (50 : Nat) "CaseNetModel" "variableOf" "[I") ∈ wAll := wa_in 480 (by decide +kernel) (by decide +kernel)
theorem a_481 : (Jvm.Cond.fieldLink "CaseNetModel" (53 : Nat) "CaseNetModel" "deadlines" "[I") ∈ wAll := wa_in 481 (by decide +kernel) (by decide +kernel)
theorem a_482 : (Jvm.Cond.fieldLink "CaseNetModel" (89 : Nat) "CaseNetModel" "on" "Z") ∈ wAll := wa_in 482 (by decide +kernel) (by decide +kernel)
theorem a_483 : (Jvm.Cond.fieldLink "CaseNetModel" (85 : Nat) "CaseNetModel" "mask" "I") ∈ wAll := wa_in 483 (by decide +kernel) (by decide +kernel)
theorem a_484 : (Jvm.Cond.fieldLink "CaseNetModel" (143 : Nat) "CaseNetModel" "clock" "I") ∈ wAll := wa_in 484 (by decide +kernel) (by decide +kernel)
theorem a_485 : (Jvm.Cond.fieldLink "CaseNetModel" (56 : Nat) "CaseNetModel" "variables" "[I") ∈ wAll := wa_in 485 (by decide +kernel) (by decide +kernel)
theorem a_486 : (Jvm.Cond.fieldLink "CaseNetModel" (128 : Nat) "CaseNetModel" "made" "I") ∈ wAll := wa_in 486 (by decide +kernel) (by decide +kernel)
theorem a_487 : (Jvm.Cond.fieldLink "CaseNetModel" (59 : Nat) "CaseNetModel" "taskOf" "[I") ∈ wAll := wa_in 487 (by decide +kernel) (by decide +kernel)
theorem a_488 : (Jvm.Cond.fieldLink "CaseNetModel" (62 : Nat) "CaseNetModel" "stateOf" "[I") ∈ wAll := wa_in 488 (by decide +kernel) (by decide +kernel)
theorem a_489 : (Jvm.Cond.fieldLink "CaseNetModel" (65 : Nat) "CaseNetModel" "offeredAt" "[I") ∈ wAll := wa_in 489 (by decide +kernel) (by decide +kernel)
theorem a_490 : (Jvm.Cond.fieldLink "CaseNetModel" (68 : Nat) "CaseNetModel" "firstItem" "[I") ∈ wAll := wa_in 490 (by decide +kernel) (by decide +kernel)
theorem a_491 : (Jvm.Cond.fieldLink "CaseNetModel" (71 : Nat) "CaseNetModel" "met" "[J") ∈ wAll := wa_in 491 (by decide +kernel) (by decide +kernel)
theorem a_492 : (Jvm.Cond.fieldLink "CaseNetModel" (75 : Nat) "CaseNetModel" "masks" "[I") ∈ wAll := wa_in 492 (by decide +kernel) (by decide +kernel)
theorem a_493 : (Jvm.Cond.fieldLink "CaseNetModel" (109 : Nat) "CaseNetModel" "many" "I") ∈ wAll := wa_in 493 (by decide +kernel) (by decide +kernel)
theorem a_494 : (Jvm.Cond.fieldLink "CaseNetModel" (78 : Nat) "CaseNetModel" "good" "[J") ∈ wAll := wa_in 494 (by decide +kernel) (by decide +kernel)
theorem a_495 : (Jvm.Cond.lays "CaseNetModel" "CaseNetModel" "defined" "[Z") ∈ wAll := wa_in 495 (by decide +kernel) (by decide +kernel)
theorem a_497 : (Jvm.Cond.lays "CaseNetModel" "CaseNetModel" "joins" "[I") ∈ wAll := wa_in 497 (by decide +kernel) (by decide +kernel)
theorem a_499 : (Jvm.Cond.lays "CaseNetModel" "CaseNetModel" "splits" "[I") ∈ wAll := wa_in 499 (by decide +kernel) (by decide +kernel)
theorem a_501 : (Jvm.Cond.lays "CaseNetModel" "CaseNetModel" "insOf" "[I") ∈ wAll := wa_in 501 (by decide +kernel) (by decide +kernel)
theorem a_503 : (Jvm.Cond.lays "CaseNetModel" "CaseNetModel" "outsOf" "[I") ∈ wAll := wa_in 503 (by decide +kernel) (by decide +kernel)
theorem a_505 : (Jvm.Cond.lays "CaseNetModel" "CaseNetModel" "inBits" "[I") ∈ wAll := wa_in 505 (by decide +kernel) (by decide +kernel)
theorem a_507 : (Jvm.Cond.lays "CaseNetModel" "CaseNetModel" "outBits" "[I") ∈ wAll := wa_in 507 (by decide +kernel) (by decide +kernel)
theorem a_509 : (Jvm.Cond.lays "CaseNetModel" "CaseNetModel" "regions" "[I") ∈ wAll := wa_in 509 (by decide +kernel) (by decide +kernel)
theorem a_511 : (Jvm.Cond.lays "CaseNetModel" "CaseNetModel" "guardOf" "[I") ∈ wAll := wa_in 511 (by decide +kernel) (by decide +kernel)
theorem a_513 : (Jvm.Cond.lays "CaseNetModel" "CaseNetModel" "lows" "[I") ∈ wAll := wa_in 513 (by decide +kernel) (by decide +kernel)
theorem a_515 : (Jvm.Cond.lays "CaseNetModel" "CaseNetModel" "highs" "[I") ∈ wAll := wa_in 515 (by decide +kernel) (by decide +kernel)
theorem a_517 : (Jvm.Cond.lays "CaseNetModel" "CaseNetModel" "numbers" "[I") ∈ wAll := wa_in 517 (by decide +kernel) (by decide +kernel)
theorem a_519 : (Jvm.Cond.lays "CaseNetModel" "CaseNetModel" "thresholds" "[I") ∈ wAll := wa_in 519 (by decide +kernel) (by decide +kernel)
theorem a_521 : (Jvm.Cond.lays "CaseNetModel" "CaseNetModel" "variableOf" "[I") ∈ wAll := wa_in 521 (by decide +kernel) (by decide +kernel)
theorem a_523 : (Jvm.Cond.lays "CaseNetModel" "CaseNetModel" "deadlines" "[I") ∈ wAll := wa_in 523 (by decide +kernel) (by decide +kernel)
theorem a_525 : (Jvm.Cond.lays "CaseNetModel" "CaseNetModel" "on" "Z") ∈ wAll := wa_in 525 (by decide +kernel) (by decide +kernel)
theorem a_527 : (Jvm.Cond.lays "CaseNetModel" "CaseNetModel" "mask" "I") ∈ wAll := wa_in 527 (by decide +kernel) (by decide +kernel)
theorem a_529 : (Jvm.Cond.lays "CaseNetModel" "CaseNetModel" "clock" "I") ∈ wAll := wa_in 529 (by decide +kernel) (by decide +kernel)
theorem a_531 : (Jvm.Cond.lays "CaseNetModel" "CaseNetModel" "variables" "[I") ∈ wAll := wa_in 531 (by decide +kernel) (by decide +kernel)
theorem a_533 : (Jvm.Cond.lays "CaseNetModel" "CaseNetModel" "made" "I") ∈ wAll := wa_in 533 (by decide +kernel) (by decide +kernel)
theorem a_535 : (Jvm.Cond.lays "CaseNetModel" "CaseNetModel" "taskOf" "[I") ∈ wAll := wa_in 535 (by decide +kernel) (by decide +kernel)
theorem a_537 : (Jvm.Cond.lays "CaseNetModel" "CaseNetModel" "stateOf" "[I") ∈ wAll := wa_in 537 (by decide +kernel) (by decide +kernel)
theorem a_539 : (Jvm.Cond.lays "CaseNetModel" "CaseNetModel" "offeredAt" "[I") ∈ wAll := wa_in 539 (by decide +kernel) (by decide +kernel)
theorem a_541 : (Jvm.Cond.lays "CaseNetModel" "CaseNetModel" "firstItem" "[I") ∈ wAll := wa_in 541 (by decide +kernel) (by decide +kernel)
theorem a_543 : (Jvm.Cond.lays "CaseNetModel" "CaseNetModel" "met" "[J") ∈ wAll := wa_in 543 (by decide +kernel) (by decide +kernel)
theorem a_545 : (Jvm.Cond.lays "CaseNetModel" "CaseNetModel" "masks" "[I") ∈ wAll := wa_in 545 (by decide +kernel) (by decide +kernel)
theorem a_547 : (Jvm.Cond.lays "CaseNetModel" "CaseNetModel" "many" "I") ∈ wAll := wa_in 547 (by decide +kernel) (by decide +kernel)
theorem a_549 : (Jvm.Cond.lays "CaseNetModel" "CaseNetModel" "good" "[J") ∈ wAll := wa_in 549 (by decide +kernel) (by decide +kernel)
set_option maxRecDepth 20000 in
theorem a_556 : (Jvm.Cond.code ({ cls := "CaseNetModel", name := "task", desc := "(IIIII)Z" } : Jvm.MethodName) prog_7_method_7_code (9 : Nat) (Option.some Jvm.ClassFile.FieldType.boolean)) ∈ wAll := wa_in 556 rfl rfl
theorem a_557 : (Jvm.Cond.methodLink "CaseNetModel" (81 : Nat) ({ cls := "CaseNetModel", name := "isTask", desc := "(I)Z" } : Jvm.MethodName)) ∈ wAll := wa_in 557 (by decide +kernel) (by decide +kernel)
theorem a_558 : (Jvm.Cond.static ({ cls := "CaseNetModel", name := "isTask", desc := "(I)Z" } : Jvm.MethodName)) ∈ wAll := wa_in 558 (by decide +kernel) (by decide +kernel)
set_option maxRecDepth 20000 in
theorem a_559 : (Jvm.Cond.code ({ cls := "CaseNetModel", name := "isTask", desc := "(I)Z" } : Jvm.MethodName) prog_7_method_2_code (1 : Nat) (Option.some Jvm.ClassFile.FieldType.boolean)) ∈ wAll := wa_in 559 rfl rfl
theorem a_560 : (Jvm.Cond.methodLink "CaseNetModel" (93 : Nat) ({ cls := "CaseNetModel", name := "count", desc := "(I)I" } : Jvm.MethodName)) ∈ wAll := wa_in 560 (by decide +kernel) (by decide +kernel)
theorem a_561 : (Jvm.Cond.static ({ cls := "CaseNetModel", name := "count", desc := "(I)I" } : Jvm.MethodName)) ∈ wAll := wa_in 561 (by decide +kernel) (by decide +kernel)
set_option maxRecDepth 20000 in
theorem a_562 : (Jvm.Cond.code ({ cls := "CaseNetModel", name := "count", desc := "(I)I" } : Jvm.MethodName) prog_7_method_5_code (3 : Nat) (Option.some Jvm.ClassFile.FieldType.int)) ∈ wAll := wa_in 562 rfl rfl
theorem a_563 : (Jvm.Cond.constant "CaseNetModel" (97 : Nat) (-2147483648 : Int32)) ∈ wAll := wa_in 563 (by decide +kernel) (by decide +kernel)
theorem a_564 : (Jvm.Cond.constant "CaseNetModel" (98 : Nat) (2147483647 : Int32)) ∈ wAll := wa_in 564 (by decide +kernel) (by decide +kernel)
set_option maxRecDepth 20000 in
theorem a_568 : (Jvm.Cond.code ({ cls := "CaseNetModel", name := "region", desc := "(II)Z" } : Jvm.MethodName) prog_7_method_8_code (3 : Nat) (Option.some Jvm.ClassFile.FieldType.boolean)) ∈ wAll := wa_in 568 rfl rfl
theorem a_569 : (Jvm.Cond.methodLink "CaseNetModel" (99 : Nat) ({ cls := "CaseNetModel", name := "isDefined", desc := "(I)Z" } : Jvm.MethodName)) ∈ wAll := wa_in 569 (by decide +kernel) (by decide +kernel)
theorem a_571 : (Jvm.Cond.instanceMethod ({ cls := "CaseNetModel", name := "isDefined", desc := "(I)Z" } : Jvm.MethodName)) ∈ wAll := wa_in 571 (by decide +kernel) (by decide +kernel)
set_option maxRecDepth 20000 in
theorem a_572 : (Jvm.Cond.code ({ cls := "CaseNetModel", name := "isDefined", desc := "(I)Z" } : Jvm.MethodName) prog_7_method_3_code (2 : Nat) (Option.some Jvm.ClassFile.FieldType.boolean)) ∈ wAll := wa_in 572 rfl rfl
theorem a_573 : (Jvm.Cond.methodLink "CaseNetModel" (102 : Nat) ({ cls := "CaseNetModel", name := "isPlaces", desc := "(I)Z" } : Jvm.MethodName)) ∈ wAll := wa_in 573 (by decide +kernel) (by decide +kernel)
theorem a_574 : (Jvm.Cond.static ({ cls := "CaseNetModel", name := "isPlaces", desc := "(I)Z" } : Jvm.MethodName)) ∈ wAll := wa_in 574 (by decide +kernel) (by decide +kernel)
set_option maxRecDepth 20000 in
theorem a_575 : (Jvm.Cond.code ({ cls := "CaseNetModel", name := "isPlaces", desc := "(I)Z" } : Jvm.MethodName) prog_7_method_4_code (1 : Nat) (Option.some Jvm.ClassFile.FieldType.boolean)) ∈ wAll := wa_in 575 rfl rfl
set_option maxRecDepth 20000 in
theorem a_579 : (Jvm.Cond.code ({ cls := "CaseNetModel", name := "guard", desc := "(IIIII)Z" } : Jvm.MethodName) prog_7_method_9_code (6 : Nat) (Option.some Jvm.ClassFile.FieldType.boolean)) ∈ wAll := wa_in 579 rfl rfl
set_option maxRecDepth 20000 in
theorem a_583 : (Jvm.Cond.code ({ cls := "CaseNetModel", name := "items", desc := "(IIIII)Z" } : Jvm.MethodName) prog_7_method_10_code (6 : Nat) (Option.some Jvm.ClassFile.FieldType.boolean)) ∈ wAll := wa_in 583 rfl rfl
set_option maxRecDepth 20000 in
theorem a_587 : (Jvm.Cond.code ({ cls := "CaseNetModel", name := "covers", desc := "(III)I" } : Jvm.MethodName) prog_7_method_16_code (4 : Nat) (Option.some Jvm.ClassFile.FieldType.int)) ∈ wAll := wa_in 587 rfl rfl
theorem a_588 : (Jvm.Cond.methodLink "CaseNetModel" (120 : Nat) ({ cls := "CaseNetModel", name := "search", desc := "(III)Z" } : Jvm.MethodName)) ∈ wAll := wa_in 588 (by decide +kernel) (by decide +kernel)
theorem a_590 : (Jvm.Cond.instanceMethod ({ cls := "CaseNetModel", name := "search", desc := "(III)Z" } : Jvm.MethodName)) ∈ wAll := wa_in 590 (by decide +kernel) (by decide +kernel)
set_option maxRecDepth 20000 in
theorem a_591 : (Jvm.Cond.code ({ cls := "CaseNetModel", name := "search", desc := "(III)Z" } : Jvm.MethodName) prog_7_method_15_code (9 : Nat) (Option.some Jvm.ClassFile.FieldType.boolean)) ∈ wAll := wa_in 591 rfl rfl
theorem a_592 : (Jvm.Cond.methodLink "CaseNetModel" (112 : Nat) ({ cls := "CaseNetModel", name := "meet", desc := "(I)V" } : Jvm.MethodName)) ∈ wAll := wa_in 592 (by decide +kernel) (by decide +kernel)
theorem a_594 : (Jvm.Cond.instanceMethod ({ cls := "CaseNetModel", name := "meet", desc := "(I)V" } : Jvm.MethodName)) ∈ wAll := wa_in 594 (by decide +kernel) (by decide +kernel)
set_option maxRecDepth 20000 in
theorem a_595 : (Jvm.Cond.code ({ cls := "CaseNetModel", name := "meet", desc := "(I)V" } : Jvm.MethodName) prog_7_method_14_code (2 : Nat) (Option.none : Option Jvm.ClassFile.FieldType)) ∈ wAll := wa_in 595 rfl rfl
theorem a_596 : (Jvm.Cond.methodLink "CaseNetModel" (116 : Nat) ({ cls := "CaseNetModel", name := "after", desc := "(III)I" } : Jvm.MethodName)) ∈ wAll := wa_in 596 (by decide +kernel) (by decide +kernel)
theorem a_598 : (Jvm.Cond.instanceMethod ({ cls := "CaseNetModel", name := "after", desc := "(III)I" } : Jvm.MethodName)) ∈ wAll := wa_in 598 (by decide +kernel) (by decide +kernel)
set_option maxRecDepth 20000 in
theorem a_599 : (Jvm.Cond.code ({ cls := "CaseNetModel", name := "after", desc := "(III)I" } : Jvm.MethodName) prog_7_method_13_code (8 : Nat) (Option.some Jvm.ClassFile.FieldType.int)) ∈ wAll := wa_in 599 rfl rfl
theorem a_600 : (Jvm.Cond.methodLink "CaseNetModel" (105 : Nat) ({ cls := "CaseNetModel", name := "outputs", desc := "(II)I" } : Jvm.MethodName)) ∈ wAll := wa_in 600 (by decide +kernel) (by decide +kernel)
theorem a_602 : (Jvm.Cond.instanceMethod ({ cls := "CaseNetModel", name := "outputs", desc := "(II)I" } : Jvm.MethodName)) ∈ wAll := wa_in 602 (by decide +kernel) (by decide +kernel)
set_option maxRecDepth 20000 in
theorem a_603 : (Jvm.Cond.code ({ cls := "CaseNetModel", name := "outputs", desc := "(II)I" } : Jvm.MethodName) prog_7_method_12_code (5 : Nat) (Option.some Jvm.ClassFile.FieldType.int)) ∈ wAll := wa_in 603 rfl rfl
set_option maxRecDepth 20000 in
theorem a_607 : (Jvm.Cond.code ({ cls := "CaseNetModel", name := "launch", desc := "()Z" } : Jvm.MethodName) prog_7_method_17_code (1 : Nat) (Option.some Jvm.ClassFile.FieldType.boolean)) ∈ wAll := wa_in 607 rfl rfl
theorem a_608 : (Jvm.Cond.methodLink "CaseNetModel" (124 : Nat) ({ cls := "CaseNetModel", name := "isAny", desc := "()Z" } : Jvm.MethodName)) ∈ wAll := wa_in 608 (by decide +kernel) (by decide +kernel)
theorem a_610 : (Jvm.Cond.instanceMethod ({ cls := "CaseNetModel", name := "isAny", desc := "()Z" } : Jvm.MethodName)) ∈ wAll := wa_in 610 (by decide +kernel) (by decide +kernel)
set_option maxRecDepth 20000 in
theorem a_611 : (Jvm.Cond.code ({ cls := "CaseNetModel", name := "isAny", desc := "()Z" } : Jvm.MethodName) prog_7_method_11_code (3 : Nat) (Option.some Jvm.ClassFile.FieldType.boolean)) ∈ wAll := wa_in 611 rfl rfl
set_option maxRecDepth 20000 in
theorem a_615 : (Jvm.Cond.code ({ cls := "CaseNetModel", name := "cancel", desc := "()Z" } : Jvm.MethodName) prog_7_method_19_code (2 : Nat) (Option.some Jvm.ClassFile.FieldType.boolean)) ∈ wAll := wa_in 615 rfl rfl
theorem a_616 : (Jvm.Cond.methodLink "CaseNetModel" (131 : Nat) ({ cls := "CaseNetModel", name := "runs", desc := "(I)Z" } : Jvm.MethodName)) ∈ wAll := wa_in 616 (by decide +kernel) (by decide +kernel)
theorem a_618 : (Jvm.Cond.instanceMethod ({ cls := "CaseNetModel", name := "runs", desc := "(I)Z" } : Jvm.MethodName)) ∈ wAll := wa_in 618 (by decide +kernel) (by decide +kernel)
set_option maxRecDepth 20000 in
theorem a_619 : (Jvm.Cond.code ({ cls := "CaseNetModel", name := "runs", desc := "(I)Z" } : Jvm.MethodName) prog_7_method_6_code (2 : Nat) (Option.some Jvm.ClassFile.FieldType.boolean)) ∈ wAll := wa_in 619 rfl rfl
theorem a_620 : (Jvm.Cond.methodLink "CaseNetModel" (134 : Nat) ({ cls := "CaseNetModel", name := "stop", desc := "(I)V" } : Jvm.MethodName)) ∈ wAll := wa_in 620 (by decide +kernel) (by decide +kernel)
theorem a_622 : (Jvm.Cond.instanceMethod ({ cls := "CaseNetModel", name := "stop", desc := "(I)V" } : Jvm.MethodName)) ∈ wAll := wa_in 622 (by decide +kernel) (by decide +kernel)
set_option maxRecDepth 20000 in
theorem a_623 : (Jvm.Cond.code ({ cls := "CaseNetModel", name := "stop", desc := "(I)V" } : Jvm.MethodName) prog_7_method_18_code (3 : Nat) (Option.none : Option Jvm.ClassFile.FieldType)) ∈ wAll := wa_in 623 rfl rfl
set_option maxRecDepth 20000 in
theorem a_627 : (Jvm.Cond.code ({ cls := "CaseNetModel", name := "enabled", desc := "()I" } : Jvm.MethodName) prog_7_method_22_code (3 : Nat) (Option.some Jvm.ClassFile.FieldType.int)) ∈ wAll := wa_in 627 rfl rfl
theorem a_628 : (Jvm.Cond.methodLink "CaseNetModel" (140 : Nat) ({ cls := "CaseNetModel", name := "isEnabled", desc := "(I)Z" } : Jvm.MethodName)) ∈ wAll := wa_in 628 (by decide +kernel) (by decide +kernel)
theorem a_630 : (Jvm.Cond.instanceMethod ({ cls := "CaseNetModel", name := "isEnabled", desc := "(I)Z" } : Jvm.MethodName)) ∈ wAll := wa_in 630 (by decide +kernel) (by decide +kernel)
set_option maxRecDepth 20000 in
theorem a_631 : (Jvm.Cond.code ({ cls := "CaseNetModel", name := "isEnabled", desc := "(I)Z" } : Jvm.MethodName) prog_7_method_21_code (3 : Nat) (Option.some Jvm.ClassFile.FieldType.boolean)) ∈ wAll := wa_in 631 rfl rfl
theorem a_632 : (Jvm.Cond.methodLink "CaseNetModel" (137 : Nat) ({ cls := "CaseNetModel", name := "isLast", desc := "(I)Z" } : Jvm.MethodName)) ∈ wAll := wa_in 632 (by decide +kernel) (by decide +kernel)
theorem a_634 : (Jvm.Cond.instanceMethod ({ cls := "CaseNetModel", name := "isLast", desc := "(I)Z" } : Jvm.MethodName)) ∈ wAll := wa_in 634 (by decide +kernel) (by decide +kernel)
set_option maxRecDepth 20000 in
theorem a_635 : (Jvm.Cond.code ({ cls := "CaseNetModel", name := "isLast", desc := "(I)Z" } : Jvm.MethodName) prog_7_method_20_code (5 : Nat) (Option.some Jvm.ClassFile.FieldType.boolean)) ∈ wAll := wa_in 635 rfl rfl
set_option maxRecDepth 20000 in
theorem a_639 : (Jvm.Cond.code ({ cls := "CaseNetModel", name := "fire", desc := "(I)I" } : Jvm.MethodName) prog_7_method_23_code (4 : Nat) (Option.some Jvm.ClassFile.FieldType.int)) ∈ wAll := wa_in 639 rfl rfl
set_option maxRecDepth 20000 in
theorem a_643 : (Jvm.Cond.code ({ cls := "CaseNetModel", name := "start", desc := "(I)I" } : Jvm.MethodName) prog_7_method_27_code (2 : Nat) (Option.some Jvm.ClassFile.FieldType.int)) ∈ wAll := wa_in 643 rfl rfl
theorem a_644 : (Jvm.Cond.methodLink "CaseNetModel" (146 : Nat) ({ cls := "CaseNetModel", name := "isItem", desc := "(I)Z" } : Jvm.MethodName)) ∈ wAll := wa_in 644 (by decide +kernel) (by decide +kernel)
theorem a_646 : (Jvm.Cond.instanceMethod ({ cls := "CaseNetModel", name := "isItem", desc := "(I)Z" } : Jvm.MethodName)) ∈ wAll := wa_in 646 (by decide +kernel) (by decide +kernel)
set_option maxRecDepth 20000 in
theorem a_647 : (Jvm.Cond.code ({ cls := "CaseNetModel", name := "isItem", desc := "(I)Z" } : Jvm.MethodName) prog_7_method_24_code (2 : Nat) (Option.some Jvm.ClassFile.FieldType.boolean)) ∈ wAll := wa_in 647 rfl rfl
set_option maxRecDepth 20000 in
theorem a_651 : (Jvm.Cond.code ({ cls := "CaseNetModel", name := "finish", desc := "(II)I" } : Jvm.MethodName) prog_7_method_28_code (4 : Nat) (Option.some Jvm.ClassFile.FieldType.int)) ∈ wAll := wa_in 651 rfl rfl
theorem a_652 : (Jvm.Cond.methodLink "CaseNetModel" (149 : Nat) ({ cls := "CaseNetModel", name := "inState", desc := "(III)I" } : Jvm.MethodName)) ∈ wAll := wa_in 652 (by decide +kernel) (by decide +kernel)
theorem a_654 : (Jvm.Cond.instanceMethod ({ cls := "CaseNetModel", name := "inState", desc := "(III)I" } : Jvm.MethodName)) ∈ wAll := wa_in 654 (by decide +kernel) (by decide +kernel)
set_option maxRecDepth 20000 in
theorem a_655 : (Jvm.Cond.code ({ cls := "CaseNetModel", name := "inState", desc := "(III)I" } : Jvm.MethodName) prog_7_method_25_code (6 : Nat) (Option.some Jvm.ClassFile.FieldType.int)) ∈ wAll := wa_in 655 rfl rfl
theorem a_656 : (Jvm.Cond.methodLink "CaseNetModel" (152 : Nat) ({ cls := "CaseNetModel", name := "end", desc := "(I)V" } : Jvm.MethodName)) ∈ wAll := wa_in 656 (by decide +kernel) (by decide +kernel)
theorem a_658 : (Jvm.Cond.instanceMethod ({ cls := "CaseNetModel", name := "end", desc := "(I)V" } : Jvm.MethodName)) ∈ wAll := wa_in 658 (by decide +kernel) (by decide +kernel)
set_option maxRecDepth 20000 in
theorem a_659 : (Jvm.Cond.code ({ cls := "CaseNetModel", name := "end", desc := "(I)V" } : Jvm.MethodName) prog_7_method_26_code (6 : Nat) (Option.none : Option Jvm.ClassFile.FieldType)) ∈ wAll := wa_in 659 rfl rfl
set_option maxRecDepth 20000 in
theorem a_663 : (Jvm.Cond.code ({ cls := "CaseNetModel", name := "fail", desc := "(I)I" } : Jvm.MethodName) prog_7_method_30_code (2 : Nat) (Option.some Jvm.ClassFile.FieldType.int)) ∈ wAll := wa_in 663 rfl rfl
theorem a_664 : (Jvm.Cond.methodLink "CaseNetModel" (155 : Nat) ({ cls := "CaseNetModel", name := "failed", desc := "(I)I" } : Jvm.MethodName)) ∈ wAll := wa_in 664 (by decide +kernel) (by decide +kernel)
theorem a_666 : (Jvm.Cond.instanceMethod ({ cls := "CaseNetModel", name := "failed", desc := "(I)I" } : Jvm.MethodName)) ∈ wAll := wa_in 666 (by decide +kernel) (by decide +kernel)
set_option maxRecDepth 20000 in
theorem a_667 : (Jvm.Cond.code ({ cls := "CaseNetModel", name := "failed", desc := "(I)I" } : Jvm.MethodName) prog_7_method_29_code (3 : Nat) (Option.some Jvm.ClassFile.FieldType.int)) ∈ wAll := wa_in 667 rfl rfl
set_option maxRecDepth 20000 in
theorem a_671 : (Jvm.Cond.code ({ cls := "CaseNetModel", name := "tick", desc := "(I)I" } : Jvm.MethodName) prog_7_method_31_code (4 : Nat) (Option.some Jvm.ClassFile.FieldType.int)) ∈ wAll := wa_in 671 rfl rfl
set_option maxRecDepth 20000 in
theorem a_675 : (Jvm.Cond.code ({ cls := "CaseNetModel", name := "set", desc := "(II)Z" } : Jvm.MethodName) prog_7_method_32_code (3 : Nat) (Option.some Jvm.ClassFile.FieldType.boolean)) ∈ wAll := wa_in 675 rfl rfl
set_option maxRecDepth 20000 in
theorem a_679 : (Jvm.Cond.code ({ cls := "CaseNetModel", name := "variable", desc := "(I)I" } : Jvm.MethodName) prog_7_method_33_code (2 : Nat) (Option.some Jvm.ClassFile.FieldType.int)) ∈ wAll := wa_in 679 rfl rfl
set_option maxRecDepth 20000 in
theorem a_683 : (Jvm.Cond.code ({ cls := "CaseNetModel", name := "marking", desc := "()I" } : Jvm.MethodName) prog_7_method_34_code (1 : Nat) (Option.some Jvm.ClassFile.FieldType.int)) ∈ wAll := wa_in 683 rfl rfl
set_option maxRecDepth 20000 in
theorem a_687 : (Jvm.Cond.code ({ cls := "CaseNetModel", name := "item", desc := "(II)I" } : Jvm.MethodName) prog_7_method_35_code (3 : Nat) (Option.some Jvm.ClassFile.FieldType.int)) ∈ wAll := wa_in 687 rfl rfl
set_option maxRecDepth 20000 in
theorem a_691 : (Jvm.Cond.code ({ cls := "CaseNetModel", name := "verdict", desc := "()I" } : Jvm.MethodName) prog_7_method_40_code (5 : Nat) (Option.some Jvm.ClassFile.FieldType.int)) ∈ wAll := wa_in 691 rfl rfl
theorem a_692 : (Jvm.Cond.methodLink "CaseNetModel" (164 : Nat) ({ cls := "CaseNetModel", name := "canBegin", desc := "(I)Z" } : Jvm.MethodName)) ∈ wAll := wa_in 692 (by decide +kernel) (by decide +kernel)
theorem a_694 : (Jvm.Cond.instanceMethod ({ cls := "CaseNetModel", name := "canBegin", desc := "(I)Z" } : Jvm.MethodName)) ∈ wAll := wa_in 694 (by decide +kernel) (by decide +kernel)
set_option maxRecDepth 20000 in
theorem a_695 : (Jvm.Cond.code ({ cls := "CaseNetModel", name := "canBegin", desc := "(I)Z" } : Jvm.MethodName) prog_7_method_39_code (5 : Nat) (Option.some Jvm.ClassFile.FieldType.boolean)) ∈ wAll := wa_in 695 rfl rfl
theorem a_696 : (Jvm.Cond.methodLink "CaseNetModel" (167 : Nat) ({ cls := "CaseNetModel", name := "allEnd", desc := "()Z" } : Jvm.MethodName)) ∈ wAll := wa_in 696 (by decide +kernel) (by decide +kernel)
theorem a_698 : (Jvm.Cond.instanceMethod ({ cls := "CaseNetModel", name := "allEnd", desc := "()Z" } : Jvm.MethodName)) ∈ wAll := wa_in 698 (by decide +kernel) (by decide +kernel)
set_option maxRecDepth 20000 in
theorem a_699 : (Jvm.Cond.code ({ cls := "CaseNetModel", name := "allEnd", desc := "()Z" } : Jvm.MethodName) prog_7_method_38_code (5 : Nat) (Option.some Jvm.ClassFile.FieldType.boolean)) ∈ wAll := wa_in 699 rfl rfl
theorem a_700 : (Jvm.Cond.methodLink "CaseNetModel" (158 : Nat) ({ cls := "CaseNetModel", name := "isGood", desc := "(I)Z" } : Jvm.MethodName)) ∈ wAll := wa_in 700 (by decide +kernel) (by decide +kernel)
theorem a_702 : (Jvm.Cond.instanceMethod ({ cls := "CaseNetModel", name := "isGood", desc := "(I)Z" } : Jvm.MethodName)) ∈ wAll := wa_in 702 (by decide +kernel) (by decide +kernel)
set_option maxRecDepth 20000 in
theorem a_703 : (Jvm.Cond.code ({ cls := "CaseNetModel", name := "isGood", desc := "(I)Z" } : Jvm.MethodName) prog_7_method_36_code (2 : Nat) (Option.some Jvm.ClassFile.FieldType.boolean)) ∈ wAll := wa_in 703 rfl rfl
theorem a_704 : (Jvm.Cond.methodLink "CaseNetModel" (161 : Nat) ({ cls := "CaseNetModel", name := "leads", desc := "(I)Z" } : Jvm.MethodName)) ∈ wAll := wa_in 704 (by decide +kernel) (by decide +kernel)
theorem a_706 : (Jvm.Cond.instanceMethod ({ cls := "CaseNetModel", name := "leads", desc := "(I)Z" } : Jvm.MethodName)) ∈ wAll := wa_in 706 (by decide +kernel) (by decide +kernel)
set_option maxRecDepth 20000 in
theorem a_707 : (Jvm.Cond.code ({ cls := "CaseNetModel", name := "leads", desc := "(I)Z" } : Jvm.MethodName) prog_7_method_37_code (5 : Nat) (Option.some Jvm.ClassFile.FieldType.boolean)) ∈ wAll := wa_in 707 rfl rfl
theorem as_0 : Cond.selects "CaseNet$Task" ⟨"CaseNet$Task", "listTakes", "()V"⟩ ⟨"CaseNet$Task", "listTakes", "()V"⟩ ∈ wAll := wa_sel 0 (q := (⟨"CaseNet$Task", "listTakes", "()V"⟩, 19)) (by decide +kernel)
theorem as_1 : Cond.selects "CaseNet$Task" ⟨"CaseNet$Task", "listPuts", "()V"⟩ ⟨"CaseNet$Task", "listPuts", "()V"⟩ ∈ wAll := wa_sel 1 (q := (⟨"CaseNet$Task", "listPuts", "()V"⟩, 19)) (by decide +kernel)
theorem as_3 : Cond.selects "CaseNet" ⟨"CaseNet", "stop", "(LCaseNet$Task;)V"⟩ ⟨"CaseNet", "stop", "(LCaseNet$Task;)V"⟩ ∈ wAll := wa_sel 3 (q := (⟨"CaseNet", "stop", "(LCaseNet$Task;)V"⟩, 6)) (by decide +kernel)
theorem as_2 : Cond.selects "CaseNet" ⟨"CaseNet", "stopTasksAmong", "(I)V"⟩ ⟨"CaseNet", "stopTasksAmong", "(I)V"⟩ ∈ wAll := wa_sel 2 (q := (⟨"CaseNet", "stopTasksAmong", "(I)V"⟩, 6)) (by decide +kernel)
theorem as_6 : Cond.selects "CaseNet$Net" ⟨"CaseNet$Net", "addNeed", "(I)V"⟩ ⟨"CaseNet$Net", "addNeed", "(I)V"⟩ ∈ wAll := wa_sel 6 (q := (⟨"CaseNet$Net", "addNeed", "(I)V"⟩, 6)) (by decide +kernel)
theorem as_7 : Cond.selects "CaseNet$Net" ⟨"CaseNet$Net", "goBackBeforeEnd", "(LCaseNet$Task;I)V"⟩ ⟨"CaseNet$Net", "goBackBeforeEnd", "(LCaseNet$Task;I)V"⟩ ∈ wAll := wa_sel 7 (q := (⟨"CaseNet$Net", "goBackBeforeEnd", "(LCaseNet$Task;I)V"⟩, 6)) (by decide +kernel)
theorem as_8 : Cond.selects "CaseNet$Net" ⟨"CaseNet$Net", "goBackBeforeBegin", "(LCaseNet$Task;I)V"⟩ ⟨"CaseNet$Net", "goBackBeforeBegin", "(LCaseNet$Task;I)V"⟩ ∈ wAll := wa_sel 8 (q := (⟨"CaseNet$Net", "goBackBeforeBegin", "(LCaseNet$Task;I)V"⟩, 6)) (by decide +kernel)
theorem as_5 : Cond.selects "CaseNet" ⟨"CaseNet", "canMoreInputsCome", "(I)Z"⟩ ⟨"CaseNet", "canMoreInputsCome", "(I)Z"⟩ ∈ wAll := wa_sel 5 (q := (⟨"CaseNet", "canMoreInputsCome", "(I)Z"⟩, 6)) (by decide +kernel)
theorem as_4 : Cond.selects "CaseNet" ⟨"CaseNet", "canFire", "(I)Z"⟩ ⟨"CaseNet", "canFire", "(I)Z"⟩ ∈ wAll := wa_sel 4 (q := (⟨"CaseNet", "canFire", "(I)Z"⟩, 6)) (by decide +kernel)
theorem as_10 : Cond.selects "CaseNet$Task" ⟨"CaseNet$Task", "guardHolds", "(I[I)Z"⟩ ⟨"CaseNet$Task", "guardHolds", "(I[I)Z"⟩ ∈ wAll := wa_sel 10 (q := (⟨"CaseNet$Task", "guardHolds", "(I[I)Z"⟩, 19)) (by decide +kernel)
theorem as_11 : Cond.selects "CaseNet" ⟨"CaseNet", "stopIfNoneIsOpen", "(LCaseNet$Task;)Z"⟩ ⟨"CaseNet", "stopIfNoneIsOpen", "(LCaseNet$Task;)Z"⟩ ∈ wAll := wa_sel 11 (q := (⟨"CaseNet", "stopIfNoneIsOpen", "(LCaseNet$Task;)Z"⟩, 6)) (by decide +kernel)
theorem as_9 : Cond.selects "CaseNet" ⟨"CaseNet", "end", "(LCaseNet$Task;)V"⟩ ⟨"CaseNet", "end", "(LCaseNet$Task;)V"⟩ ∈ wAll := wa_sel 9 (q := (⟨"CaseNet", "end", "(LCaseNet$Task;)V"⟩, 6)) (by decide +kernel)
theorem as_12 : Cond.selects "CaseNet" ⟨"CaseNet", "failOpen", "(I)Z"⟩ ⟨"CaseNet", "failOpen", "(I)Z"⟩ ∈ wAll := wa_sel 12 (q := (⟨"CaseNet", "failOpen", "(I)Z"⟩, 6)) (by decide +kernel)
theorem as_13 : Cond.selects "CaseNet" ⟨"CaseNet", "isOverdue", "(I)Z"⟩ ⟨"CaseNet", "isOverdue", "(I)Z"⟩ ∈ wAll := wa_sel 13 (q := (⟨"CaseNet", "isOverdue", "(I)Z"⟩, 6)) (by decide +kernel)
theorem as_16 : Cond.selects "CaseNet$Net" ⟨"CaseNet$Net", "addReached", "(I)V"⟩ ⟨"CaseNet$Net", "addReached", "(I)V"⟩ ∈ wAll := wa_sel 16 (q := (⟨"CaseNet$Net", "addReached", "(I)V"⟩, 6)) (by decide +kernel)
theorem as_17 : Cond.selects "CaseNet$Net" ⟨"CaseNet$Net", "goOnByBegin", "(II)V"⟩ ⟨"CaseNet$Net", "goOnByBegin", "(II)V"⟩ ∈ wAll := wa_sel 17 (q := (⟨"CaseNet$Net", "goOnByBegin", "(II)V"⟩, 6)) (by decide +kernel)
theorem as_18 : Cond.selects "CaseNet$Net" ⟨"CaseNet$Net", "goOnByEnd", "(LCaseNet$Task;I)V"⟩ ⟨"CaseNet$Net", "goOnByEnd", "(LCaseNet$Task;I)V"⟩ ∈ wAll := wa_sel 18 (q := (⟨"CaseNet$Net", "goOnByEnd", "(LCaseNet$Task;I)V"⟩, 6)) (by decide +kernel)
theorem as_14 : Cond.selects "CaseNet$Net" ⟨"CaseNet$Net", "hasJoinSome", "()Z"⟩ ⟨"CaseNet$Net", "hasJoinSome", "()Z"⟩ ∈ wAll := wa_sel 14 (q := (⟨"CaseNet$Net", "hasJoinSome", "()Z"⟩, 6)) (by decide +kernel)
theorem as_15 : Cond.selects "CaseNet$Net" ⟨"CaseNet$Net", "reachFromStart", "()V"⟩ ⟨"CaseNet$Net", "reachFromStart", "()V"⟩ ∈ wAll := wa_sel 15 (q := (⟨"CaseNet$Net", "reachFromStart", "()V"⟩, 6)) (by decide +kernel)
theorem as_19 : Cond.selects "CaseNetModel" ⟨"CaseNetModel", "isDefined", "(I)Z"⟩ ⟨"CaseNetModel", "isDefined", "(I)Z"⟩ ∈ wAll := wa_sel 19 (q := (⟨"CaseNetModel", "isDefined", "(I)Z"⟩, 28)) (by decide +kernel)
theorem as_23 : Cond.selects "CaseNetModel" ⟨"CaseNetModel", "outputs", "(II)I"⟩ ⟨"CaseNetModel", "outputs", "(II)I"⟩ ∈ wAll := wa_sel 23 (q := (⟨"CaseNetModel", "outputs", "(II)I"⟩, 28)) (by decide +kernel)
theorem as_21 : Cond.selects "CaseNetModel" ⟨"CaseNetModel", "meet", "(I)V"⟩ ⟨"CaseNetModel", "meet", "(I)V"⟩ ∈ wAll := wa_sel 21 (q := (⟨"CaseNetModel", "meet", "(I)V"⟩, 28)) (by decide +kernel)
theorem as_22 : Cond.selects "CaseNetModel" ⟨"CaseNetModel", "after", "(III)I"⟩ ⟨"CaseNetModel", "after", "(III)I"⟩ ∈ wAll := wa_sel 22 (q := (⟨"CaseNetModel", "after", "(III)I"⟩, 28)) (by decide +kernel)
theorem as_20 : Cond.selects "CaseNetModel" ⟨"CaseNetModel", "search", "(III)Z"⟩ ⟨"CaseNetModel", "search", "(III)Z"⟩ ∈ wAll := wa_sel 20 (q := (⟨"CaseNetModel", "search", "(III)Z"⟩, 28)) (by decide +kernel)
theorem as_24 : Cond.selects "CaseNetModel" ⟨"CaseNetModel", "isAny", "()Z"⟩ ⟨"CaseNetModel", "isAny", "()Z"⟩ ∈ wAll := wa_sel 24 (q := (⟨"CaseNetModel", "isAny", "()Z"⟩, 28)) (by decide +kernel)
theorem as_25 : Cond.selects "CaseNetModel" ⟨"CaseNetModel", "runs", "(I)Z"⟩ ⟨"CaseNetModel", "runs", "(I)Z"⟩ ∈ wAll := wa_sel 25 (q := (⟨"CaseNetModel", "runs", "(I)Z"⟩, 28)) (by decide +kernel)
theorem as_26 : Cond.selects "CaseNetModel" ⟨"CaseNetModel", "stop", "(I)V"⟩ ⟨"CaseNetModel", "stop", "(I)V"⟩ ∈ wAll := wa_sel 26 (q := (⟨"CaseNetModel", "stop", "(I)V"⟩, 28)) (by decide +kernel)
theorem as_28 : Cond.selects "CaseNetModel" ⟨"CaseNetModel", "isLast", "(I)Z"⟩ ⟨"CaseNetModel", "isLast", "(I)Z"⟩ ∈ wAll := wa_sel 28 (q := (⟨"CaseNetModel", "isLast", "(I)Z"⟩, 28)) (by decide +kernel)
theorem as_27 : Cond.selects "CaseNetModel" ⟨"CaseNetModel", "isEnabled", "(I)Z"⟩ ⟨"CaseNetModel", "isEnabled", "(I)Z"⟩ ∈ wAll := wa_sel 27 (q := (⟨"CaseNetModel", "isEnabled", "(I)Z"⟩, 28)) (by decide +kernel)
theorem as_29 : Cond.selects "CaseNetModel" ⟨"CaseNetModel", "isItem", "(I)Z"⟩ ⟨"CaseNetModel", "isItem", "(I)Z"⟩ ∈ wAll := wa_sel 29 (q := (⟨"CaseNetModel", "isItem", "(I)Z"⟩, 28)) (by decide +kernel)
theorem as_30 : Cond.selects "CaseNetModel" ⟨"CaseNetModel", "inState", "(III)I"⟩ ⟨"CaseNetModel", "inState", "(III)I"⟩ ∈ wAll := wa_sel 30 (q := (⟨"CaseNetModel", "inState", "(III)I"⟩, 28)) (by decide +kernel)
theorem as_31 : Cond.selects "CaseNetModel" ⟨"CaseNetModel", "end", "(I)V"⟩ ⟨"CaseNetModel", "end", "(I)V"⟩ ∈ wAll := wa_sel 31 (q := (⟨"CaseNetModel", "end", "(I)V"⟩, 28)) (by decide +kernel)
theorem as_32 : Cond.selects "CaseNetModel" ⟨"CaseNetModel", "failed", "(I)I"⟩ ⟨"CaseNetModel", "failed", "(I)I"⟩ ∈ wAll := wa_sel 32 (q := (⟨"CaseNetModel", "failed", "(I)I"⟩, 28)) (by decide +kernel)
theorem as_35 : Cond.selects "CaseNetModel" ⟨"CaseNetModel", "isGood", "(I)Z"⟩ ⟨"CaseNetModel", "isGood", "(I)Z"⟩ ∈ wAll := wa_sel 35 (q := (⟨"CaseNetModel", "isGood", "(I)Z"⟩, 28)) (by decide +kernel)
theorem as_36 : Cond.selects "CaseNetModel" ⟨"CaseNetModel", "leads", "(I)Z"⟩ ⟨"CaseNetModel", "leads", "(I)Z"⟩ ∈ wAll := wa_sel 36 (q := (⟨"CaseNetModel", "leads", "(I)Z"⟩, 28)) (by decide +kernel)
theorem as_33 : Cond.selects "CaseNetModel" ⟨"CaseNetModel", "canBegin", "(I)Z"⟩ ⟨"CaseNetModel", "canBegin", "(I)Z"⟩ ∈ wAll := wa_sel 33 (q := (⟨"CaseNetModel", "canBegin", "(I)Z"⟩, 28)) (by decide +kernel)
theorem as_34 : Cond.selects "CaseNetModel" ⟨"CaseNetModel", "allEnd", "()Z"⟩ ⟨"CaseNetModel", "allEnd", "()Z"⟩ ∈ wAll := wa_sel 34 (q := (⟨"CaseNetModel", "allEnd", "()Z"⟩, 28)) (by decide +kernel)
end
section
def R_CaseNet : String := "CaseNet"
def F_CaseNet : u_T := fun k => match k with
  | 0 => ("CaseNet", "net", "LCaseNet$Net;", true)
  | 1 => ("CaseNet", "work", "LCaseNet$WorkList;", true)
  | 2 => ("CaseNet", "variables", "[I", true)
  | 3 => ("CaseNet", "on", "Z", false)
  | 4 => ("CaseNet", "present", "I", false)
  | _ => ("CaseNet", "clock", "I", false)
def t_CaseNet : Nat → FieldType := fun k => match k with
  | 0 => .object "CaseNet$Net"
  | 1 => .object "CaseNet$WorkList"
  | 2 => .array (.int)
  | 3 => .boolean
  | 4 => .int
  | _ => .int
theorem n_CaseNet : ∀ a, a < 6 → ∀ b, b < 6 → a ≠ b → (F_CaseNet a).2.1 ≠ (F_CaseNet b).2.1 := by decide +kernel
theorem t_CaseNet_ok : ∀ k, k < 6 → parseFieldDescriptor (F_CaseNet k).2.2.1 = some (t_CaseNet k) := by decide +kernel
def R_Net : String := "CaseNet$Net"
def F_Net : u_T := fun k => match k with
  | 0 => ("CaseNet$Net", "tasks", "[LCaseNet$Task;", true)
  | 1 => ("CaseNet$Net", "open", "LCaseNet$MaskSet;", true)
  | 2 => ("CaseNet$Net", "reached", "LCaseNet$MaskSet;", true)
  | 3 => ("CaseNet$Net", "covering", "LCaseNet$MaskSet;", true)
  | 4 => ("CaseNet$Net", "begun", "I", false)
  | _ => ("CaseNet$Net", "endStandsAlone", "Z", false)
def t_Net : Nat → FieldType := fun k => match k with
  | 0 => .array (.object "CaseNet$Task")
  | 1 => .object "CaseNet$MaskSet"
  | 2 => .object "CaseNet$MaskSet"
  | 3 => .object "CaseNet$MaskSet"
  | 4 => .int
  | _ => .boolean
theorem n_Net : ∀ a, a < 6 → ∀ b, b < 6 → a ≠ b → (F_Net a).2.1 ≠ (F_Net b).2.1 := by decide +kernel
theorem t_Net_ok : ∀ k, k < 6 → parseFieldDescriptor (F_Net k).2.2.1 = some (t_Net k) := by decide +kernel
def R_Task : String := "CaseNet$Task"
def F_Task : u_T := fun k => match k with
  | 0 => ("CaseNet$Task", "place", "I", true)
  | 1 => ("CaseNet$Task", "defined", "Z", false)
  | 2 => ("CaseNet$Task", "join", "I", false)
  | 3 => ("CaseNet$Task", "split", "I", false)
  | 4 => ("CaseNet$Task", "ins", "I", false)
  | 5 => ("CaseNet$Task", "outs", "I", false)
  | 6 => ("CaseNet$Task", "cleared", "I", false)
  | 7 => ("CaseNet$Task", "number", "I", false)
  | 8 => ("CaseNet$Task", "threshold", "I", false)
  | 9 => ("CaseNet$Task", "variable", "I", false)
  | 10 => ("CaseNet$Task", "deadline", "I", false)
  | 11 => ("CaseNet$Task", "firstItem", "I", false)
  | 12 => ("CaseNet$Task", "takes", "[I", true)
  | 13 => ("CaseNet$Task", "puts", "[I", true)
  | 14 => ("CaseNet$Task", "takesCount", "I", false)
  | 15 => ("CaseNet$Task", "putsCount", "I", false)
  | 16 => ("CaseNet$Task", "guardVariable", "[I", true)
  | 17 => ("CaseNet$Task", "guardLow", "[I", true)
  | _ => ("CaseNet$Task", "guardHigh", "[I", true)
def t_Task : Nat → FieldType := fun k => match k with
  | 0 => .int
  | 1 => .boolean
  | 2 => .int
  | 3 => .int
  | 4 => .int
  | 5 => .int
  | 6 => .int
  | 7 => .int
  | 8 => .int
  | 9 => .int
  | 10 => .int
  | 11 => .int
  | 12 => .array (.int)
  | 13 => .array (.int)
  | 14 => .int
  | 15 => .int
  | 16 => .array (.int)
  | 17 => .array (.int)
  | _ => .array (.int)
theorem n_Task : ∀ a, a < 19 → ∀ b, b < 19 → a ≠ b → (F_Task a).2.1 ≠ (F_Task b).2.1 := by decide +kernel
theorem t_Task_ok : ∀ k, k < 19 → parseFieldDescriptor (F_Task k).2.2.1 = some (t_Task k) := by decide +kernel
def R_WorkList : String := "CaseNet$WorkList"
def F_WorkList : u_T := fun k => match k with
  | 0 => ("CaseNet$WorkList", "task", "[I", true)
  | 1 => ("CaseNet$WorkList", "state", "[I", true)
  | 2 => ("CaseNet$WorkList", "offeredAt", "[I", true)
  | _ => ("CaseNet$WorkList", "made", "I", false)
def t_WorkList : Nat → FieldType := fun k => match k with
  | 0 => .array (.int)
  | 1 => .array (.int)
  | 2 => .array (.int)
  | _ => .int
theorem n_WorkList : ∀ a, a < 4 → ∀ b, b < 4 → a ≠ b → (F_WorkList a).2.1 ≠ (F_WorkList b).2.1 := by decide +kernel
theorem t_WorkList_ok : ∀ k, k < 4 → parseFieldDescriptor (F_WorkList k).2.2.1 = some (t_WorkList k) := by decide +kernel
def R_MaskSet : String := "CaseNet$MaskSet"
def F_MaskSet : u_T := fun k => match k with
  | 0 => ("CaseNet$MaskSet", "words", "[J", true)
  | _ => ("CaseNet$MaskSet", "firstUsed", "I", false)
def t_MaskSet : Nat → FieldType := fun k => match k with
  | 0 => .array (.long)
  | _ => .int
theorem n_MaskSet : ∀ a, a < 2 → ∀ b, b < 2 → a ≠ b → (F_MaskSet a).2.1 ≠ (F_MaskSet b).2.1 := by decide +kernel
theorem t_MaskSet_ok : ∀ k, k < 2 → parseFieldDescriptor (F_MaskSet k).2.2.1 = some (t_MaskSet k) := by decide +kernel
def R_Model : String := "CaseNetModel"
def F_Model : u_T := fun k => match k with
  | 0 => ("CaseNetModel", "defined", "[Z", false)
  | 1 => ("CaseNetModel", "joins", "[I", false)
  | 2 => ("CaseNetModel", "splits", "[I", false)
  | 3 => ("CaseNetModel", "insOf", "[I", false)
  | 4 => ("CaseNetModel", "outsOf", "[I", false)
  | 5 => ("CaseNetModel", "inBits", "[I", false)
  | 6 => ("CaseNetModel", "outBits", "[I", false)
  | 7 => ("CaseNetModel", "regions", "[I", false)
  | 8 => ("CaseNetModel", "guardOf", "[I", false)
  | 9 => ("CaseNetModel", "lows", "[I", false)
  | 10 => ("CaseNetModel", "highs", "[I", false)
  | 11 => ("CaseNetModel", "numbers", "[I", false)
  | 12 => ("CaseNetModel", "thresholds", "[I", false)
  | 13 => ("CaseNetModel", "variableOf", "[I", false)
  | 14 => ("CaseNetModel", "deadlines", "[I", false)
  | 15 => ("CaseNetModel", "on", "Z", false)
  | 16 => ("CaseNetModel", "mask", "I", false)
  | 17 => ("CaseNetModel", "clock", "I", false)
  | 18 => ("CaseNetModel", "variables", "[I", false)
  | 19 => ("CaseNetModel", "made", "I", false)
  | 20 => ("CaseNetModel", "taskOf", "[I", false)
  | 21 => ("CaseNetModel", "stateOf", "[I", false)
  | 22 => ("CaseNetModel", "offeredAt", "[I", false)
  | 23 => ("CaseNetModel", "firstItem", "[I", false)
  | 24 => ("CaseNetModel", "met", "[J", false)
  | 25 => ("CaseNetModel", "masks", "[I", false)
  | 26 => ("CaseNetModel", "many", "I", false)
  | _ => ("CaseNetModel", "good", "[J", false)
def t_Model : Nat → FieldType := fun k => match k with
  | 0 => .array (.boolean)
  | 1 => .array (.int)
  | 2 => .array (.int)
  | 3 => .array (.int)
  | 4 => .array (.int)
  | 5 => .array (.int)
  | 6 => .array (.int)
  | 7 => .array (.int)
  | 8 => .array (.int)
  | 9 => .array (.int)
  | 10 => .array (.int)
  | 11 => .array (.int)
  | 12 => .array (.int)
  | 13 => .array (.int)
  | 14 => .array (.int)
  | 15 => .boolean
  | 16 => .int
  | 17 => .int
  | 18 => .array (.int)
  | 19 => .int
  | 20 => .array (.int)
  | 21 => .array (.int)
  | 22 => .array (.int)
  | 23 => .array (.int)
  | 24 => .array (.long)
  | 25 => .array (.int)
  | 26 => .int
  | _ => .array (.long)
theorem n_Model : ∀ a, a < 28 → ∀ b, b < 28 → a ≠ b → (F_Model a).2.1 ≠ (F_Model b).2.1 := by decide +kernel
theorem t_Model_ok : ∀ k, k < 28 → parseFieldDescriptor (F_Model k).2.2.1 = some (t_Model k) := by decide +kernel
abbrev clA : List vw_C := [(R_CaseNet, F_CaseNet, 6), (R_Net, F_Net, 6), (R_Task, F_Task, 19), (R_WorkList, F_WorkList, 4), (R_MaskSet, F_MaskSet, 2), (R_Model, F_Model, 28)]
abbrev b_CN_isBetween : ByteArray := prog_1_method_20_code
def y_CN_isBetween : MethodName := ⟨"CaseNet", "isBetween", "(III)Z"⟩
abbrev w_CN_isBetween : List Cond := Cond.code y_CN_isBetween b_CN_isBetween 3 (some .boolean) :: wAll
theorem ac_CN_isBetween : Cond.code y_CN_isBetween b_CN_isBetween 3 (some .boolean) ∈ wAll := a_189
theorem hd_CN_isBetween : y_CN_isBetween.cls ≠ "java/lang/invoke/MethodHandle" ∧ y_CN_isBetween.cls ≠ "java/lang/invoke/VarHandle" ∧ (parseMethodDescriptor y_CN_isBetween.desc).map (fun d => d.parameters.length) = some 3 := by decide +kernel
abbrev b_Integer_bitCount : ByteArray := prog_8_method_49_code
def y_Integer_bitCount : MethodName := ⟨"java/lang/Integer", "bitCount", "(I)I"⟩
abbrev w_Integer_bitCount : List Cond := Cond.code y_Integer_bitCount b_Integer_bitCount 1 (some .int) :: wAll
theorem ac_Integer_bitCount : Cond.code y_Integer_bitCount b_Integer_bitCount 1 (some .int) ∈ wAll := a_195
theorem hd_Integer_bitCount : y_Integer_bitCount.cls ≠ "java/lang/invoke/MethodHandle" ∧ y_Integer_bitCount.cls ≠ "java/lang/invoke/VarHandle" ∧ (parseMethodDescriptor y_Integer_bitCount.desc).map (fun d => d.parameters.length) = some 1 := by decide +kernel
abbrev b_CN_isOneToThreeConditions : ByteArray := prog_1_method_23_code
def y_CN_isOneToThreeConditions : MethodName := ⟨"CaseNet", "isOneToThreeConditions", "(I)Z"⟩
abbrev w_CN_isOneToThreeConditions : List Cond := Cond.code y_CN_isOneToThreeConditions b_CN_isOneToThreeConditions 1 (some .boolean) :: wAll
theorem ac_CN_isOneToThreeConditions : Cond.code y_CN_isOneToThreeConditions b_CN_isOneToThreeConditions 1 (some .boolean) ∈ wAll := a_192
theorem hd_CN_isOneToThreeConditions : y_CN_isOneToThreeConditions.cls ≠ "java/lang/invoke/MethodHandle" ∧ y_CN_isOneToThreeConditions.cls ≠ "java/lang/invoke/VarHandle" ∧ (parseMethodDescriptor y_CN_isOneToThreeConditions.desc).map (fun d => d.parameters.length) = some 1 := by decide +kernel
abbrev b_Task_putWork : ByteArray := prog_4_method_3_code
def y_Task_putWork : MethodName := ⟨"CaseNet$Task", "putWork", "(IIII)V"⟩
abbrev w_Task_putWork : List Cond := Cond.code y_Task_putWork b_Task_putWork 5 none :: wAll
theorem ac_Task_putWork : Cond.code y_Task_putWork b_Task_putWork 5 none ∈ wAll := a_206
theorem hd_Task_putWork : y_Task_putWork.cls ≠ "java/lang/invoke/MethodHandle" ∧ y_Task_putWork.cls ≠ "java/lang/invoke/VarHandle" ∧ (parseMethodDescriptor y_Task_putWork.desc).map (fun d => d.parameters.length) = some 4 := by decide +kernel
abbrev b_Task_putGuard : ByteArray := prog_4_method_4_code
def y_Task_putGuard : MethodName := ⟨"CaseNet$Task", "putGuard", "(IIII)V"⟩
abbrev w_Task_putGuard : List Cond := Cond.code y_Task_putGuard b_Task_putGuard 5 none :: wAll
theorem ac_Task_putGuard : Cond.code y_Task_putGuard b_Task_putGuard 5 none ∈ wAll := a_212
theorem hd_Task_putGuard : y_Task_putGuard.cls ≠ "java/lang/invoke/MethodHandle" ∧ y_Task_putGuard.cls ≠ "java/lang/invoke/VarHandle" ∧ (parseMethodDescriptor y_Task_putGuard.desc).map (fun d => d.parameters.length) = some 4 := by decide +kernel
abbrev b_Task_isMoveOf : ByteArray := prog_4_method_7_code
def y_Task_isMoveOf : MethodName := ⟨"CaseNet$Task", "isMoveOf", "(III)Z"⟩
abbrev w_Task_isMoveOf : List Cond := Cond.code y_Task_isMoveOf b_Task_isMoveOf 3 (some .boolean) :: wAll
theorem ac_Task_isMoveOf : Cond.code y_Task_isMoveOf b_Task_isMoveOf 3 (some .boolean) ∈ wAll := a_219
theorem hd_Task_isMoveOf : y_Task_isMoveOf.cls ≠ "java/lang/invoke/MethodHandle" ∧ y_Task_isMoveOf.cls ≠ "java/lang/invoke/VarHandle" ∧ (parseMethodDescriptor y_Task_isMoveOf.desc).map (fun d => d.parameters.length) = some 3 := by decide +kernel
abbrev b_Task_listTakes : ByteArray := prog_4_method_5_code
def y_Task_listTakes : MethodName := ⟨"CaseNet$Task", "listTakes", "()V"⟩
abbrev w_Task_listTakes : List Cond := Cond.code y_Task_listTakes b_Task_listTakes 2 none :: wAll
theorem ac_Task_listTakes : Cond.code y_Task_listTakes b_Task_listTakes 2 none ∈ wAll := a_216
theorem hd_Task_listTakes : y_Task_listTakes.cls ≠ "java/lang/invoke/MethodHandle" ∧ y_Task_listTakes.cls ≠ "java/lang/invoke/VarHandle" ∧ (parseMethodDescriptor y_Task_listTakes.desc).map (fun d => d.parameters.length) = some 0 := by decide +kernel
abbrev b_Task_listPuts : ByteArray := prog_4_method_6_code
def y_Task_listPuts : MethodName := ⟨"CaseNet$Task", "listPuts", "()V"⟩
abbrev w_Task_listPuts : List Cond := Cond.code y_Task_listPuts b_Task_listPuts 2 none :: wAll
theorem ac_Task_listPuts : Cond.code y_Task_listPuts b_Task_listPuts 2 none ∈ wAll := a_224
theorem hd_Task_listPuts : y_Task_listPuts.cls ≠ "java/lang/invoke/MethodHandle" ∧ y_Task_listPuts.cls ≠ "java/lang/invoke/VarHandle" ∧ (parseMethodDescriptor y_Task_listPuts.desc).map (fun d => d.parameters.length) = some 0 := by decide +kernel
abbrev b_Task_define : ByteArray := prog_4_method_2_code
def y_Task_define : MethodName := ⟨"CaseNet$Task", "define", "(IIII)V"⟩
abbrev w_Task_define : List Cond := Cond.code y_Task_define b_Task_define 6 none :: wAll
theorem ac_Task_define : Cond.code y_Task_define b_Task_define 6 none ∈ wAll := a_202
theorem hd_Task_define : y_Task_define.cls ≠ "java/lang/invoke/MethodHandle" ∧ y_Task_define.cls ≠ "java/lang/invoke/VarHandle" ∧ (parseMethodDescriptor y_Task_define.desc).map (fun d => d.parameters.length) = some 4 := by decide +kernel
abbrev b_CN_task : ByteArray := prog_1_method_2_code
def y_CN_task : MethodName := ⟨"CaseNet", "task", "(IIIII)Z"⟩
abbrev w_CN_task : List Cond := Cond.code y_CN_task b_CN_task 6 (some .boolean) :: wAll
theorem ac_CN_task : Cond.code y_CN_task b_CN_task 6 (some .boolean) ∈ wAll := a_186
theorem hd_CN_task : y_CN_task.cls ≠ "java/lang/invoke/MethodHandle" ∧ y_CN_task.cls ≠ "java/lang/invoke/VarHandle" ∧ (parseMethodDescriptor y_CN_task.desc).map (fun d => d.parameters.length) = some 5 := by decide +kernel
abbrev b_Net_isDefined : ByteArray := prog_3_method_2_code
def y_Net_isDefined : MethodName := ⟨"CaseNet$Net", "isDefined", "(I)Z"⟩
abbrev w_Net_isDefined : List Cond := Cond.code y_Net_isDefined b_Net_isDefined 2 (some .boolean) :: wAll
theorem ac_Net_isDefined : Cond.code y_Net_isDefined b_Net_isDefined 2 (some .boolean) ∈ wAll := a_232
theorem hd_Net_isDefined : y_Net_isDefined.cls ≠ "java/lang/invoke/MethodHandle" ∧ y_Net_isDefined.cls ≠ "java/lang/invoke/VarHandle" ∧ (parseMethodDescriptor y_Net_isDefined.desc).map (fun d => d.parameters.length) = some 1 := by decide +kernel
abbrev b_CN_isMaskOfPlaces : ByteArray := prog_1_method_22_code
def y_CN_isMaskOfPlaces : MethodName := ⟨"CaseNet", "isMaskOfPlaces", "(I)Z"⟩
abbrev w_CN_isMaskOfPlaces : List Cond := Cond.code y_CN_isMaskOfPlaces b_CN_isMaskOfPlaces 1 (some .boolean) :: wAll
theorem ac_CN_isMaskOfPlaces : Cond.code y_CN_isMaskOfPlaces b_CN_isMaskOfPlaces 1 (some .boolean) ∈ wAll := a_236
theorem hd_CN_isMaskOfPlaces : y_CN_isMaskOfPlaces.cls ≠ "java/lang/invoke/MethodHandle" ∧ y_CN_isMaskOfPlaces.cls ≠ "java/lang/invoke/VarHandle" ∧ (parseMethodDescriptor y_CN_isMaskOfPlaces.desc).map (fun d => d.parameters.length) = some 1 := by decide +kernel
abbrev b_CN_region : ByteArray := prog_1_method_3_code
def y_CN_region : MethodName := ⟨"CaseNet", "region", "(II)Z"⟩
abbrev w_CN_region : List Cond := Cond.code y_CN_region b_CN_region 3 (some .boolean) :: wAll
theorem ac_CN_region : Cond.code y_CN_region b_CN_region 3 (some .boolean) ∈ wAll := a_228
theorem hd_CN_region : y_CN_region.cls ≠ "java/lang/invoke/MethodHandle" ∧ y_CN_region.cls ≠ "java/lang/invoke/VarHandle" ∧ (parseMethodDescriptor y_CN_region.desc).map (fun d => d.parameters.length) = some 2 := by decide +kernel
abbrev b_CN_isVariable : ByteArray := prog_1_method_21_code
def y_CN_isVariable : MethodName := ⟨"CaseNet", "isVariable", "(I)Z"⟩
abbrev w_CN_isVariable : List Cond := Cond.code y_CN_isVariable b_CN_isVariable 1 (some .boolean) :: wAll
theorem ac_CN_isVariable : Cond.code y_CN_isVariable b_CN_isVariable 1 (some .boolean) ∈ wAll := a_243
theorem hd_CN_isVariable : y_CN_isVariable.cls ≠ "java/lang/invoke/MethodHandle" ∧ y_CN_isVariable.cls ≠ "java/lang/invoke/VarHandle" ∧ (parseMethodDescriptor y_CN_isVariable.desc).map (fun d => d.parameters.length) = some 1 := by decide +kernel
abbrev b_CN_guard : ByteArray := prog_1_method_4_code
def y_CN_guard : MethodName := ⟨"CaseNet", "guard", "(IIIII)Z"⟩
abbrev w_CN_guard : List Cond := Cond.code y_CN_guard b_CN_guard 6 (some .boolean) :: wAll
theorem ac_CN_guard : Cond.code y_CN_guard b_CN_guard 6 (some .boolean) ∈ wAll := a_240
theorem hd_CN_guard : y_CN_guard.cls ≠ "java/lang/invoke/MethodHandle" ∧ y_CN_guard.cls ≠ "java/lang/invoke/VarHandle" ∧ (parseMethodDescriptor y_CN_guard.desc).map (fun d => d.parameters.length) = some 5 := by decide +kernel
abbrev b_CN_items : ByteArray := prog_1_method_5_code
def y_CN_items : MethodName := ⟨"CaseNet", "items", "(IIIII)Z"⟩
abbrev w_CN_items : List Cond := Cond.code y_CN_items b_CN_items 6 (some .boolean) :: wAll
theorem ac_CN_items : Cond.code y_CN_items b_CN_items 6 (some .boolean) ∈ wAll := a_248
theorem hd_CN_items : y_CN_items.cls ≠ "java/lang/invoke/MethodHandle" ∧ y_CN_items.cls ≠ "java/lang/invoke/VarHandle" ∧ (parseMethodDescriptor y_CN_items.desc).map (fun d => d.parameters.length) = some 5 := by decide +kernel
abbrev b_Net_definedTasks : ByteArray := prog_3_method_3_code
def y_Net_definedTasks : MethodName := ⟨"CaseNet$Net", "definedTasks", "()I"⟩
abbrev w_Net_definedTasks : List Cond := Cond.code y_Net_definedTasks b_Net_definedTasks 3 (some .int) :: wAll
theorem ac_Net_definedTasks : Cond.code y_Net_definedTasks b_Net_definedTasks 3 (some .int) ∈ wAll := a_257
theorem hd_Net_definedTasks : y_Net_definedTasks.cls ≠ "java/lang/invoke/MethodHandle" ∧ y_Net_definedTasks.cls ≠ "java/lang/invoke/VarHandle" ∧ (parseMethodDescriptor y_Net_definedTasks.desc).map (fun d => d.parameters.length) = some 0 := by decide +kernel
abbrev b_CN_launch : ByteArray := prog_1_method_6_code
def y_CN_launch : MethodName := ⟨"CaseNet", "launch", "()Z"⟩
abbrev w_CN_launch : List Cond := Cond.code y_CN_launch b_CN_launch 1 (some .boolean) :: wAll
theorem ac_CN_launch : Cond.code y_CN_launch b_CN_launch 1 (some .boolean) ∈ wAll := a_253
theorem hd_CN_launch : y_CN_launch.cls ≠ "java/lang/invoke/MethodHandle" ∧ y_CN_launch.cls ≠ "java/lang/invoke/VarHandle" ∧ (parseMethodDescriptor y_CN_launch.desc).map (fun d => d.parameters.length) = some 0 := by decide +kernel
abbrev b_Work_isOpen : ByteArray := prog_5_method_5_code
def y_Work_isOpen : MethodName := ⟨"CaseNet$WorkList", "isOpen", "(I)Z"⟩
abbrev w_Work_isOpen : List Cond := Cond.code y_Work_isOpen b_Work_isOpen 2 (some .boolean) :: wAll
theorem ac_Work_isOpen : Cond.code y_Work_isOpen b_Work_isOpen 2 (some .boolean) ∈ wAll := a_277
theorem hd_Work_isOpen : y_Work_isOpen.cls ≠ "java/lang/invoke/MethodHandle" ∧ y_Work_isOpen.cls ≠ "java/lang/invoke/VarHandle" ∧ (parseMethodDescriptor y_Work_isOpen.desc).map (fun d => d.parameters.length) = some 1 := by decide +kernel
abbrev b_Work_withdrawOpen : ByteArray := prog_5_method_8_code
def y_Work_withdrawOpen : MethodName := ⟨"CaseNet$WorkList", "withdrawOpen", "(II)V"⟩
abbrev w_Work_withdrawOpen : List Cond := Cond.code y_Work_withdrawOpen b_Work_withdrawOpen 4 none :: wAll
theorem ac_Work_withdrawOpen : Cond.code y_Work_withdrawOpen b_Work_withdrawOpen 4 none ∈ wAll := a_273
theorem hd_Work_withdrawOpen : y_Work_withdrawOpen.cls ≠ "java/lang/invoke/MethodHandle" ∧ y_Work_withdrawOpen.cls ≠ "java/lang/invoke/VarHandle" ∧ (parseMethodDescriptor y_Work_withdrawOpen.desc).map (fun d => d.parameters.length) = some 2 := by decide +kernel
abbrev b_CN_stop : ByteArray := prog_1_method_27_code
def y_CN_stop : MethodName := ⟨"CaseNet", "stop", "(LCaseNet$Task;)V"⟩
abbrev w_CN_stop : List Cond := Cond.code y_CN_stop b_CN_stop 2 none :: wAll
theorem ac_CN_stop : Cond.code y_CN_stop b_CN_stop 2 none ∈ wAll := a_269
theorem hd_CN_stop : y_CN_stop.cls ≠ "java/lang/invoke/MethodHandle" ∧ y_CN_stop.cls ≠ "java/lang/invoke/VarHandle" ∧ (parseMethodDescriptor y_CN_stop.desc).map (fun d => d.parameters.length) = some 1 := by decide +kernel
abbrev b_CN_stopTasksAmong : ByteArray := prog_1_method_28_code
def y_CN_stopTasksAmong : MethodName := ⟨"CaseNet", "stopTasksAmong", "(I)V"⟩
abbrev w_CN_stopTasksAmong : List Cond := Cond.code y_CN_stopTasksAmong b_CN_stopTasksAmong 4 none :: wAll
theorem ac_CN_stopTasksAmong : Cond.code y_CN_stopTasksAmong b_CN_stopTasksAmong 4 none ∈ wAll := a_265
theorem hd_CN_stopTasksAmong : y_CN_stopTasksAmong.cls ≠ "java/lang/invoke/MethodHandle" ∧ y_CN_stopTasksAmong.cls ≠ "java/lang/invoke/VarHandle" ∧ (parseMethodDescriptor y_CN_stopTasksAmong.desc).map (fun d => d.parameters.length) = some 1 := by decide +kernel
abbrev b_CN_cancel : ByteArray := prog_1_method_7_code
def y_CN_cancel : MethodName := ⟨"CaseNet", "cancel", "()Z"⟩
abbrev w_CN_cancel : List Cond := Cond.code y_CN_cancel b_CN_cancel 1 (some .boolean) :: wAll
theorem ac_CN_cancel : Cond.code y_CN_cancel b_CN_cancel 1 (some .boolean) ∈ wAll := a_261
theorem hd_CN_cancel : y_CN_cancel.cls ≠ "java/lang/invoke/MethodHandle" ∧ y_CN_cancel.cls ≠ "java/lang/invoke/VarHandle" ∧ (parseMethodDescriptor y_CN_cancel.desc).map (fun d => d.parameters.length) = some 0 := by decide +kernel
abbrev b_Arrays_fill : ByteArray := prog_10_method_101_code
def y_Arrays_fill : MethodName := ⟨"java/util/Arrays", "fill", "([JJ)V"⟩
abbrev w_Arrays_fill : List Cond := Cond.code y_Arrays_fill b_Arrays_fill 5 none :: wAll
theorem ac_Arrays_fill : Cond.code y_Arrays_fill b_Arrays_fill 5 none ∈ wAll := a_300
theorem hd_Arrays_fill : y_Arrays_fill.cls ≠ "java/lang/invoke/MethodHandle" ∧ y_Arrays_fill.cls ≠ "java/lang/invoke/VarHandle" ∧ (parseMethodDescriptor y_Arrays_fill.desc).map (fun d => d.parameters.length) = some 2 := by decide +kernel
abbrev b_MS_clear : ByteArray := prog_2_method_2_code
def y_MS_clear : MethodName := ⟨"CaseNet$MaskSet", "clear", "()V"⟩
abbrev w_MS_clear : List Cond := Cond.code y_MS_clear b_MS_clear 1 none :: wAll
theorem ac_MS_clear : Cond.code y_MS_clear b_MS_clear 1 none ∈ wAll := a_297
theorem hd_MS_clear : y_MS_clear.cls ≠ "java/lang/invoke/MethodHandle" ∧ y_MS_clear.cls ≠ "java/lang/invoke/VarHandle" ∧ (parseMethodDescriptor y_MS_clear.desc).map (fun d => d.parameters.length) = some 0 := by decide +kernel
abbrev b_MS_has : ByteArray := prog_2_method_3_code
def y_MS_has : MethodName := ⟨"CaseNet$MaskSet", "has", "(I)Z"⟩
abbrev w_MS_has : List Cond := Cond.code y_MS_has b_MS_has 2 (some .boolean) :: wAll
theorem ac_MS_has : Cond.code y_MS_has b_MS_has 2 (some .boolean) ∈ wAll := a_308
theorem hd_MS_has : y_MS_has.cls ≠ "java/lang/invoke/MethodHandle" ∧ y_MS_has.cls ≠ "java/lang/invoke/VarHandle" ∧ (parseMethodDescriptor y_MS_has.desc).map (fun d => d.parameters.length) = some 1 := by decide +kernel
abbrev b_MS_addAllAbove : ByteArray := prog_2_method_5_code
def y_MS_addAllAbove : MethodName := ⟨"CaseNet$MaskSet", "addAllAbove", "(I)V"⟩
abbrev w_MS_addAllAbove : List Cond := Cond.code y_MS_addAllAbove b_MS_addAllAbove 6 none :: wAll
theorem ac_MS_addAllAbove : Cond.code y_MS_addAllAbove b_MS_addAllAbove 6 none ∈ wAll := a_312
theorem hd_MS_addAllAbove : y_MS_addAllAbove.cls ≠ "java/lang/invoke/MethodHandle" ∧ y_MS_addAllAbove.cls ≠ "java/lang/invoke/VarHandle" ∧ (parseMethodDescriptor y_MS_addAllAbove.desc).map (fun d => d.parameters.length) = some 1 := by decide +kernel
abbrev b_MS_add : ByteArray := prog_2_method_4_code
def y_MS_add : MethodName := ⟨"CaseNet$MaskSet", "add", "(I)V"⟩
abbrev w_MS_add : List Cond := Cond.code y_MS_add b_MS_add 3 none :: wAll
theorem ac_MS_add : Cond.code y_MS_add b_MS_add 3 none ∈ wAll := a_319
theorem hd_MS_add : y_MS_add.cls ≠ "java/lang/invoke/MethodHandle" ∧ y_MS_add.cls ≠ "java/lang/invoke/VarHandle" ∧ (parseMethodDescriptor y_MS_add.desc).map (fun d => d.parameters.length) = some 1 := by decide +kernel
abbrev b_Net_addNeed : ByteArray := prog_3_method_9_code
def y_Net_addNeed : MethodName := ⟨"CaseNet$Net", "addNeed", "(I)V"⟩
abbrev w_Net_addNeed : List Cond := Cond.code y_Net_addNeed b_Net_addNeed 2 none :: wAll
theorem ac_Net_addNeed : Cond.code y_Net_addNeed b_Net_addNeed 2 none ∈ wAll := a_304
theorem hd_Net_addNeed : y_Net_addNeed.cls ≠ "java/lang/invoke/MethodHandle" ∧ y_Net_addNeed.cls ≠ "java/lang/invoke/VarHandle" ∧ (parseMethodDescriptor y_Net_addNeed.desc).map (fun d => d.parameters.length) = some 1 := by decide +kernel
abbrev b_Long_bitCount : ByteArray := prog_9_method_50_code
def y_Long_bitCount : MethodName := ⟨"java/lang/Long", "bitCount", "(J)I"⟩
abbrev w_Long_bitCount : List Cond := Cond.code y_Long_bitCount b_Long_bitCount 2 (some .int) :: wAll
theorem ac_Long_bitCount : Cond.code y_Long_bitCount b_Long_bitCount 2 (some .int) ∈ wAll := a_326
theorem hd_Long_bitCount : y_Long_bitCount.cls ≠ "java/lang/invoke/MethodHandle" ∧ y_Long_bitCount.cls ≠ "java/lang/invoke/VarHandle" ∧ (parseMethodDescriptor y_Long_bitCount.desc).map (fun d => d.parameters.length) = some 1 := by decide +kernel
abbrev b_MS_draw : ByteArray := prog_2_method_6_code
def y_MS_draw : MethodName := ⟨"CaseNet$MaskSet", "draw", "()I"⟩
abbrev w_MS_draw : List Cond := Cond.code y_MS_draw b_MS_draw 5 (some .int) :: wAll
theorem ac_MS_draw : Cond.code y_MS_draw b_MS_draw 5 (some .int) ∈ wAll := a_323
theorem hd_MS_draw : y_MS_draw.cls ≠ "java/lang/invoke/MethodHandle" ∧ y_MS_draw.cls ≠ "java/lang/invoke/VarHandle" ∧ (parseMethodDescriptor y_MS_draw.desc).map (fun d => d.parameters.length) = some 0 := by decide +kernel
abbrev b_Net_goBackBeforeEnd : ByteArray := prog_3_method_7_code
def y_Net_goBackBeforeEnd : MethodName := ⟨"CaseNet$Net", "goBackBeforeEnd", "(LCaseNet$Task;I)V"⟩
abbrev w_Net_goBackBeforeEnd : List Cond := Cond.code y_Net_goBackBeforeEnd b_Net_goBackBeforeEnd 6 none :: wAll
theorem ac_Net_goBackBeforeEnd : Cond.code y_Net_goBackBeforeEnd b_Net_goBackBeforeEnd 6 none ∈ wAll := a_333
theorem hd_Net_goBackBeforeEnd : y_Net_goBackBeforeEnd.cls ≠ "java/lang/invoke/MethodHandle" ∧ y_Net_goBackBeforeEnd.cls ≠ "java/lang/invoke/VarHandle" ∧ (parseMethodDescriptor y_Net_goBackBeforeEnd.desc).map (fun d => d.parameters.length) = some 2 := by decide +kernel
abbrev b_Net_goBackBeforeBegin : ByteArray := prog_3_method_8_code
def y_Net_goBackBeforeBegin : MethodName := ⟨"CaseNet$Net", "goBackBeforeBegin", "(LCaseNet$Task;I)V"⟩
abbrev w_Net_goBackBeforeBegin : List Cond := Cond.code y_Net_goBackBeforeBegin b_Net_goBackBeforeBegin 5 none :: wAll
theorem ac_Net_goBackBeforeBegin : Cond.code y_Net_goBackBeforeBegin b_Net_goBackBeforeBegin 5 none ∈ wAll := a_337
theorem hd_Net_goBackBeforeBegin : y_Net_goBackBeforeBegin.cls ≠ "java/lang/invoke/MethodHandle" ∧ y_Net_goBackBeforeBegin.cls ≠ "java/lang/invoke/VarHandle" ∧ (parseMethodDescriptor y_Net_goBackBeforeBegin.desc).map (fun d => d.parameters.length) = some 2 := by decide +kernel
abbrev b_Net_findCovering : ByteArray := prog_3_method_6_code
def y_Net_findCovering : MethodName := ⟨"CaseNet$Net", "findCovering", "(III)Z"⟩
abbrev w_Net_findCovering : List Cond := Cond.code y_Net_findCovering b_Net_findCovering 7 (some .boolean) :: wAll
theorem ac_Net_findCovering : Cond.code y_Net_findCovering b_Net_findCovering 7 (some .boolean) ∈ wAll := a_293
theorem hd_Net_findCovering : y_Net_findCovering.cls ≠ "java/lang/invoke/MethodHandle" ∧ y_Net_findCovering.cls ≠ "java/lang/invoke/VarHandle" ∧ (parseMethodDescriptor y_Net_findCovering.desc).map (fun d => d.parameters.length) = some 3 := by decide +kernel
abbrev b_CN_canMoreInputsCome : ByteArray := prog_1_method_25_code
def y_CN_canMoreInputsCome : MethodName := ⟨"CaseNet", "canMoreInputsCome", "(I)Z"⟩
abbrev w_CN_canMoreInputsCome : List Cond := Cond.code y_CN_canMoreInputsCome b_CN_canMoreInputsCome 5 (some .boolean) :: wAll
theorem ac_CN_canMoreInputsCome : Cond.code y_CN_canMoreInputsCome b_CN_canMoreInputsCome 5 (some .boolean) ∈ wAll := a_289
theorem hd_CN_canMoreInputsCome : y_CN_canMoreInputsCome.cls ≠ "java/lang/invoke/MethodHandle" ∧ y_CN_canMoreInputsCome.cls ≠ "java/lang/invoke/VarHandle" ∧ (parseMethodDescriptor y_CN_canMoreInputsCome.desc).map (fun d => d.parameters.length) = some 1 := by decide +kernel
abbrev b_CN_canFire : ByteArray := prog_1_method_24_code
def y_CN_canFire : MethodName := ⟨"CaseNet", "canFire", "(I)Z"⟩
abbrev w_CN_canFire : List Cond := Cond.code y_CN_canFire b_CN_canFire 4 (some .boolean) :: wAll
theorem ac_CN_canFire : Cond.code y_CN_canFire b_CN_canFire 4 (some .boolean) ∈ wAll := a_285
theorem hd_CN_canFire : y_CN_canFire.cls ≠ "java/lang/invoke/MethodHandle" ∧ y_CN_canFire.cls ≠ "java/lang/invoke/VarHandle" ∧ (parseMethodDescriptor y_CN_canFire.desc).map (fun d => d.parameters.length) = some 1 := by decide +kernel
abbrev b_CN_enabled : ByteArray := prog_1_method_8_code
def y_CN_enabled : MethodName := ⟨"CaseNet", "enabled", "()I"⟩
abbrev w_CN_enabled : List Cond := Cond.code y_CN_enabled b_CN_enabled 3 (some .int) :: wAll
theorem ac_CN_enabled : Cond.code y_CN_enabled b_CN_enabled 3 (some .int) ∈ wAll := a_281
theorem hd_CN_enabled : y_CN_enabled.cls ≠ "java/lang/invoke/MethodHandle" ∧ y_CN_enabled.cls ≠ "java/lang/invoke/VarHandle" ∧ (parseMethodDescriptor y_CN_enabled.desc).map (fun d => d.parameters.length) = some 0 := by decide +kernel
abbrev b_Work_hasRoomFor : ByteArray := prog_5_method_3_code
def y_Work_hasRoomFor : MethodName := ⟨"CaseNet$WorkList", "hasRoomFor", "(I)Z"⟩
abbrev w_Work_hasRoomFor : List Cond := Cond.code y_Work_hasRoomFor b_Work_hasRoomFor 2 (some .boolean) :: wAll
theorem ac_Work_hasRoomFor : Cond.code y_Work_hasRoomFor b_Work_hasRoomFor 2 (some .boolean) ∈ wAll := a_345
theorem hd_Work_hasRoomFor : y_Work_hasRoomFor.cls ≠ "java/lang/invoke/MethodHandle" ∧ y_Work_hasRoomFor.cls ≠ "java/lang/invoke/VarHandle" ∧ (parseMethodDescriptor y_Work_hasRoomFor.desc).map (fun d => d.parameters.length) = some 1 := by decide +kernel
abbrev b_Task_inputsUsed : ByteArray := prog_4_method_8_code
def y_Task_inputsUsed : MethodName := ⟨"CaseNet$Task", "inputsUsed", "(I)I"⟩
abbrev w_Task_inputsUsed : List Cond := Cond.code y_Task_inputsUsed b_Task_inputsUsed 3 (some .int) :: wAll
theorem ac_Task_inputsUsed : Cond.code y_Task_inputsUsed b_Task_inputsUsed 3 (some .int) ∈ wAll := a_349
theorem hd_Task_inputsUsed : y_Task_inputsUsed.cls ≠ "java/lang/invoke/MethodHandle" ∧ y_Task_inputsUsed.cls ≠ "java/lang/invoke/VarHandle" ∧ (parseMethodDescriptor y_Task_inputsUsed.desc).map (fun d => d.parameters.length) = some 1 := by decide +kernel
abbrev b_Work_offer : ByteArray := prog_5_method_4_code
def y_Work_offer : MethodName := ⟨"CaseNet$WorkList", "offer", "(III)I"⟩
abbrev w_Work_offer : List Cond := Cond.code y_Work_offer b_Work_offer 6 (some .int) :: wAll
theorem ac_Work_offer : Cond.code y_Work_offer b_Work_offer 6 (some .int) ∈ wAll := a_353
theorem hd_Work_offer : y_Work_offer.cls ≠ "java/lang/invoke/MethodHandle" ∧ y_Work_offer.cls ≠ "java/lang/invoke/VarHandle" ∧ (parseMethodDescriptor y_Work_offer.desc).map (fun d => d.parameters.length) = some 3 := by decide +kernel
abbrev b_CN_fire : ByteArray := prog_1_method_9_code
def y_CN_fire : MethodName := ⟨"CaseNet", "fire", "(I)I"⟩
abbrev w_CN_fire : List Cond := Cond.code y_CN_fire b_CN_fire 3 (some .int) :: wAll
theorem ac_CN_fire : Cond.code y_CN_fire b_CN_fire 3 (some .int) ∈ wAll := a_341
theorem hd_CN_fire : y_CN_fire.cls ≠ "java/lang/invoke/MethodHandle" ∧ y_CN_fire.cls ≠ "java/lang/invoke/VarHandle" ∧ (parseMethodDescriptor y_CN_fire.desc).map (fun d => d.parameters.length) = some 1 := by decide +kernel
abbrev b_Work_has : ByteArray := prog_5_method_2_code
def y_Work_has : MethodName := ⟨"CaseNet$WorkList", "has", "(I)Z"⟩
abbrev w_Work_has : List Cond := Cond.code y_Work_has b_Work_has 2 (some .boolean) :: wAll
theorem ac_Work_has : Cond.code y_Work_has b_Work_has 2 (some .boolean) ∈ wAll := a_361
theorem hd_Work_has : y_Work_has.cls ≠ "java/lang/invoke/MethodHandle" ∧ y_Work_has.cls ≠ "java/lang/invoke/VarHandle" ∧ (parseMethodDescriptor y_Work_has.desc).map (fun d => d.parameters.length) = some 1 := by decide +kernel
abbrev b_CN_start : ByteArray := prog_1_method_10_code
def y_CN_start : MethodName := ⟨"CaseNet", "start", "(I)I"⟩
abbrev w_CN_start : List Cond := Cond.code y_CN_start b_CN_start 2 (some .int) :: wAll
theorem ac_CN_start : Cond.code y_CN_start b_CN_start 2 (some .int) ∈ wAll := a_357
theorem hd_CN_start : y_CN_start.cls ≠ "java/lang/invoke/MethodHandle" ∧ y_CN_start.cls ≠ "java/lang/invoke/VarHandle" ∧ (parseMethodDescriptor y_CN_start.desc).map (fun d => d.parameters.length) = some 1 := by decide +kernel
abbrev b_Work_countCompleted : ByteArray := prog_5_method_7_code
def y_Work_countCompleted : MethodName := ⟨"CaseNet$WorkList", "countCompleted", "(II)I"⟩
abbrev w_Work_countCompleted : List Cond := Cond.code y_Work_countCompleted b_Work_countCompleted 5 (some .int) :: wAll
theorem ac_Work_countCompleted : Cond.code y_Work_countCompleted b_Work_countCompleted 5 (some .int) ∈ wAll := a_369
theorem hd_Work_countCompleted : y_Work_countCompleted.cls ≠ "java/lang/invoke/MethodHandle" ∧ y_Work_countCompleted.cls ≠ "java/lang/invoke/VarHandle" ∧ (parseMethodDescriptor y_Work_countCompleted.desc).map (fun d => d.parameters.length) = some 2 := by decide +kernel
abbrev b_Task_guardHolds : ByteArray := prog_4_method_10_code
def y_Task_guardHolds : MethodName := ⟨"CaseNet$Task", "guardHolds", "(I[I)Z"⟩
abbrev w_Task_guardHolds : List Cond := Cond.code y_Task_guardHolds b_Task_guardHolds 4 (some .boolean) :: wAll
theorem ac_Task_guardHolds : Cond.code y_Task_guardHolds b_Task_guardHolds 4 (some .boolean) ∈ wAll := a_381
theorem hd_Task_guardHolds : y_Task_guardHolds.cls ≠ "java/lang/invoke/MethodHandle" ∧ y_Task_guardHolds.cls ≠ "java/lang/invoke/VarHandle" ∧ (parseMethodDescriptor y_Task_guardHolds.desc).map (fun d => d.parameters.length) = some 2 := by decide +kernel
abbrev b_Task_chosenOutputs : ByteArray := prog_4_method_9_code
def y_Task_chosenOutputs : MethodName := ⟨"CaseNet$Task", "chosenOutputs", "([I)I"⟩
abbrev w_Task_chosenOutputs : List Cond := Cond.code y_Task_chosenOutputs b_Task_chosenOutputs 5 (some .int) :: wAll
theorem ac_Task_chosenOutputs : Cond.code y_Task_chosenOutputs b_Task_chosenOutputs 5 (some .int) ∈ wAll := a_377
theorem hd_Task_chosenOutputs : y_Task_chosenOutputs.cls ≠ "java/lang/invoke/MethodHandle" ∧ y_Task_chosenOutputs.cls ≠ "java/lang/invoke/VarHandle" ∧ (parseMethodDescriptor y_Task_chosenOutputs.desc).map (fun d => d.parameters.length) = some 1 := by decide +kernel
abbrev b_CN_end : ByteArray := prog_1_method_26_code
def y_CN_end : MethodName := ⟨"CaseNet", "end", "(LCaseNet$Task;)V"⟩
abbrev w_CN_end : List Cond := Cond.code y_CN_end b_CN_end 2 none :: wAll
theorem ac_CN_end : Cond.code y_CN_end b_CN_end 2 none ∈ wAll := a_373
theorem hd_CN_end : y_CN_end.cls ≠ "java/lang/invoke/MethodHandle" ∧ y_CN_end.cls ≠ "java/lang/invoke/VarHandle" ∧ (parseMethodDescriptor y_CN_end.desc).map (fun d => d.parameters.length) = some 1 := by decide +kernel
abbrev b_Work_isAnyOpen : ByteArray := prog_5_method_6_code
def y_Work_isAnyOpen : MethodName := ⟨"CaseNet$WorkList", "isAnyOpen", "(II)Z"⟩
abbrev w_Work_isAnyOpen : List Cond := Cond.code y_Work_isAnyOpen b_Work_isAnyOpen 4 (some .boolean) :: wAll
theorem ac_Work_isAnyOpen : Cond.code y_Work_isAnyOpen b_Work_isAnyOpen 4 (some .boolean) ∈ wAll := a_389
theorem hd_Work_isAnyOpen : y_Work_isAnyOpen.cls ≠ "java/lang/invoke/MethodHandle" ∧ y_Work_isAnyOpen.cls ≠ "java/lang/invoke/VarHandle" ∧ (parseMethodDescriptor y_Work_isAnyOpen.desc).map (fun d => d.parameters.length) = some 2 := by decide +kernel
abbrev b_CN_stopIfNoneIsOpen : ByteArray := prog_1_method_29_code
def y_CN_stopIfNoneIsOpen : MethodName := ⟨"CaseNet", "stopIfNoneIsOpen", "(LCaseNet$Task;)Z"⟩
abbrev w_CN_stopIfNoneIsOpen : List Cond := Cond.code y_CN_stopIfNoneIsOpen b_CN_stopIfNoneIsOpen 2 (some .boolean) :: wAll
theorem ac_CN_stopIfNoneIsOpen : Cond.code y_CN_stopIfNoneIsOpen b_CN_stopIfNoneIsOpen 2 (some .boolean) ∈ wAll := a_385
theorem hd_CN_stopIfNoneIsOpen : y_CN_stopIfNoneIsOpen.cls ≠ "java/lang/invoke/MethodHandle" ∧ y_CN_stopIfNoneIsOpen.cls ≠ "java/lang/invoke/VarHandle" ∧ (parseMethodDescriptor y_CN_stopIfNoneIsOpen.desc).map (fun d => d.parameters.length) = some 1 := by decide +kernel
abbrev b_CN_finish : ByteArray := prog_1_method_11_code
def y_CN_finish : MethodName := ⟨"CaseNet", "finish", "(II)I"⟩
abbrev w_CN_finish : List Cond := Cond.code y_CN_finish b_CN_finish 4 (some .int) :: wAll
theorem ac_CN_finish : Cond.code y_CN_finish b_CN_finish 4 (some .int) ∈ wAll := a_365
theorem hd_CN_finish : y_CN_finish.cls ≠ "java/lang/invoke/MethodHandle" ∧ y_CN_finish.cls ≠ "java/lang/invoke/VarHandle" ∧ (parseMethodDescriptor y_CN_finish.desc).map (fun d => d.parameters.length) = some 2 := by decide +kernel
abbrev b_CN_failOpen : ByteArray := prog_1_method_30_code
def y_CN_failOpen : MethodName := ⟨"CaseNet", "failOpen", "(I)Z"⟩
abbrev w_CN_failOpen : List Cond := Cond.code y_CN_failOpen b_CN_failOpen 2 (some .boolean) :: wAll
theorem ac_CN_failOpen : Cond.code y_CN_failOpen b_CN_failOpen 2 (some .boolean) ∈ wAll := a_398
theorem hd_CN_failOpen : y_CN_failOpen.cls ≠ "java/lang/invoke/MethodHandle" ∧ y_CN_failOpen.cls ≠ "java/lang/invoke/VarHandle" ∧ (parseMethodDescriptor y_CN_failOpen.desc).map (fun d => d.parameters.length) = some 1 := by decide +kernel
abbrev b_CN_fail : ByteArray := prog_1_method_12_code
def y_CN_fail : MethodName := ⟨"CaseNet", "fail", "(I)I"⟩
abbrev w_CN_fail : List Cond := Cond.code y_CN_fail b_CN_fail 2 (some .int) :: wAll
theorem ac_CN_fail : Cond.code y_CN_fail b_CN_fail 2 (some .int) ∈ wAll := a_393
theorem hd_CN_fail : y_CN_fail.cls ≠ "java/lang/invoke/MethodHandle" ∧ y_CN_fail.cls ≠ "java/lang/invoke/VarHandle" ∧ (parseMethodDescriptor y_CN_fail.desc).map (fun d => d.parameters.length) = some 1 := by decide +kernel
abbrev b_CN_isOverdue : ByteArray := prog_1_method_31_code
def y_CN_isOverdue : MethodName := ⟨"CaseNet", "isOverdue", "(I)Z"⟩
abbrev w_CN_isOverdue : List Cond := Cond.code y_CN_isOverdue b_CN_isOverdue 3 (some .boolean) :: wAll
theorem ac_CN_isOverdue : Cond.code y_CN_isOverdue b_CN_isOverdue 3 (some .boolean) ∈ wAll := a_406
theorem hd_CN_isOverdue : y_CN_isOverdue.cls ≠ "java/lang/invoke/MethodHandle" ∧ y_CN_isOverdue.cls ≠ "java/lang/invoke/VarHandle" ∧ (parseMethodDescriptor y_CN_isOverdue.desc).map (fun d => d.parameters.length) = some 1 := by decide +kernel
abbrev b_CN_tick : ByteArray := prog_1_method_13_code
def y_CN_tick : MethodName := ⟨"CaseNet", "tick", "(I)I"⟩
abbrev w_CN_tick : List Cond := Cond.code y_CN_tick b_CN_tick 3 (some .int) :: wAll
theorem ac_CN_tick : Cond.code y_CN_tick b_CN_tick 3 (some .int) ∈ wAll := a_402
theorem hd_CN_tick : y_CN_tick.cls ≠ "java/lang/invoke/MethodHandle" ∧ y_CN_tick.cls ≠ "java/lang/invoke/VarHandle" ∧ (parseMethodDescriptor y_CN_tick.desc).map (fun d => d.parameters.length) = some 1 := by decide +kernel
abbrev b_CN_set : ByteArray := prog_1_method_14_code
def y_CN_set : MethodName := ⟨"CaseNet", "set", "(II)Z"⟩
abbrev w_CN_set : List Cond := Cond.code y_CN_set b_CN_set 3 (some .boolean) :: wAll
theorem ac_CN_set : Cond.code y_CN_set b_CN_set 3 (some .boolean) ∈ wAll := a_410
theorem hd_CN_set : y_CN_set.cls ≠ "java/lang/invoke/MethodHandle" ∧ y_CN_set.cls ≠ "java/lang/invoke/VarHandle" ∧ (parseMethodDescriptor y_CN_set.desc).map (fun d => d.parameters.length) = some 2 := by decide +kernel
abbrev b_CN_variable : ByteArray := prog_1_method_15_code
def y_CN_variable : MethodName := ⟨"CaseNet", "variable", "(I)I"⟩
abbrev w_CN_variable : List Cond := Cond.code y_CN_variable b_CN_variable 2 (some .int) :: wAll
theorem ac_CN_variable : Cond.code y_CN_variable b_CN_variable 2 (some .int) ∈ wAll := a_414
theorem hd_CN_variable : y_CN_variable.cls ≠ "java/lang/invoke/MethodHandle" ∧ y_CN_variable.cls ≠ "java/lang/invoke/VarHandle" ∧ (parseMethodDescriptor y_CN_variable.desc).map (fun d => d.parameters.length) = some 1 := by decide +kernel
abbrev b_CN_marking : ByteArray := prog_1_method_16_code
def y_CN_marking : MethodName := ⟨"CaseNet", "marking", "()I"⟩
abbrev w_CN_marking : List Cond := Cond.code y_CN_marking b_CN_marking 1 (some .int) :: wAll
theorem ac_CN_marking : Cond.code y_CN_marking b_CN_marking 1 (some .int) ∈ wAll := a_418
theorem hd_CN_marking : y_CN_marking.cls ≠ "java/lang/invoke/MethodHandle" ∧ y_CN_marking.cls ≠ "java/lang/invoke/VarHandle" ∧ (parseMethodDescriptor y_CN_marking.desc).map (fun d => d.parameters.length) = some 0 := by decide +kernel
abbrev b_CN_item : ByteArray := prog_1_method_17_code
def y_CN_item : MethodName := ⟨"CaseNet", "item", "(II)I"⟩
abbrev w_CN_item : List Cond := Cond.code y_CN_item b_CN_item 3 (some .int) :: wAll
theorem ac_CN_item : Cond.code y_CN_item b_CN_item 3 (some .int) ∈ wAll := a_422
theorem hd_CN_item : y_CN_item.cls ≠ "java/lang/invoke/MethodHandle" ∧ y_CN_item.cls ≠ "java/lang/invoke/VarHandle" ∧ (parseMethodDescriptor y_CN_item.desc).map (fun d => d.parameters.length) = some 2 := by decide +kernel
abbrev b_CN_covers : ByteArray := prog_1_method_18_code
def y_CN_covers : MethodName := ⟨"CaseNet", "covers", "(III)I"⟩
abbrev w_CN_covers : List Cond := Cond.code y_CN_covers b_CN_covers 4 (some .int) :: wAll
theorem ac_CN_covers : Cond.code y_CN_covers b_CN_covers 4 (some .int) ∈ wAll := a_426
theorem hd_CN_covers : y_CN_covers.cls ≠ "java/lang/invoke/MethodHandle" ∧ y_CN_covers.cls ≠ "java/lang/invoke/VarHandle" ∧ (parseMethodDescriptor y_CN_covers.desc).map (fun d => d.parameters.length) = some 3 := by decide +kernel
abbrev b_Net_hasJoinSome : ByteArray := prog_3_method_5_code
def y_Net_hasJoinSome : MethodName := ⟨"CaseNet$Net", "hasJoinSome", "()Z"⟩
abbrev w_Net_hasJoinSome : List Cond := Cond.code y_Net_hasJoinSome b_Net_hasJoinSome 2 (some .boolean) :: wAll
theorem ac_Net_hasJoinSome : Cond.code y_Net_hasJoinSome b_Net_hasJoinSome 2 (some .boolean) ∈ wAll := a_439
theorem hd_Net_hasJoinSome : y_Net_hasJoinSome.cls ≠ "java/lang/invoke/MethodHandle" ∧ y_Net_hasJoinSome.cls ≠ "java/lang/invoke/VarHandle" ∧ (parseMethodDescriptor y_Net_hasJoinSome.desc).map (fun d => d.parameters.length) = some 0 := by decide +kernel
abbrev b_Net_addReached : ByteArray := prog_3_method_13_code
def y_Net_addReached : MethodName := ⟨"CaseNet$Net", "addReached", "(I)V"⟩
abbrev w_Net_addReached : List Cond := Cond.code y_Net_addReached b_Net_addReached 2 none :: wAll
theorem ac_Net_addReached : Cond.code y_Net_addReached b_Net_addReached 2 none ∈ wAll := a_447
theorem hd_Net_addReached : y_Net_addReached.cls ≠ "java/lang/invoke/MethodHandle" ∧ y_Net_addReached.cls ≠ "java/lang/invoke/VarHandle" ∧ (parseMethodDescriptor y_Net_addReached.desc).map (fun d => d.parameters.length) = some 1 := by decide +kernel
abbrev b_Net_goOnByBegin : ByteArray := prog_3_method_11_code
def y_Net_goOnByBegin : MethodName := ⟨"CaseNet$Net", "goOnByBegin", "(II)V"⟩
abbrev w_Net_goOnByBegin : List Cond := Cond.code y_Net_goOnByBegin b_Net_goOnByBegin 6 none :: wAll
theorem ac_Net_goOnByBegin : Cond.code y_Net_goOnByBegin b_Net_goOnByBegin 6 none ∈ wAll := a_451
theorem hd_Net_goOnByBegin : y_Net_goOnByBegin.cls ≠ "java/lang/invoke/MethodHandle" ∧ y_Net_goOnByBegin.cls ≠ "java/lang/invoke/VarHandle" ∧ (parseMethodDescriptor y_Net_goOnByBegin.desc).map (fun d => d.parameters.length) = some 2 := by decide +kernel
abbrev b_Net_goOnByEnd : ByteArray := prog_3_method_12_code
def y_Net_goOnByEnd : MethodName := ⟨"CaseNet$Net", "goOnByEnd", "(LCaseNet$Task;I)V"⟩
abbrev w_Net_goOnByEnd : List Cond := Cond.code y_Net_goOnByEnd b_Net_goOnByEnd 5 none :: wAll
theorem ac_Net_goOnByEnd : Cond.code y_Net_goOnByEnd b_Net_goOnByEnd 5 none ∈ wAll := a_455
theorem hd_Net_goOnByEnd : y_Net_goOnByEnd.cls ≠ "java/lang/invoke/MethodHandle" ∧ y_Net_goOnByEnd.cls ≠ "java/lang/invoke/VarHandle" ∧ (parseMethodDescriptor y_Net_goOnByEnd.desc).map (fun d => d.parameters.length) = some 2 := by decide +kernel
abbrev b_Net_reachFromStart : ByteArray := prog_3_method_10_code
def y_Net_reachFromStart : MethodName := ⟨"CaseNet$Net", "reachFromStart", "()V"⟩
abbrev w_Net_reachFromStart : List Cond := Cond.code y_Net_reachFromStart b_Net_reachFromStart 4 none :: wAll
theorem ac_Net_reachFromStart : Cond.code y_Net_reachFromStart b_Net_reachFromStart 4 none ∈ wAll := a_443
theorem hd_Net_reachFromStart : y_Net_reachFromStart.cls ≠ "java/lang/invoke/MethodHandle" ∧ y_Net_reachFromStart.cls ≠ "java/lang/invoke/VarHandle" ∧ (parseMethodDescriptor y_Net_reachFromStart.desc).map (fun d => d.parameters.length) = some 0 := by decide +kernel
abbrev b_MS_isWithin : ByteArray := prog_2_method_7_code
def y_MS_isWithin : MethodName := ⟨"CaseNet$MaskSet", "isWithin", "(LCaseNet$MaskSet;)Z"⟩
abbrev w_MS_isWithin : List Cond := Cond.code y_MS_isWithin b_MS_isWithin 3 (some .boolean) :: wAll
theorem ac_MS_isWithin : Cond.code y_MS_isWithin b_MS_isWithin 3 (some .boolean) ∈ wAll := a_460
theorem hd_MS_isWithin : y_MS_isWithin.cls ≠ "java/lang/invoke/MethodHandle" ∧ y_MS_isWithin.cls ≠ "java/lang/invoke/VarHandle" ∧ (parseMethodDescriptor y_MS_isWithin.desc).map (fun d => d.parameters.length) = some 1 := by decide +kernel
abbrev b_Net_judge : ByteArray := prog_3_method_4_code
def y_Net_judge : MethodName := ⟨"CaseNet$Net", "judge", "()I"⟩
abbrev w_Net_judge : List Cond := Cond.code y_Net_judge b_Net_judge 2 (some .int) :: wAll
theorem ac_Net_judge : Cond.code y_Net_judge b_Net_judge 2 (some .int) ∈ wAll := a_434
theorem hd_Net_judge : y_Net_judge.cls ≠ "java/lang/invoke/MethodHandle" ∧ y_Net_judge.cls ≠ "java/lang/invoke/VarHandle" ∧ (parseMethodDescriptor y_Net_judge.desc).map (fun d => d.parameters.length) = some 0 := by decide +kernel
abbrev b_CN_verdict : ByteArray := prog_1_method_19_code
def y_CN_verdict : MethodName := ⟨"CaseNet", "verdict", "()I"⟩
abbrev w_CN_verdict : List Cond := Cond.code y_CN_verdict b_CN_verdict 1 (some .int) :: wAll
theorem ac_CN_verdict : Cond.code y_CN_verdict b_CN_verdict 1 (some .int) ∈ wAll := a_430
theorem hd_CN_verdict : y_CN_verdict.cls ≠ "java/lang/invoke/MethodHandle" ∧ y_CN_verdict.cls ≠ "java/lang/invoke/VarHandle" ∧ (parseMethodDescriptor y_CN_verdict.desc).map (fun d => d.parameters.length) = some 0 := by decide +kernel
abbrev b_Md_isTask : ByteArray := prog_7_method_2_code
def y_Md_isTask : MethodName := ⟨"CaseNetModel", "isTask", "(I)Z"⟩
abbrev w_Md_isTask : List Cond := Cond.code y_Md_isTask b_Md_isTask 1 (some .boolean) :: wAll
theorem ac_Md_isTask : Cond.code y_Md_isTask b_Md_isTask 1 (some .boolean) ∈ wAll := a_559
theorem hd_Md_isTask : y_Md_isTask.cls ≠ "java/lang/invoke/MethodHandle" ∧ y_Md_isTask.cls ≠ "java/lang/invoke/VarHandle" ∧ (parseMethodDescriptor y_Md_isTask.desc).map (fun d => d.parameters.length) = some 1 := by decide +kernel
abbrev b_Md_isDefined : ByteArray := prog_7_method_3_code
def y_Md_isDefined : MethodName := ⟨"CaseNetModel", "isDefined", "(I)Z"⟩
abbrev w_Md_isDefined : List Cond := Cond.code y_Md_isDefined b_Md_isDefined 2 (some .boolean) :: wAll
theorem ac_Md_isDefined : Cond.code y_Md_isDefined b_Md_isDefined 2 (some .boolean) ∈ wAll := a_572
theorem hd_Md_isDefined : y_Md_isDefined.cls ≠ "java/lang/invoke/MethodHandle" ∧ y_Md_isDefined.cls ≠ "java/lang/invoke/VarHandle" ∧ (parseMethodDescriptor y_Md_isDefined.desc).map (fun d => d.parameters.length) = some 1 := by decide +kernel
abbrev b_Md_isPlaces : ByteArray := prog_7_method_4_code
def y_Md_isPlaces : MethodName := ⟨"CaseNetModel", "isPlaces", "(I)Z"⟩
abbrev w_Md_isPlaces : List Cond := Cond.code y_Md_isPlaces b_Md_isPlaces 1 (some .boolean) :: wAll
theorem ac_Md_isPlaces : Cond.code y_Md_isPlaces b_Md_isPlaces 1 (some .boolean) ∈ wAll := a_575
theorem hd_Md_isPlaces : y_Md_isPlaces.cls ≠ "java/lang/invoke/MethodHandle" ∧ y_Md_isPlaces.cls ≠ "java/lang/invoke/VarHandle" ∧ (parseMethodDescriptor y_Md_isPlaces.desc).map (fun d => d.parameters.length) = some 1 := by decide +kernel
abbrev b_Md_count : ByteArray := prog_7_method_5_code
def y_Md_count : MethodName := ⟨"CaseNetModel", "count", "(I)I"⟩
abbrev w_Md_count : List Cond := Cond.code y_Md_count b_Md_count 3 (some .int) :: wAll
theorem ac_Md_count : Cond.code y_Md_count b_Md_count 3 (some .int) ∈ wAll := a_562
theorem hd_Md_count : y_Md_count.cls ≠ "java/lang/invoke/MethodHandle" ∧ y_Md_count.cls ≠ "java/lang/invoke/VarHandle" ∧ (parseMethodDescriptor y_Md_count.desc).map (fun d => d.parameters.length) = some 1 := by decide +kernel
abbrev b_Md_runs : ByteArray := prog_7_method_6_code
def y_Md_runs : MethodName := ⟨"CaseNetModel", "runs", "(I)Z"⟩
abbrev w_Md_runs : List Cond := Cond.code y_Md_runs b_Md_runs 2 (some .boolean) :: wAll
theorem ac_Md_runs : Cond.code y_Md_runs b_Md_runs 2 (some .boolean) ∈ wAll := a_619
theorem hd_Md_runs : y_Md_runs.cls ≠ "java/lang/invoke/MethodHandle" ∧ y_Md_runs.cls ≠ "java/lang/invoke/VarHandle" ∧ (parseMethodDescriptor y_Md_runs.desc).map (fun d => d.parameters.length) = some 1 := by decide +kernel
abbrev b_Md_task : ByteArray := prog_7_method_7_code
def y_Md_task : MethodName := ⟨"CaseNetModel", "task", "(IIIII)Z"⟩
abbrev w_Md_task : List Cond := Cond.code y_Md_task b_Md_task 9 (some .boolean) :: wAll
theorem ac_Md_task : Cond.code y_Md_task b_Md_task 9 (some .boolean) ∈ wAll := a_556
theorem hd_Md_task : y_Md_task.cls ≠ "java/lang/invoke/MethodHandle" ∧ y_Md_task.cls ≠ "java/lang/invoke/VarHandle" ∧ (parseMethodDescriptor y_Md_task.desc).map (fun d => d.parameters.length) = some 5 := by decide +kernel
abbrev b_Md_region : ByteArray := prog_7_method_8_code
def y_Md_region : MethodName := ⟨"CaseNetModel", "region", "(II)Z"⟩
abbrev w_Md_region : List Cond := Cond.code y_Md_region b_Md_region 3 (some .boolean) :: wAll
theorem ac_Md_region : Cond.code y_Md_region b_Md_region 3 (some .boolean) ∈ wAll := a_568
theorem hd_Md_region : y_Md_region.cls ≠ "java/lang/invoke/MethodHandle" ∧ y_Md_region.cls ≠ "java/lang/invoke/VarHandle" ∧ (parseMethodDescriptor y_Md_region.desc).map (fun d => d.parameters.length) = some 2 := by decide +kernel
abbrev b_Md_guard : ByteArray := prog_7_method_9_code
def y_Md_guard : MethodName := ⟨"CaseNetModel", "guard", "(IIIII)Z"⟩
abbrev w_Md_guard : List Cond := Cond.code y_Md_guard b_Md_guard 6 (some .boolean) :: wAll
theorem ac_Md_guard : Cond.code y_Md_guard b_Md_guard 6 (some .boolean) ∈ wAll := a_579
theorem hd_Md_guard : y_Md_guard.cls ≠ "java/lang/invoke/MethodHandle" ∧ y_Md_guard.cls ≠ "java/lang/invoke/VarHandle" ∧ (parseMethodDescriptor y_Md_guard.desc).map (fun d => d.parameters.length) = some 5 := by decide +kernel
abbrev b_Md_items : ByteArray := prog_7_method_10_code
def y_Md_items : MethodName := ⟨"CaseNetModel", "items", "(IIIII)Z"⟩
abbrev w_Md_items : List Cond := Cond.code y_Md_items b_Md_items 6 (some .boolean) :: wAll
theorem ac_Md_items : Cond.code y_Md_items b_Md_items 6 (some .boolean) ∈ wAll := a_583
theorem hd_Md_items : y_Md_items.cls ≠ "java/lang/invoke/MethodHandle" ∧ y_Md_items.cls ≠ "java/lang/invoke/VarHandle" ∧ (parseMethodDescriptor y_Md_items.desc).map (fun d => d.parameters.length) = some 5 := by decide +kernel
abbrev b_Md_isAny : ByteArray := prog_7_method_11_code
def y_Md_isAny : MethodName := ⟨"CaseNetModel", "isAny", "()Z"⟩
abbrev w_Md_isAny : List Cond := Cond.code y_Md_isAny b_Md_isAny 3 (some .boolean) :: wAll
theorem ac_Md_isAny : Cond.code y_Md_isAny b_Md_isAny 3 (some .boolean) ∈ wAll := a_611
theorem hd_Md_isAny : y_Md_isAny.cls ≠ "java/lang/invoke/MethodHandle" ∧ y_Md_isAny.cls ≠ "java/lang/invoke/VarHandle" ∧ (parseMethodDescriptor y_Md_isAny.desc).map (fun d => d.parameters.length) = some 0 := by decide +kernel
abbrev b_Md_outputs : ByteArray := prog_7_method_12_code
def y_Md_outputs : MethodName := ⟨"CaseNetModel", "outputs", "(II)I"⟩
abbrev w_Md_outputs : List Cond := Cond.code y_Md_outputs b_Md_outputs 5 (some .int) :: wAll
theorem ac_Md_outputs : Cond.code y_Md_outputs b_Md_outputs 5 (some .int) ∈ wAll := a_603
theorem hd_Md_outputs : y_Md_outputs.cls ≠ "java/lang/invoke/MethodHandle" ∧ y_Md_outputs.cls ≠ "java/lang/invoke/VarHandle" ∧ (parseMethodDescriptor y_Md_outputs.desc).map (fun d => d.parameters.length) = some 2 := by decide +kernel
abbrev b_Md_after : ByteArray := prog_7_method_13_code
def y_Md_after : MethodName := ⟨"CaseNetModel", "after", "(III)I"⟩
abbrev w_Md_after : List Cond := Cond.code y_Md_after b_Md_after 8 (some .int) :: wAll
theorem ac_Md_after : Cond.code y_Md_after b_Md_after 8 (some .int) ∈ wAll := a_599
theorem hd_Md_after : y_Md_after.cls ≠ "java/lang/invoke/MethodHandle" ∧ y_Md_after.cls ≠ "java/lang/invoke/VarHandle" ∧ (parseMethodDescriptor y_Md_after.desc).map (fun d => d.parameters.length) = some 3 := by decide +kernel
abbrev b_Md_meet : ByteArray := prog_7_method_14_code
def y_Md_meet : MethodName := ⟨"CaseNetModel", "meet", "(I)V"⟩
abbrev w_Md_meet : List Cond := Cond.code y_Md_meet b_Md_meet 2 none :: wAll
theorem ac_Md_meet : Cond.code y_Md_meet b_Md_meet 2 none ∈ wAll := a_595
theorem hd_Md_meet : y_Md_meet.cls ≠ "java/lang/invoke/MethodHandle" ∧ y_Md_meet.cls ≠ "java/lang/invoke/VarHandle" ∧ (parseMethodDescriptor y_Md_meet.desc).map (fun d => d.parameters.length) = some 1 := by decide +kernel
abbrev b_Md_search : ByteArray := prog_7_method_15_code
def y_Md_search : MethodName := ⟨"CaseNetModel", "search", "(III)Z"⟩
abbrev w_Md_search : List Cond := Cond.code y_Md_search b_Md_search 9 (some .boolean) :: wAll
theorem ac_Md_search : Cond.code y_Md_search b_Md_search 9 (some .boolean) ∈ wAll := a_591
theorem hd_Md_search : y_Md_search.cls ≠ "java/lang/invoke/MethodHandle" ∧ y_Md_search.cls ≠ "java/lang/invoke/VarHandle" ∧ (parseMethodDescriptor y_Md_search.desc).map (fun d => d.parameters.length) = some 3 := by decide +kernel
abbrev b_Md_covers : ByteArray := prog_7_method_16_code
def y_Md_covers : MethodName := ⟨"CaseNetModel", "covers", "(III)I"⟩
abbrev w_Md_covers : List Cond := Cond.code y_Md_covers b_Md_covers 4 (some .int) :: wAll
theorem ac_Md_covers : Cond.code y_Md_covers b_Md_covers 4 (some .int) ∈ wAll := a_587
theorem hd_Md_covers : y_Md_covers.cls ≠ "java/lang/invoke/MethodHandle" ∧ y_Md_covers.cls ≠ "java/lang/invoke/VarHandle" ∧ (parseMethodDescriptor y_Md_covers.desc).map (fun d => d.parameters.length) = some 3 := by decide +kernel
abbrev b_Md_launch : ByteArray := prog_7_method_17_code
def y_Md_launch : MethodName := ⟨"CaseNetModel", "launch", "()Z"⟩
abbrev w_Md_launch : List Cond := Cond.code y_Md_launch b_Md_launch 1 (some .boolean) :: wAll
theorem ac_Md_launch : Cond.code y_Md_launch b_Md_launch 1 (some .boolean) ∈ wAll := a_607
theorem hd_Md_launch : y_Md_launch.cls ≠ "java/lang/invoke/MethodHandle" ∧ y_Md_launch.cls ≠ "java/lang/invoke/VarHandle" ∧ (parseMethodDescriptor y_Md_launch.desc).map (fun d => d.parameters.length) = some 0 := by decide +kernel
abbrev b_Md_stop : ByteArray := prog_7_method_18_code
def y_Md_stop : MethodName := ⟨"CaseNetModel", "stop", "(I)V"⟩
abbrev w_Md_stop : List Cond := Cond.code y_Md_stop b_Md_stop 3 none :: wAll
theorem ac_Md_stop : Cond.code y_Md_stop b_Md_stop 3 none ∈ wAll := a_623
theorem hd_Md_stop : y_Md_stop.cls ≠ "java/lang/invoke/MethodHandle" ∧ y_Md_stop.cls ≠ "java/lang/invoke/VarHandle" ∧ (parseMethodDescriptor y_Md_stop.desc).map (fun d => d.parameters.length) = some 1 := by decide +kernel
abbrev b_Md_cancel : ByteArray := prog_7_method_19_code
def y_Md_cancel : MethodName := ⟨"CaseNetModel", "cancel", "()Z"⟩
abbrev w_Md_cancel : List Cond := Cond.code y_Md_cancel b_Md_cancel 2 (some .boolean) :: wAll
theorem ac_Md_cancel : Cond.code y_Md_cancel b_Md_cancel 2 (some .boolean) ∈ wAll := a_615
theorem hd_Md_cancel : y_Md_cancel.cls ≠ "java/lang/invoke/MethodHandle" ∧ y_Md_cancel.cls ≠ "java/lang/invoke/VarHandle" ∧ (parseMethodDescriptor y_Md_cancel.desc).map (fun d => d.parameters.length) = some 0 := by decide +kernel
abbrev b_Md_isLast : ByteArray := prog_7_method_20_code
def y_Md_isLast : MethodName := ⟨"CaseNetModel", "isLast", "(I)Z"⟩
abbrev w_Md_isLast : List Cond := Cond.code y_Md_isLast b_Md_isLast 5 (some .boolean) :: wAll
theorem ac_Md_isLast : Cond.code y_Md_isLast b_Md_isLast 5 (some .boolean) ∈ wAll := a_635
theorem hd_Md_isLast : y_Md_isLast.cls ≠ "java/lang/invoke/MethodHandle" ∧ y_Md_isLast.cls ≠ "java/lang/invoke/VarHandle" ∧ (parseMethodDescriptor y_Md_isLast.desc).map (fun d => d.parameters.length) = some 1 := by decide +kernel
abbrev b_Md_isEnabled : ByteArray := prog_7_method_21_code
def y_Md_isEnabled : MethodName := ⟨"CaseNetModel", "isEnabled", "(I)Z"⟩
abbrev w_Md_isEnabled : List Cond := Cond.code y_Md_isEnabled b_Md_isEnabled 3 (some .boolean) :: wAll
theorem ac_Md_isEnabled : Cond.code y_Md_isEnabled b_Md_isEnabled 3 (some .boolean) ∈ wAll := a_631
theorem hd_Md_isEnabled : y_Md_isEnabled.cls ≠ "java/lang/invoke/MethodHandle" ∧ y_Md_isEnabled.cls ≠ "java/lang/invoke/VarHandle" ∧ (parseMethodDescriptor y_Md_isEnabled.desc).map (fun d => d.parameters.length) = some 1 := by decide +kernel
abbrev b_Md_enabled : ByteArray := prog_7_method_22_code
def y_Md_enabled : MethodName := ⟨"CaseNetModel", "enabled", "()I"⟩
abbrev w_Md_enabled : List Cond := Cond.code y_Md_enabled b_Md_enabled 3 (some .int) :: wAll
theorem ac_Md_enabled : Cond.code y_Md_enabled b_Md_enabled 3 (some .int) ∈ wAll := a_627
theorem hd_Md_enabled : y_Md_enabled.cls ≠ "java/lang/invoke/MethodHandle" ∧ y_Md_enabled.cls ≠ "java/lang/invoke/VarHandle" ∧ (parseMethodDescriptor y_Md_enabled.desc).map (fun d => d.parameters.length) = some 0 := by decide +kernel
abbrev b_Md_fire : ByteArray := prog_7_method_23_code
def y_Md_fire : MethodName := ⟨"CaseNetModel", "fire", "(I)I"⟩
abbrev w_Md_fire : List Cond := Cond.code y_Md_fire b_Md_fire 4 (some .int) :: wAll
theorem ac_Md_fire : Cond.code y_Md_fire b_Md_fire 4 (some .int) ∈ wAll := a_639
theorem hd_Md_fire : y_Md_fire.cls ≠ "java/lang/invoke/MethodHandle" ∧ y_Md_fire.cls ≠ "java/lang/invoke/VarHandle" ∧ (parseMethodDescriptor y_Md_fire.desc).map (fun d => d.parameters.length) = some 1 := by decide +kernel
abbrev b_Md_isItem : ByteArray := prog_7_method_24_code
def y_Md_isItem : MethodName := ⟨"CaseNetModel", "isItem", "(I)Z"⟩
abbrev w_Md_isItem : List Cond := Cond.code y_Md_isItem b_Md_isItem 2 (some .boolean) :: wAll
theorem ac_Md_isItem : Cond.code y_Md_isItem b_Md_isItem 2 (some .boolean) ∈ wAll := a_647
theorem hd_Md_isItem : y_Md_isItem.cls ≠ "java/lang/invoke/MethodHandle" ∧ y_Md_isItem.cls ≠ "java/lang/invoke/VarHandle" ∧ (parseMethodDescriptor y_Md_isItem.desc).map (fun d => d.parameters.length) = some 1 := by decide +kernel
abbrev b_Md_inState : ByteArray := prog_7_method_25_code
def y_Md_inState : MethodName := ⟨"CaseNetModel", "inState", "(III)I"⟩
abbrev w_Md_inState : List Cond := Cond.code y_Md_inState b_Md_inState 6 (some .int) :: wAll
theorem ac_Md_inState : Cond.code y_Md_inState b_Md_inState 6 (some .int) ∈ wAll := a_655
theorem hd_Md_inState : y_Md_inState.cls ≠ "java/lang/invoke/MethodHandle" ∧ y_Md_inState.cls ≠ "java/lang/invoke/VarHandle" ∧ (parseMethodDescriptor y_Md_inState.desc).map (fun d => d.parameters.length) = some 3 := by decide +kernel
abbrev b_Md_end : ByteArray := prog_7_method_26_code
def y_Md_end : MethodName := ⟨"CaseNetModel", "end", "(I)V"⟩
abbrev w_Md_end : List Cond := Cond.code y_Md_end b_Md_end 6 none :: wAll
theorem ac_Md_end : Cond.code y_Md_end b_Md_end 6 none ∈ wAll := a_659
theorem hd_Md_end : y_Md_end.cls ≠ "java/lang/invoke/MethodHandle" ∧ y_Md_end.cls ≠ "java/lang/invoke/VarHandle" ∧ (parseMethodDescriptor y_Md_end.desc).map (fun d => d.parameters.length) = some 1 := by decide +kernel
abbrev b_Md_start : ByteArray := prog_7_method_27_code
def y_Md_start : MethodName := ⟨"CaseNetModel", "start", "(I)I"⟩
abbrev w_Md_start : List Cond := Cond.code y_Md_start b_Md_start 2 (some .int) :: wAll
theorem ac_Md_start : Cond.code y_Md_start b_Md_start 2 (some .int) ∈ wAll := a_643
theorem hd_Md_start : y_Md_start.cls ≠ "java/lang/invoke/MethodHandle" ∧ y_Md_start.cls ≠ "java/lang/invoke/VarHandle" ∧ (parseMethodDescriptor y_Md_start.desc).map (fun d => d.parameters.length) = some 1 := by decide +kernel
abbrev b_Md_finish : ByteArray := prog_7_method_28_code
def y_Md_finish : MethodName := ⟨"CaseNetModel", "finish", "(II)I"⟩
abbrev w_Md_finish : List Cond := Cond.code y_Md_finish b_Md_finish 4 (some .int) :: wAll
theorem ac_Md_finish : Cond.code y_Md_finish b_Md_finish 4 (some .int) ∈ wAll := a_651
theorem hd_Md_finish : y_Md_finish.cls ≠ "java/lang/invoke/MethodHandle" ∧ y_Md_finish.cls ≠ "java/lang/invoke/VarHandle" ∧ (parseMethodDescriptor y_Md_finish.desc).map (fun d => d.parameters.length) = some 2 := by decide +kernel
abbrev b_Md_failed : ByteArray := prog_7_method_29_code
def y_Md_failed : MethodName := ⟨"CaseNetModel", "failed", "(I)I"⟩
abbrev w_Md_failed : List Cond := Cond.code y_Md_failed b_Md_failed 3 (some .int) :: wAll
theorem ac_Md_failed : Cond.code y_Md_failed b_Md_failed 3 (some .int) ∈ wAll := a_667
theorem hd_Md_failed : y_Md_failed.cls ≠ "java/lang/invoke/MethodHandle" ∧ y_Md_failed.cls ≠ "java/lang/invoke/VarHandle" ∧ (parseMethodDescriptor y_Md_failed.desc).map (fun d => d.parameters.length) = some 1 := by decide +kernel
abbrev b_Md_fail : ByteArray := prog_7_method_30_code
def y_Md_fail : MethodName := ⟨"CaseNetModel", "fail", "(I)I"⟩
abbrev w_Md_fail : List Cond := Cond.code y_Md_fail b_Md_fail 2 (some .int) :: wAll
theorem ac_Md_fail : Cond.code y_Md_fail b_Md_fail 2 (some .int) ∈ wAll := a_663
theorem hd_Md_fail : y_Md_fail.cls ≠ "java/lang/invoke/MethodHandle" ∧ y_Md_fail.cls ≠ "java/lang/invoke/VarHandle" ∧ (parseMethodDescriptor y_Md_fail.desc).map (fun d => d.parameters.length) = some 1 := by decide +kernel
abbrev b_Md_tick : ByteArray := prog_7_method_31_code
def y_Md_tick : MethodName := ⟨"CaseNetModel", "tick", "(I)I"⟩
abbrev w_Md_tick : List Cond := Cond.code y_Md_tick b_Md_tick 4 (some .int) :: wAll
theorem ac_Md_tick : Cond.code y_Md_tick b_Md_tick 4 (some .int) ∈ wAll := a_671
theorem hd_Md_tick : y_Md_tick.cls ≠ "java/lang/invoke/MethodHandle" ∧ y_Md_tick.cls ≠ "java/lang/invoke/VarHandle" ∧ (parseMethodDescriptor y_Md_tick.desc).map (fun d => d.parameters.length) = some 1 := by decide +kernel
abbrev b_Md_set : ByteArray := prog_7_method_32_code
def y_Md_set : MethodName := ⟨"CaseNetModel", "set", "(II)Z"⟩
abbrev w_Md_set : List Cond := Cond.code y_Md_set b_Md_set 3 (some .boolean) :: wAll
theorem ac_Md_set : Cond.code y_Md_set b_Md_set 3 (some .boolean) ∈ wAll := a_675
theorem hd_Md_set : y_Md_set.cls ≠ "java/lang/invoke/MethodHandle" ∧ y_Md_set.cls ≠ "java/lang/invoke/VarHandle" ∧ (parseMethodDescriptor y_Md_set.desc).map (fun d => d.parameters.length) = some 2 := by decide +kernel
abbrev b_Md_variable : ByteArray := prog_7_method_33_code
def y_Md_variable : MethodName := ⟨"CaseNetModel", "variable", "(I)I"⟩
abbrev w_Md_variable : List Cond := Cond.code y_Md_variable b_Md_variable 2 (some .int) :: wAll
theorem ac_Md_variable : Cond.code y_Md_variable b_Md_variable 2 (some .int) ∈ wAll := a_679
theorem hd_Md_variable : y_Md_variable.cls ≠ "java/lang/invoke/MethodHandle" ∧ y_Md_variable.cls ≠ "java/lang/invoke/VarHandle" ∧ (parseMethodDescriptor y_Md_variable.desc).map (fun d => d.parameters.length) = some 1 := by decide +kernel
abbrev b_Md_marking : ByteArray := prog_7_method_34_code
def y_Md_marking : MethodName := ⟨"CaseNetModel", "marking", "()I"⟩
abbrev w_Md_marking : List Cond := Cond.code y_Md_marking b_Md_marking 1 (some .int) :: wAll
theorem ac_Md_marking : Cond.code y_Md_marking b_Md_marking 1 (some .int) ∈ wAll := a_683
theorem hd_Md_marking : y_Md_marking.cls ≠ "java/lang/invoke/MethodHandle" ∧ y_Md_marking.cls ≠ "java/lang/invoke/VarHandle" ∧ (parseMethodDescriptor y_Md_marking.desc).map (fun d => d.parameters.length) = some 0 := by decide +kernel
abbrev b_Md_item : ByteArray := prog_7_method_35_code
def y_Md_item : MethodName := ⟨"CaseNetModel", "item", "(II)I"⟩
abbrev w_Md_item : List Cond := Cond.code y_Md_item b_Md_item 3 (some .int) :: wAll
theorem ac_Md_item : Cond.code y_Md_item b_Md_item 3 (some .int) ∈ wAll := a_687
theorem hd_Md_item : y_Md_item.cls ≠ "java/lang/invoke/MethodHandle" ∧ y_Md_item.cls ≠ "java/lang/invoke/VarHandle" ∧ (parseMethodDescriptor y_Md_item.desc).map (fun d => d.parameters.length) = some 2 := by decide +kernel
abbrev b_Md_isGood : ByteArray := prog_7_method_36_code
def y_Md_isGood : MethodName := ⟨"CaseNetModel", "isGood", "(I)Z"⟩
abbrev w_Md_isGood : List Cond := Cond.code y_Md_isGood b_Md_isGood 2 (some .boolean) :: wAll
theorem ac_Md_isGood : Cond.code y_Md_isGood b_Md_isGood 2 (some .boolean) ∈ wAll := a_703
theorem hd_Md_isGood : y_Md_isGood.cls ≠ "java/lang/invoke/MethodHandle" ∧ y_Md_isGood.cls ≠ "java/lang/invoke/VarHandle" ∧ (parseMethodDescriptor y_Md_isGood.desc).map (fun d => d.parameters.length) = some 1 := by decide +kernel
abbrev b_Md_leads : ByteArray := prog_7_method_37_code
def y_Md_leads : MethodName := ⟨"CaseNetModel", "leads", "(I)Z"⟩
abbrev w_Md_leads : List Cond := Cond.code y_Md_leads b_Md_leads 5 (some .boolean) :: wAll
theorem ac_Md_leads : Cond.code y_Md_leads b_Md_leads 5 (some .boolean) ∈ wAll := a_707
theorem hd_Md_leads : y_Md_leads.cls ≠ "java/lang/invoke/MethodHandle" ∧ y_Md_leads.cls ≠ "java/lang/invoke/VarHandle" ∧ (parseMethodDescriptor y_Md_leads.desc).map (fun d => d.parameters.length) = some 1 := by decide +kernel
abbrev b_Md_allEnd : ByteArray := prog_7_method_38_code
def y_Md_allEnd : MethodName := ⟨"CaseNetModel", "allEnd", "()Z"⟩
abbrev w_Md_allEnd : List Cond := Cond.code y_Md_allEnd b_Md_allEnd 5 (some .boolean) :: wAll
theorem ac_Md_allEnd : Cond.code y_Md_allEnd b_Md_allEnd 5 (some .boolean) ∈ wAll := a_699
theorem hd_Md_allEnd : y_Md_allEnd.cls ≠ "java/lang/invoke/MethodHandle" ∧ y_Md_allEnd.cls ≠ "java/lang/invoke/VarHandle" ∧ (parseMethodDescriptor y_Md_allEnd.desc).map (fun d => d.parameters.length) = some 0 := by decide +kernel
abbrev b_Md_canBegin : ByteArray := prog_7_method_39_code
def y_Md_canBegin : MethodName := ⟨"CaseNetModel", "canBegin", "(I)Z"⟩
abbrev w_Md_canBegin : List Cond := Cond.code y_Md_canBegin b_Md_canBegin 5 (some .boolean) :: wAll
theorem ac_Md_canBegin : Cond.code y_Md_canBegin b_Md_canBegin 5 (some .boolean) ∈ wAll := a_695
theorem hd_Md_canBegin : y_Md_canBegin.cls ≠ "java/lang/invoke/MethodHandle" ∧ y_Md_canBegin.cls ≠ "java/lang/invoke/VarHandle" ∧ (parseMethodDescriptor y_Md_canBegin.desc).map (fun d => d.parameters.length) = some 1 := by decide +kernel
abbrev b_Md_verdict : ByteArray := prog_7_method_40_code
def y_Md_verdict : MethodName := ⟨"CaseNetModel", "verdict", "()I"⟩
abbrev w_Md_verdict : List Cond := Cond.code y_Md_verdict b_Md_verdict 5 (some .int) :: wAll
theorem ac_Md_verdict : Cond.code y_Md_verdict b_Md_verdict 5 (some .int) ∈ wAll := a_691
theorem hd_Md_verdict : y_Md_verdict.cls ≠ "java/lang/invoke/MethodHandle" ∧ y_Md_verdict.cls ≠ "java/lang/invoke/VarHandle" ∧ (parseMethodDescriptor y_Md_verdict.desc).map (fun d => d.parameters.length) = some 0 := by decide +kernel
theorem i0_CaseNet : ∀ w ∈ u_ws R_CaseNet F_CaseNet 6, w ∈ wAll := by
  have e : u_ws R_CaseNet F_CaseNet 6 = [(Jvm.Cond.laysFinal "CaseNet" "CaseNet" "net" "LCaseNet$Net;"), (Jvm.Cond.laysFinal "CaseNet" "CaseNet" "work" "LCaseNet$WorkList;"), (Jvm.Cond.laysFinal "CaseNet" "CaseNet" "variables" "[I"), (Jvm.Cond.lays "CaseNet" "CaseNet" "on" "Z"), (Jvm.Cond.lays "CaseNet" "CaseNet" "present" "I"), (Jvm.Cond.lays "CaseNet" "CaseNet" "clock" "I")] := by decide +kernel
  rw [e]
  exact List.forall_mem_cons.mpr ⟨a_170, List.forall_mem_cons.mpr ⟨a_172, List.forall_mem_cons.mpr ⟨a_174, List.forall_mem_cons.mpr ⟨a_176, List.forall_mem_cons.mpr ⟨a_178, List.forall_mem_cons.mpr ⟨a_180, fun _ h => absurd h List.not_mem_nil⟩⟩⟩⟩⟩⟩
theorem i_CaseNet {x : Cond} : ∀ w ∈ u_ws R_CaseNet F_CaseNet 6, w ∈ x :: wAll := fun w h => List.mem_cons_of_mem _ (i0_CaseNet w h)
theorem i0_Net : ∀ w ∈ u_ws R_Net F_Net 6, w ∈ wAll := by
  have e : u_ws R_Net F_Net 6 = [(Jvm.Cond.laysFinal "CaseNet$Net" "CaseNet$Net" "tasks" "[LCaseNet$Task;"), (Jvm.Cond.laysFinal "CaseNet$Net" "CaseNet$Net" "open" "LCaseNet$MaskSet;"), (Jvm.Cond.laysFinal "CaseNet$Net" "CaseNet$Net" "reached" "LCaseNet$MaskSet;"), (Jvm.Cond.laysFinal "CaseNet$Net" "CaseNet$Net" "covering" "LCaseNet$MaskSet;"), (Jvm.Cond.lays "CaseNet$Net" "CaseNet$Net" "begun" "I"), (Jvm.Cond.lays "CaseNet$Net" "CaseNet$Net" "endStandsAlone" "Z")] := by decide +kernel
  rw [e]
  exact List.forall_mem_cons.mpr ⟨a_128, List.forall_mem_cons.mpr ⟨a_130, List.forall_mem_cons.mpr ⟨a_132, List.forall_mem_cons.mpr ⟨a_134, List.forall_mem_cons.mpr ⟨a_136, List.forall_mem_cons.mpr ⟨a_138, fun _ h => absurd h List.not_mem_nil⟩⟩⟩⟩⟩⟩
theorem i_Net {x : Cond} : ∀ w ∈ u_ws R_Net F_Net 6, w ∈ x :: wAll := fun w h => List.mem_cons_of_mem _ (i0_Net w h)
theorem i0_Task : ∀ w ∈ u_ws R_Task F_Task 19, w ∈ wAll := by
  have e : u_ws R_Task F_Task 19 = [(Jvm.Cond.laysFinal "CaseNet$Task" "CaseNet$Task" "place" "I"), (Jvm.Cond.lays "CaseNet$Task" "CaseNet$Task" "defined" "Z"), (Jvm.Cond.lays "CaseNet$Task" "CaseNet$Task" "join" "I"), (Jvm.Cond.lays "CaseNet$Task" "CaseNet$Task" "split" "I"), (Jvm.Cond.lays "CaseNet$Task" "CaseNet$Task" "ins" "I"), (Jvm.Cond.lays "CaseNet$Task" "CaseNet$Task" "outs" "I"), (Jvm.Cond.lays "CaseNet$Task" "CaseNet$Task" "cleared" "I"), (Jvm.Cond.lays "CaseNet$Task" "CaseNet$Task" "number" "I"), (Jvm.Cond.lays "CaseNet$Task" "CaseNet$Task" "threshold" "I"), (Jvm.Cond.lays "CaseNet$Task" "CaseNet$Task" "variable" "I"), (Jvm.Cond.lays "CaseNet$Task" "CaseNet$Task" "deadline" "I"), (Jvm.Cond.lays "CaseNet$Task" "CaseNet$Task" "firstItem" "I"), (Jvm.Cond.laysFinal "CaseNet$Task" "CaseNet$Task" "takes" "[I"), (Jvm.Cond.laysFinal "CaseNet$Task" "CaseNet$Task" "puts" "[I"), (Jvm.Cond.lays "CaseNet$Task" "CaseNet$Task" "takesCount" "I"), (Jvm.Cond.lays "CaseNet$Task" "CaseNet$Task" "putsCount" "I"), (Jvm.Cond.laysFinal "CaseNet$Task" "CaseNet$Task" "guardVariable" "[I"), (Jvm.Cond.laysFinal "CaseNet$Task" "CaseNet$Task" "guardLow" "[I"), (Jvm.Cond.laysFinal "CaseNet$Task" "CaseNet$Task" "guardHigh" "[I")] := by decide +kernel
  rw [e]
  exact List.forall_mem_cons.mpr ⟨a_81, List.forall_mem_cons.mpr ⟨a_83, List.forall_mem_cons.mpr ⟨a_85, List.forall_mem_cons.mpr ⟨a_87, List.forall_mem_cons.mpr ⟨a_89, List.forall_mem_cons.mpr ⟨a_91, List.forall_mem_cons.mpr ⟨a_93, List.forall_mem_cons.mpr ⟨a_95, List.forall_mem_cons.mpr ⟨a_97, List.forall_mem_cons.mpr ⟨a_99, List.forall_mem_cons.mpr ⟨a_101, List.forall_mem_cons.mpr ⟨a_103, List.forall_mem_cons.mpr ⟨a_105, List.forall_mem_cons.mpr ⟨a_107, List.forall_mem_cons.mpr ⟨a_109, List.forall_mem_cons.mpr ⟨a_111, List.forall_mem_cons.mpr ⟨a_113, List.forall_mem_cons.mpr ⟨a_115, List.forall_mem_cons.mpr ⟨a_117, fun _ h => absurd h List.not_mem_nil⟩⟩⟩⟩⟩⟩⟩⟩⟩⟩⟩⟩⟩⟩⟩⟩⟩⟩⟩
theorem i_Task {x : Cond} : ∀ w ∈ u_ws R_Task F_Task 19, w ∈ x :: wAll := fun w h => List.mem_cons_of_mem _ (i0_Task w h)
theorem i0_WorkList : ∀ w ∈ u_ws R_WorkList F_WorkList 4, w ∈ wAll := by
  have e : u_ws R_WorkList F_WorkList 4 = [(Jvm.Cond.laysFinal "CaseNet$WorkList" "CaseNet$WorkList" "task" "[I"), (Jvm.Cond.laysFinal "CaseNet$WorkList" "CaseNet$WorkList" "state" "[I"), (Jvm.Cond.laysFinal "CaseNet$WorkList" "CaseNet$WorkList" "offeredAt" "[I"), (Jvm.Cond.lays "CaseNet$WorkList" "CaseNet$WorkList" "made" "I")] := by decide +kernel
  rw [e]
  exact List.forall_mem_cons.mpr ⟨a_155, List.forall_mem_cons.mpr ⟨a_157, List.forall_mem_cons.mpr ⟨a_159, List.forall_mem_cons.mpr ⟨a_161, fun _ h => absurd h List.not_mem_nil⟩⟩⟩⟩
theorem i_WorkList {x : Cond} : ∀ w ∈ u_ws R_WorkList F_WorkList 4, w ∈ x :: wAll := fun w h => List.mem_cons_of_mem _ (i0_WorkList w h)
theorem i0_MaskSet : ∀ w ∈ u_ws R_MaskSet F_MaskSet 2, w ∈ wAll := by
  have e : u_ws R_MaskSet F_MaskSet 2 = [(Jvm.Cond.laysFinal "CaseNet$MaskSet" "CaseNet$MaskSet" "words" "[J"), (Jvm.Cond.lays "CaseNet$MaskSet" "CaseNet$MaskSet" "firstUsed" "I")] := by decide +kernel
  rw [e]
  exact List.forall_mem_cons.mpr ⟨a_34, List.forall_mem_cons.mpr ⟨a_36, fun _ h => absurd h List.not_mem_nil⟩⟩
theorem i_MaskSet {x : Cond} : ∀ w ∈ u_ws R_MaskSet F_MaskSet 2, w ∈ x :: wAll := fun w h => List.mem_cons_of_mem _ (i0_MaskSet w h)
theorem i0_Model : ∀ w ∈ u_ws R_Model F_Model 28, w ∈ wAll := by
  have e : u_ws R_Model F_Model 28 = [(Jvm.Cond.lays "CaseNetModel" "CaseNetModel" "defined" "[Z"), (Jvm.Cond.lays "CaseNetModel" "CaseNetModel" "joins" "[I"), (Jvm.Cond.lays "CaseNetModel" "CaseNetModel" "splits" "[I"), (Jvm.Cond.lays "CaseNetModel" "CaseNetModel" "insOf" "[I"), (Jvm.Cond.lays "CaseNetModel" "CaseNetModel" "outsOf" "[I"), (Jvm.Cond.lays "CaseNetModel" "CaseNetModel" "inBits" "[I"), (Jvm.Cond.lays "CaseNetModel" "CaseNetModel" "outBits" "[I"), (Jvm.Cond.lays "CaseNetModel" "CaseNetModel" "regions" "[I"), (Jvm.Cond.lays "CaseNetModel" "CaseNetModel" "guardOf" "[I"), (Jvm.Cond.lays "CaseNetModel" "CaseNetModel" "lows" "[I"), (Jvm.Cond.lays "CaseNetModel" "CaseNetModel" "highs" "[I"), (Jvm.Cond.lays "CaseNetModel" "CaseNetModel" "numbers" "[I"), (Jvm.Cond.lays "CaseNetModel" "CaseNetModel" "thresholds" "[I"), (Jvm.Cond.lays "CaseNetModel" "CaseNetModel" "variableOf" "[I"), (Jvm.Cond.lays "CaseNetModel" "CaseNetModel" "deadlines" "[I"), (Jvm.Cond.lays "CaseNetModel" "CaseNetModel" "on" "Z"), (Jvm.Cond.lays "CaseNetModel" "CaseNetModel" "mask" "I"), (Jvm.Cond.lays "CaseNetModel" "CaseNetModel" "clock" "I"), (Jvm.Cond.lays "CaseNetModel" "CaseNetModel" "variables" "[I"), (Jvm.Cond.lays "CaseNetModel" "CaseNetModel" "made" "I"), (Jvm.Cond.lays "CaseNetModel" "CaseNetModel" "taskOf" "[I"), (Jvm.Cond.lays "CaseNetModel" "CaseNetModel" "stateOf" "[I"), (Jvm.Cond.lays "CaseNetModel" "CaseNetModel" "offeredAt" "[I"), (Jvm.Cond.lays "CaseNetModel" "CaseNetModel" "firstItem" "[I"), (Jvm.Cond.lays "CaseNetModel" "CaseNetModel" "met" "[J"), (Jvm.Cond.lays "CaseNetModel" "CaseNetModel" "masks" "[I"), (Jvm.Cond.lays "CaseNetModel" "CaseNetModel" "many" "I"), (Jvm.Cond.lays "CaseNetModel" "CaseNetModel" "good" "[J")] := by decide +kernel
  rw [e]
  exact List.forall_mem_cons.mpr ⟨a_495, List.forall_mem_cons.mpr ⟨a_497, List.forall_mem_cons.mpr ⟨a_499, List.forall_mem_cons.mpr ⟨a_501, List.forall_mem_cons.mpr ⟨a_503, List.forall_mem_cons.mpr ⟨a_505, List.forall_mem_cons.mpr ⟨a_507, List.forall_mem_cons.mpr ⟨a_509, List.forall_mem_cons.mpr ⟨a_511, List.forall_mem_cons.mpr ⟨a_513, List.forall_mem_cons.mpr ⟨a_515, List.forall_mem_cons.mpr ⟨a_517, List.forall_mem_cons.mpr ⟨a_519, List.forall_mem_cons.mpr ⟨a_521, List.forall_mem_cons.mpr ⟨a_523, List.forall_mem_cons.mpr ⟨a_525, List.forall_mem_cons.mpr ⟨a_527, List.forall_mem_cons.mpr ⟨a_529, List.forall_mem_cons.mpr ⟨a_531, List.forall_mem_cons.mpr ⟨a_533, List.forall_mem_cons.mpr ⟨a_535, List.forall_mem_cons.mpr ⟨a_537, List.forall_mem_cons.mpr ⟨a_539, List.forall_mem_cons.mpr ⟨a_541, List.forall_mem_cons.mpr ⟨a_543, List.forall_mem_cons.mpr ⟨a_545, List.forall_mem_cons.mpr ⟨a_547, List.forall_mem_cons.mpr ⟨a_549, fun _ h => absurd h List.not_mem_nil⟩⟩⟩⟩⟩⟩⟩⟩⟩⟩⟩⟩⟩⟩⟩⟩⟩⟩⟩⟩⟩⟩⟩⟩⟩⟩⟩⟩
theorem i_Model {x : Cond} : ∀ w ∈ u_ws R_Model F_Model 28, w ∈ x :: wAll := fun w h => List.mem_cons_of_mem _ (i0_Model w h)
theorem gi_c {x w : Cond} {ws : List Cond} (h : ∀ z ∈ ws, z ∈ wAll) : GoodIn (x :: wAll) ws := fun z hz => ⟨List.mem_cons_of_mem _ (h z hz), good_of_word (List.mem_filter.mp (h z hz)).2⟩
section CWS
variable {R : Room} {s : State} {args : Array Value} {own C host : String} {idx maxL n : Nat} {y : MethodName} {bytes : ByteArray} {ret : Option FieldType} {rm : Room} {x : Cond}
theorem cw_S (hts : ∀ w ∈ x :: wAll, w.before args s = true) (h1 : Cond.methodLink own idx y ∈ wAll) (h2 : Cond.static y ∈ wAll) (h3 : Cond.initialized y.cls ∈ wAll) (h4 : Cond.code y bytes maxL ret ∈ wAll) (hrc : rm.cells = 0) (hrs : rm.slots = 0) (hd : y.cls ≠ "java/lang/invoke/MethodHandle" ∧ y.cls ≠ "java/lang/invoke/VarHandle" ∧ (parseMethodDescriptor y.desc).map (fun d => d.parameters.length) = some n) (hR : rm.frames + 1 ≤ R.frames ∧ 8 + (maxL + 11) + rm.locals ≤ R.locals) :
    CallB R s args own idx y bytes maxL ret (Cond.code y bytes maxL ret :: wAll) rm 0 0 n ∧ (Cond.static y).before args s = true :=
  ⟨callB_of n hts (gi_c (w := x) (fun z hz => (List.mem_cons.mp hz).elim (fun e => e ▸ h4) id)) rfl hrc hrs (hts _ (List.mem_cons_of_mem _ h3)) (hts _ (List.mem_cons_of_mem _ h1)) hd hR, hts _ (List.mem_cons_of_mem _ h2)⟩
theorem cw_V (hts : ∀ w ∈ x :: wAll, w.before args s = true) (h1 : Cond.methodLink own idx y ∈ wAll) (h2 : Cond.instanceMethod y ∈ wAll) (h5 : Cond.selects C y y ∈ wAll) (h3 : Cond.initialized y.cls ∈ wAll) (h4 : Cond.code y bytes maxL ret ∈ wAll) (hrc : rm.cells = 0) (hrs : rm.slots = 0) (_hC : y.cls = C) (hd : y.cls ≠ "java/lang/invoke/MethodHandle" ∧ y.cls ≠ "java/lang/invoke/VarHandle" ∧ (parseMethodDescriptor y.desc).map (fun d => d.parameters.length) = some n) (hR : rm.frames + 1 ≤ R.frames ∧ 8 + (maxL + 11) + rm.locals ≤ R.locals) :
    CallW R s args own C idx y bytes maxL ret (Cond.code y bytes maxL ret :: wAll) rm 0 0 n :=
  ⟨callB_of n hts (gi_c (w := x) (fun z hz => (List.mem_cons.mp hz).elim (fun e => e ▸ h4) id)) rfl hrc hrs (hts _ (List.mem_cons_of_mem _ h3)) (hts _ (List.mem_cons_of_mem _ h1)) hd hR, hts _ (List.mem_cons_of_mem _ h2), hts _ (List.mem_cons_of_mem _ h5)⟩
theorem cw_SN (hts : ∀ w ∈ x :: wAll, w.before args s = true) (h1 : va_Nw (.methodLinkNest own idx y host) s) (h2 : Cond.static y ∈ wAll) (h3 : Cond.initialized y.cls ∈ wAll) (h4 : Cond.code y bytes maxL ret ∈ wAll) (hrc : rm.cells = 0) (hrs : rm.slots = 0) (hd : y.cls ≠ "java/lang/invoke/MethodHandle" ∧ y.cls ≠ "java/lang/invoke/VarHandle" ∧ (parseMethodDescriptor y.desc).map (fun d => d.parameters.length) = some n) (hR : rm.frames + 1 ≤ R.frames ∧ 8 + (maxL + 11) + rm.locals ≤ R.locals) :
    va_CN R s args own idx y host bytes maxL ret (Cond.code y bytes maxL ret :: wAll) rm 0 0 n ∧ (Cond.static y).before args s = true ∧ True :=
  ⟨va_cnB n hts (gi_c (w := x) (fun z hz => (List.mem_cons.mp hz).elim (fun e => e ▸ h4) id)) rfl hrc hrs h1 (hts _ (List.mem_cons_of_mem _ h3)) hd hR, hts _ (List.mem_cons_of_mem _ h2), trivial⟩
theorem cw_VN (hts : ∀ w ∈ x :: wAll, w.before args s = true) (h1 : va_Nw (.methodLinkNest own idx y host) s) (h2 : Cond.instanceMethod y ∈ wAll) (h5 : Cond.selects C y y ∈ wAll) (h3 : Cond.initialized y.cls ∈ wAll) (h4 : Cond.code y bytes maxL ret ∈ wAll) (hrc : rm.cells = 0) (hrs : rm.slots = 0) (_hC : y.cls = C) (hd : y.cls ≠ "java/lang/invoke/MethodHandle" ∧ y.cls ≠ "java/lang/invoke/VarHandle" ∧ (parseMethodDescriptor y.desc).map (fun d => d.parameters.length) = some n) (hR : rm.frames + 1 ≤ R.frames ∧ 8 + (maxL + 11) + rm.locals ≤ R.locals) :
    va_CN R s args own idx y host bytes maxL ret (Cond.code y bytes maxL ret :: wAll) rm 0 0 n ∧ (Cond.instanceMethod y).before args s = true ∧ (Cond.selects C y y).before args s = true :=
  ⟨va_cnB n hts (gi_c (w := x) (fun z hz => (List.mem_cons.mp hz).elim (fun e => e ▸ h4) id)) rfl hrc hrs h1 (hts _ (List.mem_cons_of_mem _ h3)) hd hR, hts _ (List.mem_cons_of_mem _ h2), hts _ (List.mem_cons_of_mem _ h5)⟩
end CWS
end
section
/-! The world by places. A layout lists what lies at each place: an object (its class's number; each field a number or the object at another place), an array of numbers, of longs, of objects. A state u says the numbers: u.1 place slot, u.2 place slot (longs). -/
abbrev St : Type := (Nat → Nat → Int32) × (Nat → Nat → Int64)
abbrev ly_E : Type := (Nat × List (Option Nat)) ⊕ ((FieldType × Nat) ⊕ (Nat ⊕ (String × Nat × (Nat → Option Nat))))
def ly_f (ad : Nat → Nat) (u : St) (k j : Nat) (f : Option Nat) : Value := match f with
  | none => .int (u.1 k j)
  | some q => .ref (ad q)
def ly_fs (ad : Nat → Nat) (u : St) (k : Nat) (fs : List (Option Nat)) : List Value := fs.mapIdx (ly_f ad u k)
def ly_cell (ad : Nat → Nat) (cA : Nat → ClassId) (u : St) (k : Nat) (e : ly_E) : Nat × va_E := (ad k, match e with
  | .inl o => .inr (o.1, ly_fs ad u k o.2)
  | .inr (.inl a) => .inl (cA k, a.2, .inl (u.1 k))
  | .inr (.inr (.inl n)) => .inl (cA k, n, .inr (.inl (u.2 k)))
  | .inr (.inr (.inr r)) => .inl (cA k, r.2.1, .inr (.inr (.inr (.inr (fun i => (r.2.2 i).map ad))))))
def ly_W (lay : List ly_E) (ad : Nat → Nat) (cA : Nat → ClassId) (u : St) : va_W := lay.mapIdx (ly_cell ad cA u)
theorem ly_at {lay : List ly_E} {ad : Nat → Nat} {cA : Nat → ClassId} {u : St} {k : Nat} {e : ly_E} (h : lay[k]? = some e) : (ly_W lay ad cA u)[k]? = some (ly_cell ad cA u k e) := by
  simp only [ly_W, List.getElem?_mapIdx, h, Option.map_some]
theorem ly_cellE {ad : Nat → Nat} {cA : Nat → ClassId} {u u' : St} {k : Nat} {e : ly_E} (h1 : u'.1 k = u.1 k) (h2 : u'.2 k = u.2 k) : ly_cell ad cA u' k e = ly_cell ad cA u k e := by
  have hf : ∀ j f, ly_f ad u' k j f = ly_f ad u k j f := by
    intro j f
    cases f with
    | none => simp only [ly_f, h1]
    | some q => rfl
  have hfs : ∀ fs, ly_fs ad u' k fs = ly_fs ad u k fs := by
    intro fs
    simp only [ly_fs]
    apply List.ext_getElem?
    intro i
    simp only [List.getElem?_mapIdx]
    rw [show ly_f ad u' k i = ly_f ad u k i from funext (hf i)]
  rcases e with o | a | n | r
  · simp only [ly_cell, hfs]
  · simp only [ly_cell, h1]
  · simp only [ly_cell, h2]
  · rfl
/-- the world with one cell changed is the world of the changed state -/
theorem ly_set {lay : List ly_E} {ad : Nat → Nat} {cA : Nat → ClassId} {u u' : St} {k : Nat} {e : ly_E} {x : va_E} (h : lay[k]? = some e) (hx : (ad k, x) = ly_cell ad cA u' k e) (ho : ∀ i, i ≠ k → u'.1 i = u.1 i ∧ u'.2 i = u.2 i) : (ly_W lay ad cA u).set k (ad k, x) = ly_W lay ad cA u' := by
  apply List.ext_getElem?
  intro i
  by_cases hi : i = k
  · subst hi
    have hl : i < (ly_W lay ad cA u).length := by
      have := (List.getElem?_eq_some_iff.mp h).1
      simpa [ly_W] using this
    rw [List.getElem?_set_self hl, ly_at h, hx]
  · rw [List.getElem?_set_ne (fun q => hi q.symm)]
    simp only [ly_W, List.getElem?_mapIdx]
    cases hq : lay[i]? with
    | none => rfl
    | some e1 => simp only [Option.map_some]; rw [ly_cellE (ho i hi).1 (ho i hi).2]
def ly_pi (u : St) (k j : Nat) (v : Int32) : St := (va_up u.1 k (upd (u.1 k) j v), u.2)
def ly_pl (u : St) (k j : Nat) (v : Int64) : St := (u.1, va_up u.2 k (vp_updL (u.2 k) j v))
theorem ly_fs_set {ad : Nat → Nat} {u : St} {k j : Nat} {fs : List (Option Nat)} {v : Int32} (hf : fs[j]? = some none) : (ly_fs ad u k fs).set j (.int v) = ly_fs ad (ly_pi u k j v) k fs := by
  apply List.ext_getElem?
  intro i
  by_cases hi : i = j
  · subst hi
    have hl : i < (ly_fs ad u k fs).length := by
      have := (List.getElem?_eq_some_iff.mp hf).1
      simpa [ly_fs] using this
    rw [List.getElem?_set_self hl]
    simp only [ly_fs, List.getElem?_mapIdx, hf, Option.map_some, ly_f, ly_pi, va_up_self, pk_us]
  · rw [List.getElem?_set_ne (fun q => hi q.symm)]
    simp only [ly_fs, List.getElem?_mapIdx]
    cases hq : fs[i]? with
    | none => rfl
    | some f =>
      cases f with
      | none => simp only [Option.map_some, ly_f, ly_pi, va_up_self, pk_un hi]
      | some q => rfl
theorem ly_set_f {lay : List ly_E} {ad : Nat → Nat} {cA : Nat → ClassId} {u : St} {k j ci : Nat} {fs : List (Option Nat)} {v : Int32} (h : lay[k]? = some (.inl (ci, fs))) (hf : fs[j]? = some none) : (ly_W lay ad cA u).set k (ad k, .inr (ci, (ly_fs ad u k fs).set j (.int v))) = ly_W lay ad cA (ly_pi u k j v) := by
  refine ly_set h ?_ (fun i hi => ⟨va_up_ne _ _ hi, rfl⟩)
  rw [ly_fs_set hf]; rfl
theorem ly_set_i {lay : List ly_E} {ad : Nat → Nat} {cA : Nat → ClassId} {u : St} {k j n : Nat} {ty : FieldType} {v : Int32} (h : lay[k]? = some (.inr (.inl (ty, n)))) : (ly_W lay ad cA u).set k (ad k, .inl (cA k, n, .inl (upd (u.1 k) j v))) = ly_W lay ad cA (ly_pi u k j v) := by
  refine ly_set h ?_ (fun i hi => ⟨va_up_ne _ _ hi, rfl⟩)
  simp only [ly_cell, ly_pi, va_up_self]
theorem ly_set_l {lay : List ly_E} {ad : Nat → Nat} {cA : Nat → ClassId} {u : St} {k j n : Nat} {v : Int64} (h : lay[k]? = some (.inr (.inr (.inl n)))) : (ly_W lay ad cA u).set k (ad k, .inl (cA k, n, .inr (.inl (vp_updL (u.2 k) j v)))) = ly_W lay ad cA (ly_pl u k j v) := by
  refine ly_set h ?_ (fun i hi => ⟨rfl, va_up_ne _ _ hi⟩)
  simp only [ly_cell, ly_pl, va_up_self]
def ly_ty (lay : List ly_E) (k : Nat) : Option FieldType := match lay[k]? with
  | some (.inr (.inl a)) => some a.1
  | some (.inr (.inr (.inl _))) => some .long
  | some (.inr (.inr (.inr r))) => some (.object r.1)
  | _ => none
/-- the tables know the classes, and each array's class -/
def ly_K (D : va_G) (cl : List vw_C) (lay : List ly_E) (cA : Nat → ClassId) (U : State) : Prop := va_K D cl [] U ∧ ∀ (k : Nat) (ty : FieldType), ly_ty lay k = some ty → va_K D cl [(cA k, ty)] U
theorem ly_K.moved {D : va_G} {cl : List vw_C} {lay : List ly_E} {cA : Nat → ClassId} {u U : State} (hvm : u.vm.Alike U.vm) (h : ly_K D cl lay cA u) : ly_K D cl lay cA U := ⟨va_K.moved hvm h.1, fun k ty hk => va_K.moved hvm (h.2 k ty hk)⟩
def ly_G (D : va_G) (cl : List vw_C) (lay : List ly_E) (ad : Nat → Nat) (cA : Nat → ClassId) (A : Nat → Prop) (H0 : Heap) (u : St) (H : Heap) (locs : List Loc) : Prop := va_P D cl (ly_W lay ad cA u) H ∧ va_D A (ly_W lay ad cA u) ∧ va_S A H0 H locs
def ly_B (D : va_G) (cl : List vw_C) (lay : List ly_E) (ad : Nat → Nat) (cA : Nat → ClassId) (A : Nat → Prop) (u : St) (t : State) : Prop := va_P D cl (ly_W lay ad cA u) t.heap ∧ ly_K D cl lay cA t ∧ va_D A (ly_W lay ad cA u)
/-- what the statics hold: it outlives whatever a method does to its own cells -/
def ly_Zok (Zs : (Nat → Prop) → State → Heap → Prop) : Prop := (∀ (A B : Nat → Prop) (U : State) (H : Heap), Zs A U H → (∀ q, B q → A q) → Zs B U H) ∧ (∀ (A : Nat → Prop) (U : State) (H H1 : Heap), Zs A U H → (∀ a : Nat, a < H.size → ¬ A a → H1[a]? = H[a]?) → Zs A U H1) ∧ (∀ (A : Nat → Prop) (u U : State) (H : Heap), u.vm = U.vm → Zs A u H → Zs A U H) ∧ (∀ (A : Nat → Prop) (u U : State) (H : Heap), u.WarmedH U.vm → Zs A u H → Zs A U H)
def ly_Pc (Zs : (Nat → Prop) → State → Heap → Prop) (D : va_G) (cl : List vw_C) (lay : List ly_E) (ad : Nat → Nat) (cA : Nat → ClassId) (sz : Nat) (u : St) (av : List Value) : Array Value → State → Prop := va_Pc av (fun U => U.heap.size = sz ∧ va_P D cl (ly_W lay ad cA u) U.heap ∧ ly_K D cl lay cA U ∧ va_D (fun _ => True) (ly_W lay ad cA u) ∧ Zs (va_A (ly_W lay ad cA u) sz) U U.heap)
/-- contracts: from u the method returns r and leaves u' with post r u' -/
def ly_Mi (Zs : (Nat → Prop) → State → Heap → Prop) (cl : List vw_C) (lay : List ly_E) (l : Launch) (y : MethodName) (ws : List Cond) (rm : Room) (av : (Nat → Nat) → List Value) (u : St) (post : Int32 → St → Prop) : Prop := ∀ (D : va_G) (ad : Nat → Nat) (cA : Nat → ClassId) (sz : Nat), Met l y ws rm (ly_Pc Zs D cl lay ad cA sz u (av ad)) (va_Qi post (ly_B D cl lay ad cA (va_A (ly_W lay ad cA u) sz)) (va_A (ly_W lay ad cA u) sz)) 0 0 (va_A (ly_W lay ad cA u) sz)
def ly_Mv (Zs : (Nat → Prop) → State → Heap → Prop) (cl : List vw_C) (lay : List ly_E) (l : Launch) (y : MethodName) (ws : List Cond) (rm : Room) (av : (Nat → Nat) → List Value) (u : St) (post : St → Prop) : Prop := ∀ (D : va_G) (ad : Nat → Nat) (cA : Nat → ClassId) (sz : Nat), Met l y ws rm (ly_Pc Zs D cl lay ad cA sz u (av ad)) (va_Qv post (ly_B D cl lay ad cA (va_A (ly_W lay ad cA u) sz)) (va_A (ly_W lay ad cA u) sz)) 0 0 (va_A (ly_W lay ad cA u) sz)
section LY
variable {p : Program} {l : Launch} {e : Env} {R : Room} {s : State} {m : MethodId} {args : Array Value} {below : List Frame} {meth : Method} {c : Code} {H : Heap} {locs : List Loc} {cells slots : Nat} {Q : State → Prop} {cc bytes : ByteArray} {nL maxL index n pc : Nat} {Ts ws : List Cond} {own C host : String} {T : u_T} {N ci : Nat} {D : va_G} {cl : List vw_C} {lay : List ly_E} {ad : Nat → Nat} {cA : Nat → ClassId} {A : Nat → Prop} {H0 : Heap} {u : St} {ls : Array Slot} {rest st As : List Value} {y : MethodName} {ret : Option FieldType} {rm : Room} {Zs : (Nat → Prop) → State → Heap → Prop} {av : (Nat → Nat) → List Value}
theorem ly_get (fx : CallFix p m c cc nL s args Ts own) (hk : ly_K D cl lay cA s) (hw : ly_G D cl lay ad cA A H0 u H locs) (q0 : Nat) {fs : List (Option Nat)} (he : lay[q0]? = some (.inl (ci, fs))) (hc : cl[ci]? = some (C, T, N)) (hin : ∀ w ∈ u_ws C T N, w ∈ Ts) (k : Nat) (hkN : k < N) (hf : fs[k]? = some none) (hC : (T k).1 = C) (hl : Cond.fieldLink own index C (T k).2.1 (T k).2.2.1 ∈ Ts) (hdg : decode cc pc = .ok (.getfield index, 3))
    (kk : W p l e R s m args below meth c H locs cells slots Q (F0 m (pc + 3) ls (.int (u.1 q0 k) :: rest))) : W p l e R s m args below meth c H locs cells slots Q (F0 m pc ls (.ref (ad q0) :: rest)) :=
  va_get fx.1 fx.2.1 fx.2.2.2.2 hin fx.2.2.2.1 hk.1 hw.1 q0 (ly_at he) hc k hkN (fx.2.2.2.2 _ hl) (fun x h => by rw [hC] at h; exact h) (by simp only [ly_fs, List.getElem?_mapIdx, hf, Option.map_some, ly_f]) hdg kk
theorem ly_getr (fx : CallFix p m c cc nL s args Ts own) (hk : ly_K D cl lay cA s) (hw : ly_G D cl lay ad cA A H0 u H locs) (q0 : Nat) {fs : List (Option Nat)} (he : lay[q0]? = some (.inl (ci, fs))) (hc : cl[ci]? = some (C, T, N)) (hin : ∀ w ∈ u_ws C T N, w ∈ Ts) (k : Nat) (hkN : k < N) {q1 : Nat} (hf : fs[k]? = some (some q1)) (hC : (T k).1 = C) (hl : Cond.fieldLink own index C (T k).2.1 (T k).2.2.1 ∈ Ts) (hdg : decode cc pc = .ok (.getfield index, 3))
    (kk : W p l e R s m args below meth c H locs cells slots Q (F0 m (pc + 3) ls (.ref (ad q1) :: rest))) : W p l e R s m args below meth c H locs cells slots Q (F0 m pc ls (.ref (ad q0) :: rest)) :=
  va_get fx.1 fx.2.1 fx.2.2.2.2 hin fx.2.2.2.1 hk.1 hw.1 q0 (ly_at he) hc k hkN (fx.2.2.2.2 _ hl) (fun x h => by rw [hC] at h; exact h) (by simp only [ly_fs, List.getElem?_mapIdx, hf, Option.map_some, ly_f]) hdg kk
theorem ly_put (fx : CallFix p m c cc nL s args Ts own) (hk : ly_K D cl lay cA s) (hw : ly_G D cl lay ad cA A H0 u H locs) (q0 : Nat) {fs : List (Option Nat)} (he : lay[q0]? = some (.inl (ci, fs))) (hc : cl[ci]? = some (C, T, N)) (hin : ∀ w ∈ u_ws C T N, w ∈ Ts) (ty0 : Nat → FieldType) (hty : ∀ k, k < N → parseFieldDescriptor (T k).2.2.1 = some (ty0 k)) (hnm : ∀ a, a < N → ∀ b, b < N → a ≠ b → (T a).2.1 ≠ (T b).2.1) (k : Nat) (hkN : k < N) (hf : fs[k]? = some none) (hC : (T k).1 = C) (hfin : (T k).2.2.2 = false) (hl : Cond.fieldLink own index C (T k).2.1 (T k).2.2.1 ∈ Ts) {v : Int32} (hn : narrow (ty0 k) (.int v) = .int v) (hfit : fits (ty0 k) (.int v) = true) (hdg : decode cc pc = .ok (.putfield index, 3))
    (kk : ∀ (H1 : Heap) (locs1 : List Loc), ly_G D cl lay ad cA A H0 (ly_pi u q0 k v) H1 locs1 → W p l e R s m args below meth c H1 locs1 cells slots Q (F0 m (pc + 3) ls rest)) : W p l e R s m args below meth c H locs cells slots Q (F0 m pc ls (.int v :: .ref (ad q0) :: rest)) := by
  refine va_put fx.1 fx.2.1 fx.2.2.2.2 hin ty0 hty hnm fx.2.2.2.1 hk.1 hw.1 hw.2.1 hw.2.2 q0 (ly_at he) hc k hkN (fx.2.2.2.2 _ hl) (fun x h => by rw [hC] at h; exact h) hfin (hty k hkN) hn hfit ?_ hdg ?_
  · have := (List.getElem?_eq_some_iff.mp hf).1
    simpa [ly_fs] using this
  · intro H1 locs1 h1 h2 h3
    have es := ly_set_f (ad := ad) (cA := cA) (u := u) (v := v) he hf
    exact kk H1 locs1 ⟨es ▸ h1, es ▸ h2, h3⟩
theorem ly_iald (fx : CallFix p m c cc nL s args Ts own) (hk : ly_K D cl lay cA s) (hw : ly_G D cl lay ad cA A H0 u H locs) (q0 : Nat) (he : lay[q0]? = some (.inr (.inl (.int, n)))) {i : Int32} (hin : vp_in i n) (hdg : decode cc pc = .ok (.iaload, 1))
    (kk : W p l e R s m args below meth c H locs cells slots Q (F0 m (pc + 1) ls (.int (u.1 q0 i.toNatClampNeg) :: rest))) : W p l e R s m args below meth c H locs cells slots Q (F0 m pc ls (.int i :: .ref (ad q0) :: rest)) :=
  va_iald fx.1 fx.2.1 (hk.2 q0 .int (by simp only [ly_ty, he])) hw.1 q0 0 (ly_at he) rfl hin hdg kk
theorem ly_zald (fx : CallFix p m c cc nL s args Ts own) (hk : ly_K D cl lay cA s) (hw : ly_G D cl lay ad cA A H0 u H locs) (q0 : Nat) (he : lay[q0]? = some (.inr (.inl (.boolean, n)))) {i : Int32} (hin : vp_in i n) (hdg : decode cc pc = .ok (.baload, 1))
    (kk : W p l e R s m args below meth c H locs cells slots Q (F0 m (pc + 1) ls (.int (u.1 q0 i.toNatClampNeg) :: rest))) : W p l e R s m args below meth c H locs cells slots Q (F0 m pc ls (.int i :: .ref (ad q0) :: rest)) :=
  va_zald fx.1 fx.2.1 (hk.2 q0 .boolean (by simp only [ly_ty, he])) hw.1 q0 0 (ly_at he) rfl hin hdg kk
theorem ly_lald (fx : CallFix p m c cc nL s args Ts own) (hk : ly_K D cl lay cA s) (hw : ly_G D cl lay ad cA A H0 u H locs) (q0 : Nat) (he : lay[q0]? = some (.inr (.inr (.inl n)))) {i : Int32} (hin : vp_in i n) (hdg : decode cc pc = .ok (.laload, 1))
    (kk : W p l e R s m args below meth c H locs cells slots Q (F0 m (pc + 1) ls (.long (u.2 q0 i.toNatClampNeg) :: rest))) : W p l e R s m args below meth c H locs cells slots Q (F0 m pc ls (.int i :: .ref (ad q0) :: rest)) :=
  va_lald fx.1 fx.2.1 (hk.2 q0 .long (by simp only [ly_ty, he])) hw.1 q0 0 (ly_at he) rfl hin hdg kk
theorem ly_aald (fx : CallFix p m c cc nL s args Ts own) (hk : ly_K D cl lay cA s) (hw : ly_G D cl lay ad cA A H0 u H locs) (q0 : Nat) {E : String} {f : Nat → Option Nat} (he : lay[q0]? = some (.inr (.inr (.inr (E, n, f))))) {i : Int32} (hin : vp_in i n) {q1 : Nat} (hf : f i.toNatClampNeg = some q1) (hdg : decode cc pc = .ok (.aaload, 1))
    (kk : W p l e R s m args below meth c H locs cells slots Q (F0 m (pc + 1) ls (.ref (ad q1) :: rest))) : W p l e R s m args below meth c H locs cells slots Q (F0 m pc ls (.int i :: .ref (ad q0) :: rest)) := by
  refine va_aldq fx.1 fx.2.1 (hk.2 q0 (.object E) (by simp only [ly_ty, he])) hw.1 q0 0 (C := E) (ly_at he) rfl hin hdg ?_
  simp only [hf, Option.map_some]
  exact kk
theorem ly_iast (fx : CallFix p m c cc nL s args Ts own) (hk : ly_K D cl lay cA s) (hw : ly_G D cl lay ad cA A H0 u H locs) (q0 : Nat) (he : lay[q0]? = some (.inr (.inl (.int, n)))) {i x : Int32} (hin : vp_in i n) (hdg : decode cc pc = .ok (.iastore, 1))
    (kk : ∀ (H1 : Heap) (locs1 : List Loc), ly_G D cl lay ad cA A H0 (ly_pi u q0 i.toNatClampNeg x) H1 locs1 → W p l e R s m args below meth c H1 locs1 cells slots Q (F0 m (pc + 1) ls rest)) : W p l e R s m args below meth c H locs cells slots Q (F0 m pc ls (.int x :: .int i :: .ref (ad q0) :: rest)) := by
  refine va_iast fx.1 fx.2.1 (hk.2 q0 .int (by simp only [ly_ty, he])) hw.1 hw.2.1 hw.2.2 q0 0 (ly_at he) rfl hin hdg ?_
  intro H1 locs1 h1 h2 h3
  have es := ly_set_i (ad := ad) (cA := cA) (u := u) (j := i.toNatClampNeg) (v := x) he
  exact kk H1 locs1 ⟨es ▸ h1, es ▸ h2, h3⟩
theorem ly_zast (fx : CallFix p m c cc nL s args Ts own) (hk : ly_K D cl lay cA s) (hw : ly_G D cl lay ad cA A H0 u H locs) (q0 : Nat) (he : lay[q0]? = some (.inr (.inl (.boolean, n)))) {i x : Int32} (hin : vp_in i n) (hx : vp_nar .boolean x = x) (hdg : decode cc pc = .ok (.bastore, 1))
    (kk : ∀ (H1 : Heap) (locs1 : List Loc), ly_G D cl lay ad cA A H0 (ly_pi u q0 i.toNatClampNeg x) H1 locs1 → W p l e R s m args below meth c H1 locs1 cells slots Q (F0 m (pc + 1) ls rest)) : W p l e R s m args below meth c H locs cells slots Q (F0 m pc ls (.int x :: .int i :: .ref (ad q0) :: rest)) := by
  refine va_zast fx.1 fx.2.1 (hk.2 q0 .boolean (by simp only [ly_ty, he])) hw.1 hw.2.1 hw.2.2 q0 0 (ly_at he) rfl hin hdg ?_
  intro H1 locs1 h1 h2 h3
  rw [hx] at h1 h2
  have es := ly_set_i (ad := ad) (cA := cA) (u := u) (j := i.toNatClampNeg) (v := x) he
  exact kk H1 locs1 ⟨es ▸ h1, es ▸ h2, h3⟩
theorem ly_last (fx : CallFix p m c cc nL s args Ts own) (hk : ly_K D cl lay cA s) (hw : ly_G D cl lay ad cA A H0 u H locs) (q0 : Nat) (he : lay[q0]? = some (.inr (.inr (.inl n)))) {i : Int32} {x : Int64} (hin : vp_in i n) (hdg : decode cc pc = .ok (.lastore, 1))
    (kk : ∀ (H1 : Heap) (locs1 : List Loc), ly_G D cl lay ad cA A H0 (ly_pl u q0 i.toNatClampNeg x) H1 locs1 → W p l e R s m args below meth c H1 locs1 cells slots Q (F0 m (pc + 1) ls rest)) : W p l e R s m args below meth c H locs cells slots Q (F0 m pc ls (.long x :: .int i :: .ref (ad q0) :: rest)) := by
  refine va_last fx.1 fx.2.1 (hk.2 q0 .long (by simp only [ly_ty, he])) hw.1 hw.2.1 hw.2.2 q0 0 (ly_at he) rfl hin hdg ?_
  intro H1 locs1 h1 h2 h3
  have es := ly_set_l (ad := ad) (cA := cA) (u := u) (j := i.toNatClampNeg) (v := x) he
  exact kk H1 locs1 ⟨es ▸ h1, es ▸ h2, h3⟩
theorem ly_alen (fx : CallFix p m c cc nL s args Ts own) (hk : ly_K D cl lay cA s) (hw : ly_G D cl lay ad cA A H0 u H locs) (q0 : Nat) (he : lay[q0]? = some (.inr (.inr (.inl n)))) {v : Int32} (hv : Int32.ofNat n = v) (hdg : decode cc pc = .ok (.arraylength, 1))
    (kk : W p l e R s m args below meth c H locs cells slots Q (F0 m (pc + 1) ls (.int v :: rest))) : W p l e R s m args below meth c H locs cells slots Q (F0 m pc ls (.ref (ad q0) :: rest)) :=
  va_alen fx.1 fx.2.1 (hk.2 q0 .long (by simp only [ly_ty, he])) hw.1 q0 0 (ly_at he) rfl hv hdg kk
/-- returns -/
theorem ly_reti (fx : CallFix p m c cc nL s args Ts own) (hr : meth.sig.returnType = some .int) (hlocks : meth.locks = false) (hk : ly_K D cl lay cA s) (hw : ly_G D cl lay ad cA A s.heap u H locs) {post : Int32 → St → Prop} {v : Int32} (hp : post v u) (hdg : decode cc pc = .ok (.ireturn, 1)) : W p l e R s m args below meth c H locs cells slots (MQ below (va_Qi post (ly_B D cl lay ad cA A) A) args s cells slots A) (F0 m pc ls [.int v]) :=
  W.iret fx.1 fx.2.1 hr (fun t ht hW => ⟨⟨v, u, rfl, hp, by rw [ht]; exact hw.1, hk.moved hW.alike, hw.2.1⟩, hw.2.2.F ht⟩) hw.2.2.2.2 hdg hlocks
theorem ly_retz (fx : CallFix p m c cc nL s args Ts own) (hr : meth.sig.returnType = some .boolean) (hlocks : meth.locks = false) (hk : ly_K D cl lay cA s) (hw : ly_G D cl lay ad cA A s.heap u H locs) {post : Int32 → St → Prop} {v : Int32} (hn : v = 0 ∨ v = 1) (hp : post v u) (hdg : decode cc pc = .ok (.ireturn, 1)) : W p l e R s m args below meth c H locs cells slots (MQ below (va_Qi post (ly_B D cl lay ad cA A) A) args s cells slots A) (F0 m pc ls [.int v]) :=
  W.zret fx.1 fx.2.1 hr (by rcases hn with rfl | rfl <;> rfl) (fun t ht hW => ⟨⟨v, u, rfl, hp, by rw [ht]; exact hw.1, hk.moved hW.alike, hw.2.1⟩, hw.2.2.F ht⟩) hw.2.2.2.2 hdg hlocks
theorem ly_retv (fx : CallFix p m c cc nL s args Ts own) (hr : meth.sig.returnType = none) (hlocks : meth.locks = false) (hk : ly_K D cl lay cA s) (hw : ly_G D cl lay ad cA A s.heap u H locs) {post : St → Prop} (hp : post u) (hdg : decode cc pc = .ok (.return_, 1)) : W p l e R s m args below meth c H locs cells slots (MQ below (va_Qv post (ly_B D cl lay ad cA A) A) args s cells slots A) (F0 m pc ls []) :=
  W.vret fx.1 fx.2.1 hr (fun t ht hW => ⟨⟨u, rfl, hp, by rw [ht]; exact hw.1, hk.moved hW.alike, hw.2.1⟩, hw.2.2.F ht⟩) hw.2.2.2.2 hdg hlocks
/-- entries -/
theorem ly_enti {ws' : List Cond} {post : Int32 → St → Prop} (hy : plainName y.cls = true) (hw : ws = Cond.code y cc maxL ret :: ws') (hle : ∀ ad, (lg_sl (av ad)).length ≤ maxL)
    (body : ∀ (p : Program) (e : Env) (s : State) (m : MethodId) (below : List Frame) (meth : Method) (c : Code) (D : va_G) (ad : Nat → Nat) (cA : Nat → ClassId) (A : Nat → Prop) (ls : Array Slot), CallFix p m c cc maxL s (av ad).toArray ws y.cls → meth.sig.returnType = ret → meth.locks = false → ly_K D cl lay cA s → (∀ q, s.heap.size ≤ q → A q) → Zs A s s.heap → ly_G D cl lay ad cA A s.heap u s.heap [] → lv_has ls maxL (lv_args 0 (av ad)) →
      W p l e rm s m (av ad).toArray below meth c s.heap [] 0 0 (MQ below (va_Qi post (ly_B D cl lay ad cA A) A) (av ad).toArray s 0 0 A) (F0 m 0 ls [])) : ly_Mi Zs cl lay l y ws rm av u post := by
  intro D ad cA sz
  refine Met.ofW (cc := cc) (maxL := maxL) (ret := ret) hy hw ?_
  intro p e s m args below meth c s₁ B hml hv
  obtain ⟨rfl, hsz, hP, hK, hD0, hZ⟩ := hv
  subst hsz
  rw [lg_entry_eq]
  exact body p e s m below meth c D ad cA (va_A (ly_W lay ad cA u) s.heap.size) _ ⟨B.exec, B.bytes, hml, findClass_of_methodNamed B.named, atoms_spec (ws := ws) B.pre⟩ B.returns B.notSynchronized hK (fun q h => Or.inr h) hZ ⟨hP, hD0.self, va_S.rf⟩ (lv_entry (av ad) (hle ad))
theorem ly_entv {ws' : List Cond} {post : St → Prop} (hy : plainName y.cls = true) (hw : ws = Cond.code y cc maxL ret :: ws') (hle : ∀ ad, (lg_sl (av ad)).length ≤ maxL)
    (body : ∀ (p : Program) (e : Env) (s : State) (m : MethodId) (below : List Frame) (meth : Method) (c : Code) (D : va_G) (ad : Nat → Nat) (cA : Nat → ClassId) (A : Nat → Prop) (ls : Array Slot), CallFix p m c cc maxL s (av ad).toArray ws y.cls → meth.sig.returnType = ret → meth.locks = false → ly_K D cl lay cA s → (∀ q, s.heap.size ≤ q → A q) → Zs A s s.heap → ly_G D cl lay ad cA A s.heap u s.heap [] → lv_has ls maxL (lv_args 0 (av ad)) →
      W p l e rm s m (av ad).toArray below meth c s.heap [] 0 0 (MQ below (va_Qv post (ly_B D cl lay ad cA A) A) (av ad).toArray s 0 0 A) (F0 m 0 ls [])) : ly_Mv Zs cl lay l y ws rm av u post := by
  intro D ad cA sz
  refine Met.ofW (cc := cc) (maxL := maxL) (ret := ret) hy hw ?_
  intro p e s m args below meth c s₁ B hml hv
  obtain ⟨rfl, hsz, hP, hK, hD0, hZ⟩ := hv
  subst hsz
  rw [lg_entry_eq]
  exact body p e s m below meth c D ad cA (va_A (ly_W lay ad cA u) s.heap.size) _ ⟨B.exec, B.bytes, hml, findClass_of_methodNamed B.named, atoms_spec (ws := ws) B.pre⟩ B.returns B.notSynchronized hK (fun q h => Or.inr h) hZ ⟨hP, hD0.self, va_S.rf⟩ (lv_entry (av ad) (hle ad))
/-- what a callee may write is the caller's to write -/
theorem ly_fr (hw : ly_G D cl lay ad cA A H0 u H locs) (hA : ∀ q, H0.size ≤ q → A q) : ∀ q, va_A (ly_W lay ad cA u) H.size q → A q := by
  intro q h
  rcases h with ⟨k, e, h⟩ | h
  · exact hw.2.1.2 k (q, e) h
  · exact hA q (Nat.le_trans hw.2.2.1 h)
theorem ly_blind {sz : Nat} (hZ : ly_Zok Zs) : FrameBlind (ly_Pc Zs D cl lay ad cA sz u As) := by
  intro a U g mk q
  obtain ⟨q0, q1, qP, qK, qD, qZ⟩ := q
  exact ⟨q0, q1, qP, qK.moved (u := U) (U := U.calling g mk a) (Vm.Alike.refl U.vm), qD, hZ.2.2.1 _ U _ _ rfl qZ⟩
theorem ly_pre (hZ : ly_Zok Zs) (hk : ly_K D cl lay cA s) (hz : Zs A s s.heap) (hw : ly_G D cl lay ad cA A s.heap u H locs) (hA : ∀ q, s.heap.size ≤ q → A q) : ∀ U : State, U.heap = H → s.WarmedH U.vm → ly_Pc Zs D cl lay ad cA H.size u As As.toArray U := by
  intro U hU hW
  refine ⟨rfl, by rw [hU], by rw [hU]; exact hw.1, hk.moved hW.alike, hw.2.1.weaken (fun _ _ _ _ => trivial), ?_⟩
  rw [hU]
  exact hZ.2.2.2 _ s U _ hW (hZ.1 _ _ _ _ (hZ.2.1 _ _ _ _ hz (fun a ha hn => hw.2.2.2.1 a ha hn)) (ly_fr hw hA))
theorem ly_callVi (hZ : ly_Zok Zs) (fx : CallFix p m c cc nL s args Ts own) (hk : ly_K D cl lay cA s) (hz : Zs A s s.heap) (hA : ∀ q, s.heap.size ≤ q → A q) (hw : ly_G D cl lay ad cA A s.heap u H locs) {post : Int32 → St → Prop} (hM : ly_Mi Zs cl lay l y ws rm av u post) (cw : CallW R s args own C index y bytes maxL ret ws rm 0 0 n) (q0 : Nat) {fs : List (Option Nat)} (he : lay[q0]? = some (.inl (ci, fs))) (hc : cl[ci]? = some (C, T, N)) (hav : av ad = .ref (ad q0) :: As) (hn : As.length = n) (hsz : ls.size = nL) (hst : st = As.reverse ++ .ref (ad q0) :: rest) (hcat : (rest.map fun v => v.category).sum ≤ 8) (hdg : decode cc pc = .ok (.invokevirtual index, 3)) (hcs : cells ≤ R.cells) (hss : slots ≤ R.slots)
    (kk : ∀ (r : Int32) (u1 : St) (H1 : Heap) (locs1 : List Loc), post r u1 → ly_G D cl lay ad cA A s.heap u1 H1 locs1 → W p l e R s m args below meth c H1 locs1 cells slots Q (F0 m (pc + 3) ls (.int r :: rest))) : W p l e R s m args below meth c H locs cells slots Q (F0 m pc ls st) := by
  subst hst
  have hfr := ly_fr hw hA
  refine va_calli (va_runV (As := As) (rest := rest) fx (hM D ad cA H.size) cw ⟨ly_blind hZ, va_recv hk.1 hw.1 hc (ly_at he), ?_⟩ rfl hn hsz rfl (lv_room hcat) hdg ⟨hcs, hss⟩) hw.2.2 (fun q _ h => hfr q h) hfr ?_
  · rw [← hav]; exact ly_pre hZ hk hz hw hA
  · intro r u1 t H1 locs1 ht hvm hp hB _ _ hS
    obtain ⟨hP1, hK1, hD1⟩ := hB
    rw [ht] at hP1
    exact kk r u1 H1 locs1 hp ⟨hP1, hD1.weaken (fun _ q _ h => hfr q.1 h), hS⟩
theorem ly_callVv (hZ : ly_Zok Zs) (fx : CallFix p m c cc nL s args Ts own) (hk : ly_K D cl lay cA s) (hz : Zs A s s.heap) (hA : ∀ q, s.heap.size ≤ q → A q) (hw : ly_G D cl lay ad cA A s.heap u H locs) {post : St → Prop} (hM : ly_Mv Zs cl lay l y ws rm av u post) (cw : CallW R s args own C index y bytes maxL ret ws rm 0 0 n) (q0 : Nat) {fs : List (Option Nat)} (he : lay[q0]? = some (.inl (ci, fs))) (hc : cl[ci]? = some (C, T, N)) (hav : av ad = .ref (ad q0) :: As) (hn : As.length = n) (hsz : ls.size = nL) (hst : st = As.reverse ++ .ref (ad q0) :: rest) (hcat : (rest.map fun v => v.category).sum ≤ 8) (hdg : decode cc pc = .ok (.invokevirtual index, 3)) (hcs : cells ≤ R.cells) (hss : slots ≤ R.slots)
    (kk : ∀ (u1 : St) (H1 : Heap) (locs1 : List Loc), post u1 → ly_G D cl lay ad cA A s.heap u1 H1 locs1 → W p l e R s m args below meth c H1 locs1 cells slots Q (F0 m (pc + 3) ls rest)) : W p l e R s m args below meth c H locs cells slots Q (F0 m pc ls st) := by
  subst hst
  have hfr := ly_fr hw hA
  refine va_callv (va_runV (As := As) (rest := rest) fx (hM D ad cA H.size) cw ⟨ly_blind hZ, va_recv hk.1 hw.1 hc (ly_at he), ?_⟩ rfl hn hsz rfl (lv_room hcat) hdg ⟨hcs, hss⟩) hw.2.2 (fun q _ h => hfr q h) hfr ?_
  · rw [← hav]; exact ly_pre hZ hk hz hw hA
  · intro u1 t H1 locs1 ht hvm hp hB _ _ hS
    obtain ⟨hP1, hK1, hD1⟩ := hB
    rw [ht] at hP1
    exact kk u1 H1 locs1 hp ⟨hP1, hD1.weaken (fun _ q _ h => hfr q.1 h), hS⟩
theorem ly_callSi (hZ : ly_Zok Zs) (fx : CallFix p m c cc nL s args Ts own) (hk : ly_K D cl lay cA s) (hz : Zs A s s.heap) (hA : ∀ q, s.heap.size ≤ q → A q) (hw : ly_G D cl lay ad cA A s.heap u H locs) {post : Int32 → St → Prop} (hM : ly_Mi Zs cl lay l y ws rm av u post) (cw : CallB R s args own index y bytes maxL ret ws rm 0 0 n ∧ (Cond.static y).before args s = true) (hav : av ad = As) (hn : As.length = n) (hsz : ls.size = nL) (hst : st = As.reverse ++ rest) (hcat : (rest.map fun v => v.category).sum ≤ 8) (hdg : decode cc pc = .ok (.invokestatic index, 3)) (hcs : cells ≤ R.cells) (hss : slots ≤ R.slots)
    (kk : ∀ (r : Int32) (u1 : St) (H1 : Heap) (locs1 : List Loc), post r u1 → ly_G D cl lay ad cA A s.heap u1 H1 locs1 → W p l e R s m args below meth c H1 locs1 cells slots Q (F0 m (pc + 3) ls (.int r :: rest))) : W p l e R s m args below meth c H locs cells slots Q (F0 m pc ls st) := by
  subst hst
  have hfr := ly_fr hw hA
  refine va_calli (va_runS (As := As) (rest := rest) fx (hM D ad cA H.size) cw ⟨ly_blind hZ, ?_⟩ rfl hn hsz rfl (lv_room hcat) hdg ⟨hcs, hss⟩) hw.2.2 (fun q _ h => hfr q h) hfr ?_
  · rw [← hav]; exact ly_pre hZ hk hz hw hA
  · intro r u1 t H1 locs1 ht hvm hp hB _ _ hS
    obtain ⟨hP1, hK1, hD1⟩ := hB
    rw [ht] at hP1
    exact kk r u1 H1 locs1 hp ⟨hP1, hD1.weaken (fun _ q _ h => hfr q.1 h), hS⟩
theorem ly_callSv (hZ : ly_Zok Zs) (fx : CallFix p m c cc nL s args Ts own) (hk : ly_K D cl lay cA s) (hz : Zs A s s.heap) (hA : ∀ q, s.heap.size ≤ q → A q) (hw : ly_G D cl lay ad cA A s.heap u H locs) {post : St → Prop} (hM : ly_Mv Zs cl lay l y ws rm av u post) (cw : CallB R s args own index y bytes maxL ret ws rm 0 0 n ∧ (Cond.static y).before args s = true) (hav : av ad = As) (hn : As.length = n) (hsz : ls.size = nL) (hst : st = As.reverse ++ rest) (hcat : (rest.map fun v => v.category).sum ≤ 8) (hdg : decode cc pc = .ok (.invokestatic index, 3)) (hcs : cells ≤ R.cells) (hss : slots ≤ R.slots)
    (kk : ∀ (u1 : St) (H1 : Heap) (locs1 : List Loc), post u1 → ly_G D cl lay ad cA A s.heap u1 H1 locs1 → W p l e R s m args below meth c H1 locs1 cells slots Q (F0 m (pc + 3) ls rest)) : W p l e R s m args below meth c H locs cells slots Q (F0 m pc ls st) := by
  subst hst
  have hfr := ly_fr hw hA
  refine va_callv (va_runS (As := As) (rest := rest) fx (hM D ad cA H.size) cw ⟨ly_blind hZ, ?_⟩ rfl hn hsz rfl (lv_room hcat) hdg ⟨hcs, hss⟩) hw.2.2 (fun q _ h => hfr q h) hfr ?_
  · rw [← hav]; exact ly_pre hZ hk hz hw hA
  · intro u1 t H1 locs1 ht hvm hp hB _ _ hS
    obtain ⟨hP1, hK1, hD1⟩ := hB
    rw [ht] at hP1
    exact kk u1 H1 locs1 hp ⟨hP1, hD1.weaken (fun _ q _ h => hfr q.1 h), hS⟩
theorem ly_callVNi (hZ : ly_Zok Zs) (fx : CallFix p m c cc nL s args Ts own) (hk : ly_K D cl lay cA s) (hz : Zs A s s.heap) (hA : ∀ q, s.heap.size ≤ q → A q) (hw : ly_G D cl lay ad cA A s.heap u H locs) {post : Int32 → St → Prop} (hM : ly_Mi Zs cl lay l y ws rm av u post) (cw : va_CN R s args own index y host bytes maxL ret ws rm 0 0 n ∧ (Cond.instanceMethod y).before args s = true ∧ (Cond.selects C y y).before args s = true) (q0 : Nat) {fs : List (Option Nat)} (he : lay[q0]? = some (.inl (ci, fs))) (hc : cl[ci]? = some (C, T, N)) (hav : av ad = .ref (ad q0) :: As) (hn : As.length = n) (hsz : ls.size = nL) (hst : st = As.reverse ++ .ref (ad q0) :: rest) (hcat : (rest.map fun v => v.category).sum ≤ 8) (hdg : decode cc pc = .ok (.invokevirtual index, 3)) (hcs : cells ≤ R.cells) (hss : slots ≤ R.slots)
    (kk : ∀ (r : Int32) (u1 : St) (H1 : Heap) (locs1 : List Loc), post r u1 → ly_G D cl lay ad cA A s.heap u1 H1 locs1 → W p l e R s m args below meth c H1 locs1 cells slots Q (F0 m (pc + 3) ls (.int r :: rest))) : W p l e R s m args below meth c H locs cells slots Q (F0 m pc ls st) := by
  subst hst
  have hfr := ly_fr hw hA
  refine va_calli (va_runVN (As := As) (rest := rest) fx (hM D ad cA H.size) cw ⟨ly_blind hZ, va_recv hk.1 hw.1 hc (ly_at he), ?_⟩ rfl hn hsz rfl (lv_room hcat) hdg ⟨hcs, hss⟩) hw.2.2 (fun q _ h => hfr q h) hfr ?_
  · rw [← hav]; exact ly_pre hZ hk hz hw hA
  · intro r u1 t H1 locs1 ht hvm hp hB _ _ hS
    obtain ⟨hP1, hK1, hD1⟩ := hB
    rw [ht] at hP1
    exact kk r u1 H1 locs1 hp ⟨hP1, hD1.weaken (fun _ q _ h => hfr q.1 h), hS⟩
theorem ly_callVNv (hZ : ly_Zok Zs) (fx : CallFix p m c cc nL s args Ts own) (hk : ly_K D cl lay cA s) (hz : Zs A s s.heap) (hA : ∀ q, s.heap.size ≤ q → A q) (hw : ly_G D cl lay ad cA A s.heap u H locs) {post : St → Prop} (hM : ly_Mv Zs cl lay l y ws rm av u post) (cw : va_CN R s args own index y host bytes maxL ret ws rm 0 0 n ∧ (Cond.instanceMethod y).before args s = true ∧ (Cond.selects C y y).before args s = true) (q0 : Nat) {fs : List (Option Nat)} (he : lay[q0]? = some (.inl (ci, fs))) (hc : cl[ci]? = some (C, T, N)) (hav : av ad = .ref (ad q0) :: As) (hn : As.length = n) (hsz : ls.size = nL) (hst : st = As.reverse ++ .ref (ad q0) :: rest) (hcat : (rest.map fun v => v.category).sum ≤ 8) (hdg : decode cc pc = .ok (.invokevirtual index, 3)) (hcs : cells ≤ R.cells) (hss : slots ≤ R.slots)
    (kk : ∀ (u1 : St) (H1 : Heap) (locs1 : List Loc), post u1 → ly_G D cl lay ad cA A s.heap u1 H1 locs1 → W p l e R s m args below meth c H1 locs1 cells slots Q (F0 m (pc + 3) ls rest)) : W p l e R s m args below meth c H locs cells slots Q (F0 m pc ls st) := by
  subst hst
  have hfr := ly_fr hw hA
  refine va_callv (va_runVN (As := As) (rest := rest) fx (hM D ad cA H.size) cw ⟨ly_blind hZ, va_recv hk.1 hw.1 hc (ly_at he), ?_⟩ rfl hn hsz rfl (lv_room hcat) hdg ⟨hcs, hss⟩) hw.2.2 (fun q _ h => hfr q h) hfr ?_
  · rw [← hav]; exact ly_pre hZ hk hz hw hA
  · intro u1 t H1 locs1 ht hvm hp hB _ _ hS
    obtain ⟨hP1, hK1, hD1⟩ := hB
    rw [ht] at hP1
    exact kk u1 H1 locs1 hp ⟨hP1, hD1.weaken (fun _ q _ h => hfr q.1 h), hS⟩
theorem ly_callSNi (hZ : ly_Zok Zs) (fx : CallFix p m c cc nL s args Ts own) (hk : ly_K D cl lay cA s) (hz : Zs A s s.heap) (hA : ∀ q, s.heap.size ≤ q → A q) (hw : ly_G D cl lay ad cA A s.heap u H locs) {post : Int32 → St → Prop} (hM : ly_Mi Zs cl lay l y ws rm av u post) (cw : va_CN R s args own index y host bytes maxL ret ws rm 0 0 n ∧ (Cond.static y).before args s = true ∧ True) (hav : av ad = As) (hn : As.length = n) (hsz : ls.size = nL) (hst : st = As.reverse ++ rest) (hcat : (rest.map fun v => v.category).sum ≤ 8) (hdg : decode cc pc = .ok (.invokestatic index, 3)) (hcs : cells ≤ R.cells) (hss : slots ≤ R.slots)
    (kk : ∀ (r : Int32) (u1 : St) (H1 : Heap) (locs1 : List Loc), post r u1 → ly_G D cl lay ad cA A s.heap u1 H1 locs1 → W p l e R s m args below meth c H1 locs1 cells slots Q (F0 m (pc + 3) ls (.int r :: rest))) : W p l e R s m args below meth c H locs cells slots Q (F0 m pc ls st) := by
  subst hst
  have hfr := ly_fr hw hA
  refine va_calli (va_runSN (As := As) (rest := rest) fx (hM D ad cA H.size) cw ⟨ly_blind hZ, ?_⟩ rfl hn hsz rfl (lv_room hcat) hdg ⟨hcs, hss⟩) hw.2.2 (fun q _ h => hfr q h) hfr ?_
  · rw [← hav]; exact ly_pre hZ hk hz hw hA
  · intro r u1 t H1 locs1 ht hvm hp hB _ _ hS
    obtain ⟨hP1, hK1, hD1⟩ := hB
    rw [ht] at hP1
    exact kk r u1 H1 locs1 hp ⟨hP1, hD1.weaken (fun _ q _ h => hfr q.1 h), hS⟩
theorem ly_callSNv (hZ : ly_Zok Zs) (fx : CallFix p m c cc nL s args Ts own) (hk : ly_K D cl lay cA s) (hz : Zs A s s.heap) (hA : ∀ q, s.heap.size ≤ q → A q) (hw : ly_G D cl lay ad cA A s.heap u H locs) {post : St → Prop} (hM : ly_Mv Zs cl lay l y ws rm av u post) (cw : va_CN R s args own index y host bytes maxL ret ws rm 0 0 n ∧ (Cond.static y).before args s = true ∧ True) (hav : av ad = As) (hn : As.length = n) (hsz : ls.size = nL) (hst : st = As.reverse ++ rest) (hcat : (rest.map fun v => v.category).sum ≤ 8) (hdg : decode cc pc = .ok (.invokestatic index, 3)) (hcs : cells ≤ R.cells) (hss : slots ≤ R.slots)
    (kk : ∀ (u1 : St) (H1 : Heap) (locs1 : List Loc), post u1 → ly_G D cl lay ad cA A s.heap u1 H1 locs1 → W p l e R s m args below meth c H1 locs1 cells slots Q (F0 m (pc + 3) ls rest)) : W p l e R s m args below meth c H locs cells slots Q (F0 m pc ls st) := by
  subst hst
  have hfr := ly_fr hw hA
  refine va_callv (va_runSN (As := As) (rest := rest) fx (hM D ad cA H.size) cw ⟨ly_blind hZ, ?_⟩ rfl hn hsz rfl (lv_room hcat) hdg ⟨hcs, hss⟩) hw.2.2 (fun q _ h => hfr q h) hfr ?_
  · rw [← hav]; exact ly_pre hZ hk hz hw hA
  · intro u1 t H1 locs1 ht hvm hp hB _ _ hS
    obtain ⟨hP1, hK1, hD1⟩ := hB
    rw [ht] at hP1
    exact kk u1 H1 locs1 hp ⟨hP1, hD1.weaken (fun _ q _ h => hfr q.1 h), hS⟩
end LY
/-! words of the pure programs -/
def ib (i : Int32) (n : Nat) : Bool := !(decide (i < 0) || decide (n ≤ i.toNatClampNeg))
theorem ib_in {i : Int32} {n : Nat} : ib i n = true ↔ vp_in i n := by
  unfold ib vp_in
  simp
def nm_k {α β : Type} (e : α) (f : α → β) : β := f e
theorem nk_r {α β : Type} {e x : α} {f : α → Option β} {r : β} (ex : x = e) (h : nm_k e f = some r) : f x = some r := by subst ex; exact h
theorem it_t {α : Type} {q : Prop} {dq : Decidable q} (hc : q) {a b : Option α} {x : α} (h : (@ite (Option α) q dq a b) = some x) : a = some x := by rw [if_pos hc] at h; exact h
theorem it_f {α : Type} {q : Prop} {dq : Decidable q} (hc : ¬ q) {a b : Option α} {x : α} (h : (@ite (Option α) q dq a b) = some x) : b = some x := by rw [if_neg hc] at h; exact h
theorem it_n {α : Type} {q : Prop} {dq : Decidable q} {a : Option α} {x : α} (h : (@ite (Option α) q dq a none) = some x) : q ∧ a = some x := by
  by_cases hc : q
  · rw [if_pos hc] at h; exact ⟨hc, h⟩
  · rw [if_neg hc] at h; cases h
theorem it_in {α : Type} {i : Int32} {n : Nat} {a : Option α} {x : α} (h : (if ib i n = true then a else none) = some x) : vp_in i n ∧ a = some x := ⟨ib_in.mp (it_n h).1, (it_n h).2⟩
theorem bd_s {α β : Type} {o : Option α} {f : α → Option β} {x : β} (h : o.bind f = some x) : ∃ a, o = some a ∧ f a = some x := by
  cases o with
  | none => cases h
  | some a => exact ⟨a, rfl, h⟩
theorem vt_lt {i : Int32} {n : Nat} (h : vp_in i n) : i.toNatClampNeg < n := Nat.lt_of_not_le (fun q => h (Or.inr q))
def cl_k {α β γ : Type} (o : Option (α × β)) (f : α → β → Option γ) : Option γ := match o with
  | some q => f q.1 q.2
  | none => none
theorem ck_r {α β γ : Type} {o : Option (α × β)} {f : α → β → Option γ} {x : γ} (h : cl_k o f = some x) : ∃ r u, o = some (r, u) ∧ f r u = some x := by
  cases o with
  | none => cases h
  | some q => exact ⟨q.1, q.2, rfl, h⟩
theorem oi_p1 (x : Int32) : x + Int32.ofInt 1 = x + 1 := by rw [show Int32.ofInt 1 = 1 from by decide]
theorem oi_p6 (x : Int32) : x + Int32.ofInt 6 = x + 6 := by rw [show Int32.ofInt 6 = 6 from by decide]
theorem oi_m1 (x : Int32) : x + Int32.ofInt (-1) = x + (-1) := by rw [show Int32.ofInt (-1) = -1 from by decide]
theorem ts_o3 {x : Int32} (h0 : ¬ x = 0) (h1 : ¬ x = 1) (h2 : ¬ x = 2) : x.toInt < 0 ∨ 2 < x.toInt := by
  have a0 : ¬ x.toInt = 0 := fun h => h0 (Int32.toInt_inj.mp (by rw [h]; decide))
  have a1 : ¬ x.toInt = 1 := fun h => h1 (Int32.toInt_inj.mp (by rw [h]; decide))
  have a2 : ¬ x.toInt = 2 := fun h => h2 (Int32.toInt_inj.mp (by rw [h]; decide))
  omega
def fs_T (t : Nat) : List (Option Nat) := [none, none, none, none, none, none, none, none, none, none, none, none, some (9 + 6 * t + 1), some (9 + 6 * t + 2), none, none, some (9 + 6 * t + 3), some (9 + 6 * t + 4), some (9 + 6 * t + 5)]
def layC : List ly_E := [
  .inl (0, [some (1), some (45), some (49), none, none, none]),
  .inl (1, [some (2), some (3), some (5), some (7), none, none]),
  .inr (.inr (.inr ("CaseNet$Task", 6, fun i => some (9 + 6 * i)))),
  .inl (4, [some (3 + 1), none]),
  .inr (.inr (.inl 256)),
  .inl (4, [some (5 + 1), none]),
  .inr (.inr (.inl 256)),
  .inl (4, [some (7 + 1), none]),
  .inr (.inr (.inl 256)),
  .inl (2, fs_T 0),
  .inr (.inl (.int, 3)),
  .inr (.inl (.int, 7)),
  .inr (.inl (.int, 8)),
  .inr (.inl (.int, 8)),
  .inr (.inl (.int, 8)),
  .inl (2, fs_T 1),
  .inr (.inl (.int, 3)),
  .inr (.inl (.int, 7)),
  .inr (.inl (.int, 8)),
  .inr (.inl (.int, 8)),
  .inr (.inl (.int, 8)),
  .inl (2, fs_T 2),
  .inr (.inl (.int, 3)),
  .inr (.inl (.int, 7)),
  .inr (.inl (.int, 8)),
  .inr (.inl (.int, 8)),
  .inr (.inl (.int, 8)),
  .inl (2, fs_T 3),
  .inr (.inl (.int, 3)),
  .inr (.inl (.int, 7)),
  .inr (.inl (.int, 8)),
  .inr (.inl (.int, 8)),
  .inr (.inl (.int, 8)),
  .inl (2, fs_T 4),
  .inr (.inl (.int, 3)),
  .inr (.inl (.int, 7)),
  .inr (.inl (.int, 8)),
  .inr (.inl (.int, 8)),
  .inr (.inl (.int, 8)),
  .inl (2, fs_T 5),
  .inr (.inl (.int, 3)),
  .inr (.inl (.int, 7)),
  .inr (.inl (.int, 8)),
  .inr (.inl (.int, 8)),
  .inr (.inl (.int, 8)),
  .inl (3, [some (46), some (47), some (48), none]),
  .inr (.inl (.int, 61)),
  .inr (.inl (.int, 61)),
  .inr (.inl (.int, 61)),
  .inr (.inl (.int, 4))]
theorem la_T {t : Nat} (h : t < 6) : layC[9 + 6 * t]? = some (.inl (2, fs_T t)) :=
  match t, h with
  | 0, _ => rfl
  | 1, _ => rfl
  | 2, _ => rfl
  | 3, _ => rfl
  | 4, _ => rfl
  | 5, _ => rfl
theorem la_T1 {t : Nat} (h : t < 6) : layC[9 + 6 * t + 1]? = some (.inr (.inl (.int, 3))) :=
  match t, h with
  | 0, _ => rfl
  | 1, _ => rfl
  | 2, _ => rfl
  | 3, _ => rfl
  | 4, _ => rfl
  | 5, _ => rfl
theorem la_T2 {t : Nat} (h : t < 6) : layC[9 + 6 * t + 2]? = some (.inr (.inl (.int, 7))) :=
  match t, h with
  | 0, _ => rfl
  | 1, _ => rfl
  | 2, _ => rfl
  | 3, _ => rfl
  | 4, _ => rfl
  | 5, _ => rfl
theorem la_T3 {t : Nat} (h : t < 6) : layC[9 + 6 * t + 3]? = some (.inr (.inl (.int, 8))) :=
  match t, h with
  | 0, _ => rfl
  | 1, _ => rfl
  | 2, _ => rfl
  | 3, _ => rfl
  | 4, _ => rfl
  | 5, _ => rfl
theorem la_T4 {t : Nat} (h : t < 6) : layC[9 + 6 * t + 4]? = some (.inr (.inl (.int, 8))) :=
  match t, h with
  | 0, _ => rfl
  | 1, _ => rfl
  | 2, _ => rfl
  | 3, _ => rfl
  | 4, _ => rfl
  | 5, _ => rfl
theorem la_T5 {t : Nat} (h : t < 6) : layC[9 + 6 * t + 5]? = some (.inr (.inl (.int, 8))) :=
  match t, h with
  | 0, _ => rfl
  | 1, _ => rfl
  | 2, _ => rfl
  | 3, _ => rfl
  | 4, _ => rfl
  | 5, _ => rfl
theorem la_M {q : Nat} (h : q = 3 ∨ q = 5 ∨ q = 7) : layC[q]? = some (.inl (4, [some (q + 1), none])) := by
  rcases h with rfl | rfl | rfl <;> rfl
theorem la_Mw {q : Nat} (h : q = 3 ∨ q = 5 ∨ q = 7) : layC[q + 1]? = some (.inr (.inr (.inl 256))) := by
  rcases h with rfl | rfl | rfl <;> rfl
def layM : List ly_E := [
  .inl (5, [some (1), some (2), some (3), some (4), some (5), some (6), some (7), some (8), some (9), some (10), some (11), some (12), some (13), some (14), some (15), none, none, none, some (16), none, some (17), some (18), some (19), some (20), some (21), some (22), none, some (23)]),
  .inr (.inl (.boolean, 6)),
  .inr (.inl (.int, 6)),
  .inr (.inl (.int, 6)),
  .inr (.inl (.int, 6)),
  .inr (.inl (.int, 6)),
  .inr (.inl (.int, 18)),
  .inr (.inl (.int, 18)),
  .inr (.inl (.int, 6)),
  .inr (.inl (.int, 48)),
  .inr (.inl (.int, 48)),
  .inr (.inl (.int, 48)),
  .inr (.inl (.int, 6)),
  .inr (.inl (.int, 6)),
  .inr (.inl (.int, 6)),
  .inr (.inl (.int, 6)),
  .inr (.inl (.int, 4)),
  .inr (.inl (.int, 61)),
  .inr (.inl (.int, 61)),
  .inr (.inl (.int, 61)),
  .inr (.inl (.int, 6)),
  .inr (.inr (.inl 256)),
  .inr (.inl (.int, 16384)),
  .inr (.inr (.inl 256))]
/-- the static table of the mask sets: for each low place the bits of a word whose masks have it -/
def hv_T : Nat → Int64 := fun k => match k with
  | 0 => -6148914691236517206
  | 1 => -3689348814741910324
  | 2 => -1085102592571150096
  | 3 => -71777214294589696
  | 4 => -281470681808896
  | _ => -4294967296
def hv_V : Nat → Value := fun k => .long (hv_T k)
def ZsC (A : Nat → Prop) (U : State) (H : Heap) : Prop := (∃ tH : Nat, va_Z "CaseNet$MaskSet" "HAVING" "[J" (.ref tH) A U H ∧ va_T .long tH 6 hv_V A U H) ∧ va_Nw (.methodLinkNest "CaseNet$Net" 33 y_CN_isBetween "CaseNet") U
theorem ZsC_ok : ly_Zok ZsC := ⟨fun A B U H ⟨⟨t, h1, h2⟩, h3⟩ hAB => ⟨⟨t, h1.narrow hAB, h2.narrow hAB⟩, h3⟩, fun A U H H1 ⟨⟨t, h1, h2⟩, h3⟩ hq => ⟨⟨t, h1.kept hq, h2.kept hq⟩, h3⟩, fun A u U H hvm ⟨⟨t, h1, h2⟩, h3⟩ => ⟨⟨t, h1.moved (hvm ▸ Vm.Alike.refl u.vm), h2.moved (hvm ▸ Vm.Alike.refl u.vm)⟩, h3.same rfl hvm⟩, fun A u U H hW ⟨⟨t, h1, h2⟩, h3⟩ => ⟨⟨t, h1.moved hW.alike, h2.moved hW.alike⟩, h3.warmM hW⟩⟩
def ZsM (_ : Nat → Prop) (_ : State) (_ : Heap) : Prop := True
theorem ZsM_ok : ly_Zok ZsM := ⟨fun _ _ _ _ _ _ => trivial, fun _ _ _ _ _ _ => trivial, fun _ _ _ _ _ _ => trivial, fun _ _ _ _ _ _ => trivial⟩
end
section
theorem d_CN_isBetween_0 : decode b_CN_isBetween 0 = .ok (.iload_n 0, 1) := by decide +kernel
theorem d_CN_isBetween_1 : decode b_CN_isBetween 1 = .ok (.iload_n 1, 1) := by decide +kernel
theorem d_CN_isBetween_2 : decode b_CN_isBetween 2 = .ok (.if_icmp .lt 12, 3) := by decide +kernel
theorem d_CN_isBetween_5 : decode b_CN_isBetween 5 = .ok (.iload_n 0, 1) := by decide +kernel
theorem d_CN_isBetween_6 : decode b_CN_isBetween 6 = .ok (.iload_n 2, 1) := by decide +kernel
theorem d_CN_isBetween_7 : decode b_CN_isBetween 7 = .ok (.if_icmp .gt 7, 3) := by decide +kernel
theorem d_CN_isBetween_10 : decode b_CN_isBetween 10 = .ok (.iconst 1, 1) := by decide +kernel
theorem d_CN_isBetween_11 : decode b_CN_isBetween 11 = .ok (.goto 4, 3) := by decide +kernel
theorem d_CN_isBetween_14 : decode b_CN_isBetween 14 = .ok (.iconst 0, 1) := by decide +kernel
theorem d_CN_isBetween_15 : decode b_CN_isBetween 15 = .ok (.ireturn, 1) := by decide +kernel
theorem d_Integer_bitCount_0 : decode b_Integer_bitCount 0 = .ok (.iload_n 0, 1) := by decide +kernel
theorem d_Integer_bitCount_1 : decode b_Integer_bitCount 1 = .ok (.iload_n 0, 1) := by decide +kernel
theorem d_Integer_bitCount_2 : decode b_Integer_bitCount 2 = .ok (.iconst 1, 1) := by decide +kernel
theorem d_Integer_bitCount_3 : decode b_Integer_bitCount 3 = .ok (.iushr, 1) := by decide +kernel
theorem d_Integer_bitCount_4 : decode b_Integer_bitCount 4 = .ok (.ldc_w 265, 3) := by decide +kernel
theorem d_Integer_bitCount_7 : decode b_Integer_bitCount 7 = .ok (.iand, 1) := by decide +kernel
theorem d_Integer_bitCount_8 : decode b_Integer_bitCount 8 = .ok (.isub, 1) := by decide +kernel
theorem d_Integer_bitCount_9 : decode b_Integer_bitCount 9 = .ok (.istore_n 0, 1) := by decide +kernel
theorem d_Integer_bitCount_10 : decode b_Integer_bitCount 10 = .ok (.iload_n 0, 1) := by decide +kernel
theorem d_Integer_bitCount_11 : decode b_Integer_bitCount 11 = .ok (.ldc_w 266, 3) := by decide +kernel
theorem d_Integer_bitCount_14 : decode b_Integer_bitCount 14 = .ok (.iand, 1) := by decide +kernel
theorem d_Integer_bitCount_15 : decode b_Integer_bitCount 15 = .ok (.iload_n 0, 1) := by decide +kernel
theorem d_Integer_bitCount_16 : decode b_Integer_bitCount 16 = .ok (.iconst 2, 1) := by decide +kernel
theorem d_Integer_bitCount_17 : decode b_Integer_bitCount 17 = .ok (.iushr, 1) := by decide +kernel
theorem d_Integer_bitCount_18 : decode b_Integer_bitCount 18 = .ok (.ldc_w 266, 3) := by decide +kernel
theorem d_Integer_bitCount_21 : decode b_Integer_bitCount 21 = .ok (.iand, 1) := by decide +kernel
theorem d_Integer_bitCount_22 : decode b_Integer_bitCount 22 = .ok (.iadd, 1) := by decide +kernel
theorem d_Integer_bitCount_23 : decode b_Integer_bitCount 23 = .ok (.istore_n 0, 1) := by decide +kernel
theorem d_Integer_bitCount_24 : decode b_Integer_bitCount 24 = .ok (.iload_n 0, 1) := by decide +kernel
theorem d_Integer_bitCount_25 : decode b_Integer_bitCount 25 = .ok (.iload_n 0, 1) := by decide +kernel
theorem d_Integer_bitCount_26 : decode b_Integer_bitCount 26 = .ok (.iconst 4, 1) := by decide +kernel
theorem d_Integer_bitCount_27 : decode b_Integer_bitCount 27 = .ok (.iushr, 1) := by decide +kernel
theorem d_Integer_bitCount_28 : decode b_Integer_bitCount 28 = .ok (.iadd, 1) := by decide +kernel
theorem d_Integer_bitCount_29 : decode b_Integer_bitCount 29 = .ok (.ldc_w 267, 3) := by decide +kernel
theorem d_Integer_bitCount_32 : decode b_Integer_bitCount 32 = .ok (.iand, 1) := by decide +kernel
theorem d_Integer_bitCount_33 : decode b_Integer_bitCount 33 = .ok (.istore_n 0, 1) := by decide +kernel
theorem d_Integer_bitCount_34 : decode b_Integer_bitCount 34 = .ok (.iload_n 0, 1) := by decide +kernel
theorem d_Integer_bitCount_35 : decode b_Integer_bitCount 35 = .ok (.iload_n 0, 1) := by decide +kernel
theorem d_Integer_bitCount_36 : decode b_Integer_bitCount 36 = .ok (.bipush 8, 2) := by decide +kernel
theorem d_Integer_bitCount_38 : decode b_Integer_bitCount 38 = .ok (.iushr, 1) := by decide +kernel
theorem d_Integer_bitCount_39 : decode b_Integer_bitCount 39 = .ok (.iadd, 1) := by decide +kernel
theorem d_Integer_bitCount_40 : decode b_Integer_bitCount 40 = .ok (.istore_n 0, 1) := by decide +kernel
theorem d_Integer_bitCount_41 : decode b_Integer_bitCount 41 = .ok (.iload_n 0, 1) := by decide +kernel
theorem d_Integer_bitCount_42 : decode b_Integer_bitCount 42 = .ok (.iload_n 0, 1) := by decide +kernel
theorem d_Integer_bitCount_43 : decode b_Integer_bitCount 43 = .ok (.bipush 16, 2) := by decide +kernel
theorem d_Integer_bitCount_45 : decode b_Integer_bitCount 45 = .ok (.iushr, 1) := by decide +kernel
theorem d_Integer_bitCount_46 : decode b_Integer_bitCount 46 = .ok (.iadd, 1) := by decide +kernel
theorem d_Integer_bitCount_47 : decode b_Integer_bitCount 47 = .ok (.istore_n 0, 1) := by decide +kernel
theorem d_Integer_bitCount_48 : decode b_Integer_bitCount 48 = .ok (.iload_n 0, 1) := by decide +kernel
theorem d_Integer_bitCount_49 : decode b_Integer_bitCount 49 = .ok (.bipush 63, 2) := by decide +kernel
theorem d_Integer_bitCount_51 : decode b_Integer_bitCount 51 = .ok (.iand, 1) := by decide +kernel
theorem d_Integer_bitCount_52 : decode b_Integer_bitCount 52 = .ok (.ireturn, 1) := by decide +kernel
theorem d_CN_isOneToThreeConditions_0 : decode b_CN_isOneToThreeConditions 0 = .ok (.iload_n 0, 1) := by decide +kernel
theorem d_CN_isOneToThreeConditions_1 : decode b_CN_isOneToThreeConditions 1 = .ok (.bipush 8, 2) := by decide +kernel
theorem d_CN_isOneToThreeConditions_3 : decode b_CN_isOneToThreeConditions 3 = .ok (.iushr, 1) := by decide +kernel
theorem d_CN_isOneToThreeConditions_4 : decode b_CN_isOneToThreeConditions 4 = .ok (.ifCond .ne 19, 3) := by decide +kernel
theorem d_CN_isOneToThreeConditions_7 : decode b_CN_isOneToThreeConditions 7 = .ok (.iload_n 0, 1) := by decide +kernel
theorem d_CN_isOneToThreeConditions_8 : decode b_CN_isOneToThreeConditions 8 = .ok (.invokestatic 156, 3) := by decide +kernel
theorem d_CN_isOneToThreeConditions_11 : decode b_CN_isOneToThreeConditions 11 = .ok (.iconst 1, 1) := by decide +kernel
theorem d_CN_isOneToThreeConditions_12 : decode b_CN_isOneToThreeConditions 12 = .ok (.iconst 3, 1) := by decide +kernel
theorem d_CN_isOneToThreeConditions_13 : decode b_CN_isOneToThreeConditions 13 = .ok (.invokestatic 31, 3) := by decide +kernel
theorem d_CN_isOneToThreeConditions_16 : decode b_CN_isOneToThreeConditions 16 = .ok (.ifCond .eq 7, 3) := by decide +kernel
theorem d_CN_isOneToThreeConditions_19 : decode b_CN_isOneToThreeConditions 19 = .ok (.iconst 1, 1) := by decide +kernel
theorem d_CN_isOneToThreeConditions_20 : decode b_CN_isOneToThreeConditions 20 = .ok (.goto 4, 3) := by decide +kernel
theorem d_CN_isOneToThreeConditions_23 : decode b_CN_isOneToThreeConditions 23 = .ok (.iconst 0, 1) := by decide +kernel
theorem d_CN_isOneToThreeConditions_24 : decode b_CN_isOneToThreeConditions 24 = .ok (.ireturn, 1) := by decide +kernel
theorem d_Task_putWork_0 : decode b_Task_putWork 0 = .ok (.aload_n 0, 1) := by decide +kernel
theorem d_Task_putWork_1 : decode b_Task_putWork 1 = .ok (.iload_n 1, 1) := by decide +kernel
theorem d_Task_putWork_2 : decode b_Task_putWork 2 = .ok (.putfield 65, 3) := by decide +kernel
theorem d_Task_putWork_5 : decode b_Task_putWork 5 = .ok (.aload_n 0, 1) := by decide +kernel
theorem d_Task_putWork_6 : decode b_Task_putWork 6 = .ok (.iload_n 2, 1) := by decide +kernel
theorem d_Task_putWork_7 : decode b_Task_putWork 7 = .ok (.putfield 68, 3) := by decide +kernel
theorem d_Task_putWork_10 : decode b_Task_putWork 10 = .ok (.aload_n 0, 1) := by decide +kernel
theorem d_Task_putWork_11 : decode b_Task_putWork 11 = .ok (.iload_n 3, 1) := by decide +kernel
theorem d_Task_putWork_12 : decode b_Task_putWork 12 = .ok (.putfield 71, 3) := by decide +kernel
theorem d_Task_putWork_15 : decode b_Task_putWork 15 = .ok (.aload_n 0, 1) := by decide +kernel
theorem d_Task_putWork_16 : decode b_Task_putWork 16 = .ok (.iload 4, 2) := by decide +kernel
theorem d_Task_putWork_18 : decode b_Task_putWork 18 = .ok (.putfield 74, 3) := by decide +kernel
theorem d_Task_putWork_21 : decode b_Task_putWork 21 = .ok (.return_, 1) := by decide +kernel
theorem d_Task_putGuard_0 : decode b_Task_putGuard 0 = .ok (.aload_n 0, 1) := by decide +kernel
theorem d_Task_putGuard_1 : decode b_Task_putGuard 1 = .ok (.getfield 18, 3) := by decide +kernel
theorem d_Task_putGuard_4 : decode b_Task_putGuard 4 = .ok (.iload_n 1, 1) := by decide +kernel
theorem d_Task_putGuard_5 : decode b_Task_putGuard 5 = .ok (.iload_n 2, 1) := by decide +kernel
theorem d_Task_putGuard_6 : decode b_Task_putGuard 6 = .ok (.iastore, 1) := by decide +kernel
theorem d_Task_putGuard_7 : decode b_Task_putGuard 7 = .ok (.aload_n 0, 1) := by decide +kernel
theorem d_Task_putGuard_8 : decode b_Task_putGuard 8 = .ok (.getfield 21, 3) := by decide +kernel
theorem d_Task_putGuard_11 : decode b_Task_putGuard 11 = .ok (.iload_n 1, 1) := by decide +kernel
theorem d_Task_putGuard_12 : decode b_Task_putGuard 12 = .ok (.iload_n 3, 1) := by decide +kernel
theorem d_Task_putGuard_13 : decode b_Task_putGuard 13 = .ok (.iastore, 1) := by decide +kernel
theorem d_Task_putGuard_14 : decode b_Task_putGuard 14 = .ok (.aload_n 0, 1) := by decide +kernel
theorem d_Task_putGuard_15 : decode b_Task_putGuard 15 = .ok (.getfield 24, 3) := by decide +kernel
theorem d_Task_putGuard_18 : decode b_Task_putGuard 18 = .ok (.iload_n 1, 1) := by decide +kernel
theorem d_Task_putGuard_19 : decode b_Task_putGuard 19 = .ok (.iload 4, 2) := by decide +kernel
theorem d_Task_putGuard_21 : decode b_Task_putGuard 21 = .ok (.iastore, 1) := by decide +kernel
theorem d_Task_putGuard_22 : decode b_Task_putGuard 22 = .ok (.return_, 1) := by decide +kernel
theorem d_Task_isMoveOf_0 : decode b_Task_isMoveOf 0 = .ok (.iload_n 0, 1) := by decide +kernel
theorem d_Task_isMoveOf_1 : decode b_Task_isMoveOf 1 = .ok (.lookupswitch 52 #[(0, 27), (1, 38)], 27) := by decide +kernel
theorem d_Task_isMoveOf_28 : decode b_Task_isMoveOf 28 = .ok (.iload_n 1, 1) := by decide +kernel
theorem d_Task_isMoveOf_29 : decode b_Task_isMoveOf 29 = .ok (.iload_n 2, 1) := by decide +kernel
theorem d_Task_isMoveOf_30 : decode b_Task_isMoveOf 30 = .ok (.if_icmp .ne 7, 3) := by decide +kernel
theorem d_Task_isMoveOf_33 : decode b_Task_isMoveOf 33 = .ok (.iconst 1, 1) := by decide +kernel
theorem d_Task_isMoveOf_34 : decode b_Task_isMoveOf 34 = .ok (.goto 4, 3) := by decide +kernel
theorem d_Task_isMoveOf_37 : decode b_Task_isMoveOf 37 = .ok (.iconst 0, 1) := by decide +kernel
theorem d_Task_isMoveOf_38 : decode b_Task_isMoveOf 38 = .ok (.ireturn, 1) := by decide +kernel
theorem d_Task_isMoveOf_39 : decode b_Task_isMoveOf 39 = .ok (.iload_n 1, 1) := by decide +kernel
theorem d_Task_isMoveOf_40 : decode b_Task_isMoveOf 40 = .ok (.invokestatic 87, 3) := by decide +kernel
theorem d_Task_isMoveOf_43 : decode b_Task_isMoveOf 43 = .ok (.iconst 1, 1) := by decide +kernel
theorem d_Task_isMoveOf_44 : decode b_Task_isMoveOf 44 = .ok (.if_icmp .ne 7, 3) := by decide +kernel
theorem d_Task_isMoveOf_47 : decode b_Task_isMoveOf 47 = .ok (.iconst 1, 1) := by decide +kernel
theorem d_Task_isMoveOf_48 : decode b_Task_isMoveOf 48 = .ok (.goto 4, 3) := by decide +kernel
theorem d_Task_isMoveOf_51 : decode b_Task_isMoveOf 51 = .ok (.iconst 0, 1) := by decide +kernel
theorem d_Task_isMoveOf_52 : decode b_Task_isMoveOf 52 = .ok (.ireturn, 1) := by decide +kernel
theorem d_Task_isMoveOf_53 : decode b_Task_isMoveOf 53 = .ok (.iconst 1, 1) := by decide +kernel
theorem d_Task_isMoveOf_54 : decode b_Task_isMoveOf 54 = .ok (.ireturn, 1) := by decide +kernel
theorem d_Task_listTakes_0 : decode b_Task_listTakes 0 = .ok (.aload_n 0, 1) := by decide +kernel
theorem d_Task_listTakes_1 : decode b_Task_listTakes 1 = .ok (.iconst 0, 1) := by decide +kernel
theorem d_Task_listTakes_2 : decode b_Task_listTakes 2 = .ok (.putfield 77, 3) := by decide +kernel
theorem d_Task_listTakes_5 : decode b_Task_listTakes 5 = .ok (.iconst 1, 1) := by decide +kernel
theorem d_Task_listTakes_6 : decode b_Task_listTakes 6 = .ok (.istore_n 1, 1) := by decide +kernel
theorem d_Task_listTakes_7 : decode b_Task_listTakes 7 = .ok (.iload_n 1, 1) := by decide +kernel
theorem d_Task_listTakes_8 : decode b_Task_listTakes 8 = .ok (.aload_n 0, 1) := by decide +kernel
theorem d_Task_listTakes_9 : decode b_Task_listTakes 9 = .ok (.getfield 41, 3) := by decide +kernel
theorem d_Task_listTakes_12 : decode b_Task_listTakes 12 = .ok (.if_icmp .gt 63, 3) := by decide +kernel
theorem d_Task_listTakes_15 : decode b_Task_listTakes 15 = .ok (.iload_n 1, 1) := by decide +kernel
theorem d_Task_listTakes_16 : decode b_Task_listTakes 16 = .ok (.aload_n 0, 1) := by decide +kernel
theorem d_Task_listTakes_17 : decode b_Task_listTakes 17 = .ok (.getfield 41, 3) := by decide +kernel
theorem d_Task_listTakes_20 : decode b_Task_listTakes 20 = .ok (.iconst (-1), 1) := by decide +kernel
theorem d_Task_listTakes_21 : decode b_Task_listTakes 21 = .ok (.ixor, 1) := by decide +kernel
theorem d_Task_listTakes_22 : decode b_Task_listTakes 22 = .ok (.iand, 1) := by decide +kernel
theorem d_Task_listTakes_23 : decode b_Task_listTakes 23 = .ok (.ifCond .ne 46, 3) := by decide +kernel
theorem d_Task_listTakes_26 : decode b_Task_listTakes 26 = .ok (.aload_n 0, 1) := by decide +kernel
theorem d_Task_listTakes_27 : decode b_Task_listTakes 27 = .ok (.getfield 35, 3) := by decide +kernel
theorem d_Task_listTakes_30 : decode b_Task_listTakes 30 = .ok (.ifCond .ne 7, 3) := by decide +kernel
theorem d_Task_listTakes_33 : decode b_Task_listTakes 33 = .ok (.iconst 0, 1) := by decide +kernel
theorem d_Task_listTakes_34 : decode b_Task_listTakes 34 = .ok (.goto 4, 3) := by decide +kernel
theorem d_Task_listTakes_37 : decode b_Task_listTakes 37 = .ok (.iconst 1, 1) := by decide +kernel
theorem d_Task_listTakes_38 : decode b_Task_listTakes 38 = .ok (.iload_n 1, 1) := by decide +kernel
theorem d_Task_listTakes_39 : decode b_Task_listTakes 39 = .ok (.aload_n 0, 1) := by decide +kernel
theorem d_Task_listTakes_40 : decode b_Task_listTakes 40 = .ok (.getfield 41, 3) := by decide +kernel
theorem d_Task_listTakes_43 : decode b_Task_listTakes 43 = .ok (.invokestatic 80, 3) := by decide +kernel
theorem d_Task_listTakes_46 : decode b_Task_listTakes 46 = .ok (.ifCond .eq 23, 3) := by decide +kernel
theorem d_Task_listTakes_49 : decode b_Task_listTakes 49 = .ok (.aload_n 0, 1) := by decide +kernel
theorem d_Task_listTakes_50 : decode b_Task_listTakes 50 = .ok (.getfield 9, 3) := by decide +kernel
theorem d_Task_listTakes_53 : decode b_Task_listTakes 53 = .ok (.aload_n 0, 1) := by decide +kernel
theorem d_Task_listTakes_54 : decode b_Task_listTakes 54 = .ok (.getfield 77, 3) := by decide +kernel
theorem d_Task_listTakes_57 : decode b_Task_listTakes 57 = .ok (.iload_n 1, 1) := by decide +kernel
theorem d_Task_listTakes_58 : decode b_Task_listTakes 58 = .ok (.iastore, 1) := by decide +kernel
theorem d_Task_listTakes_59 : decode b_Task_listTakes 59 = .ok (.aload_n 0, 1) := by decide +kernel
theorem d_Task_listTakes_60 : decode b_Task_listTakes 60 = .ok (.dup, 1) := by decide +kernel
theorem d_Task_listTakes_61 : decode b_Task_listTakes 61 = .ok (.getfield 77, 3) := by decide +kernel
theorem d_Task_listTakes_64 : decode b_Task_listTakes 64 = .ok (.iconst 1, 1) := by decide +kernel
theorem d_Task_listTakes_65 : decode b_Task_listTakes 65 = .ok (.iadd, 1) := by decide +kernel
theorem d_Task_listTakes_66 : decode b_Task_listTakes 66 = .ok (.putfield 77, 3) := by decide +kernel
theorem d_Task_listTakes_69 : decode b_Task_listTakes 69 = .ok (.iinc 1 1, 3) := by decide +kernel
theorem d_Task_listTakes_72 : decode b_Task_listTakes 72 = .ok (.goto (-65), 3) := by decide +kernel
theorem d_Task_listTakes_75 : decode b_Task_listTakes 75 = .ok (.return_, 1) := by decide +kernel
theorem d_Task_listPuts_0 : decode b_Task_listPuts 0 = .ok (.aload_n 0, 1) := by decide +kernel
theorem d_Task_listPuts_1 : decode b_Task_listPuts 1 = .ok (.iconst 0, 1) := by decide +kernel
theorem d_Task_listPuts_2 : decode b_Task_listPuts 2 = .ok (.putfield 84, 3) := by decide +kernel
theorem d_Task_listPuts_5 : decode b_Task_listPuts 5 = .ok (.iconst 1, 1) := by decide +kernel
theorem d_Task_listPuts_6 : decode b_Task_listPuts 6 = .ok (.istore_n 1, 1) := by decide +kernel
theorem d_Task_listPuts_7 : decode b_Task_listPuts 7 = .ok (.iload_n 1, 1) := by decide +kernel
theorem d_Task_listPuts_8 : decode b_Task_listPuts 8 = .ok (.aload_n 0, 1) := by decide +kernel
theorem d_Task_listPuts_9 : decode b_Task_listPuts 9 = .ok (.getfield 44, 3) := by decide +kernel
theorem d_Task_listPuts_12 : decode b_Task_listPuts 12 = .ok (.if_icmp .gt 55, 3) := by decide +kernel
theorem d_Task_listPuts_15 : decode b_Task_listPuts 15 = .ok (.iload_n 1, 1) := by decide +kernel
theorem d_Task_listPuts_16 : decode b_Task_listPuts 16 = .ok (.aload_n 0, 1) := by decide +kernel
theorem d_Task_listPuts_17 : decode b_Task_listPuts 17 = .ok (.getfield 44, 3) := by decide +kernel
theorem d_Task_listPuts_20 : decode b_Task_listPuts 20 = .ok (.iconst (-1), 1) := by decide +kernel
theorem d_Task_listPuts_21 : decode b_Task_listPuts 21 = .ok (.ixor, 1) := by decide +kernel
theorem d_Task_listPuts_22 : decode b_Task_listPuts 22 = .ok (.iand, 1) := by decide +kernel
theorem d_Task_listPuts_23 : decode b_Task_listPuts 23 = .ok (.ifCond .ne 38, 3) := by decide +kernel
theorem d_Task_listPuts_26 : decode b_Task_listPuts 26 = .ok (.aload_n 0, 1) := by decide +kernel
theorem d_Task_listPuts_27 : decode b_Task_listPuts 27 = .ok (.getfield 38, 3) := by decide +kernel
theorem d_Task_listPuts_30 : decode b_Task_listPuts 30 = .ok (.iload_n 1, 1) := by decide +kernel
theorem d_Task_listPuts_31 : decode b_Task_listPuts 31 = .ok (.aload_n 0, 1) := by decide +kernel
theorem d_Task_listPuts_32 : decode b_Task_listPuts 32 = .ok (.getfield 44, 3) := by decide +kernel
theorem d_Task_listPuts_35 : decode b_Task_listPuts 35 = .ok (.invokestatic 80, 3) := by decide +kernel
theorem d_Task_listPuts_38 : decode b_Task_listPuts 38 = .ok (.ifCond .eq 23, 3) := by decide +kernel
theorem d_Task_listPuts_41 : decode b_Task_listPuts 41 = .ok (.aload_n 0, 1) := by decide +kernel
theorem d_Task_listPuts_42 : decode b_Task_listPuts 42 = .ok (.getfield 15, 3) := by decide +kernel
theorem d_Task_listPuts_45 : decode b_Task_listPuts 45 = .ok (.aload_n 0, 1) := by decide +kernel
theorem d_Task_listPuts_46 : decode b_Task_listPuts 46 = .ok (.getfield 84, 3) := by decide +kernel
theorem d_Task_listPuts_49 : decode b_Task_listPuts 49 = .ok (.iload_n 1, 1) := by decide +kernel
theorem d_Task_listPuts_50 : decode b_Task_listPuts 50 = .ok (.iastore, 1) := by decide +kernel
theorem d_Task_listPuts_51 : decode b_Task_listPuts 51 = .ok (.aload_n 0, 1) := by decide +kernel
theorem d_Task_listPuts_52 : decode b_Task_listPuts 52 = .ok (.dup, 1) := by decide +kernel
theorem d_Task_listPuts_53 : decode b_Task_listPuts 53 = .ok (.getfield 84, 3) := by decide +kernel
theorem d_Task_listPuts_56 : decode b_Task_listPuts 56 = .ok (.iconst 1, 1) := by decide +kernel
theorem d_Task_listPuts_57 : decode b_Task_listPuts 57 = .ok (.iadd, 1) := by decide +kernel
theorem d_Task_listPuts_58 : decode b_Task_listPuts 58 = .ok (.putfield 84, 3) := by decide +kernel
theorem d_Task_listPuts_61 : decode b_Task_listPuts 61 = .ok (.iinc 1 1, 3) := by decide +kernel
theorem d_Task_listPuts_64 : decode b_Task_listPuts 64 = .ok (.goto (-57), 3) := by decide +kernel
theorem d_Task_listPuts_67 : decode b_Task_listPuts 67 = .ok (.return_, 1) := by decide +kernel
theorem d_Task_define_0 : decode b_Task_define 0 = .ok (.aload_n 0, 1) := by decide +kernel
theorem d_Task_define_1 : decode b_Task_define 1 = .ok (.iconst 1, 1) := by decide +kernel
theorem d_Task_define_2 : decode b_Task_define 2 = .ok (.putfield 31, 3) := by decide +kernel
theorem d_Task_define_5 : decode b_Task_define 5 = .ok (.aload_n 0, 1) := by decide +kernel
theorem d_Task_define_6 : decode b_Task_define 6 = .ok (.iload_n 1, 1) := by decide +kernel
theorem d_Task_define_7 : decode b_Task_define 7 = .ok (.putfield 35, 3) := by decide +kernel
theorem d_Task_define_10 : decode b_Task_define 10 = .ok (.aload_n 0, 1) := by decide +kernel
theorem d_Task_define_11 : decode b_Task_define 11 = .ok (.iload_n 2, 1) := by decide +kernel
theorem d_Task_define_12 : decode b_Task_define 12 = .ok (.putfield 38, 3) := by decide +kernel
theorem d_Task_define_15 : decode b_Task_define 15 = .ok (.aload_n 0, 1) := by decide +kernel
theorem d_Task_define_16 : decode b_Task_define 16 = .ok (.iload_n 3, 1) := by decide +kernel
theorem d_Task_define_17 : decode b_Task_define 17 = .ok (.putfield 41, 3) := by decide +kernel
theorem d_Task_define_20 : decode b_Task_define 20 = .ok (.aload_n 0, 1) := by decide +kernel
theorem d_Task_define_21 : decode b_Task_define 21 = .ok (.iload 4, 2) := by decide +kernel
theorem d_Task_define_23 : decode b_Task_define 23 = .ok (.putfield 44, 3) := by decide +kernel
theorem d_Task_define_26 : decode b_Task_define 26 = .ok (.aload_n 0, 1) := by decide +kernel
theorem d_Task_define_27 : decode b_Task_define 27 = .ok (.iconst 0, 1) := by decide +kernel
theorem d_Task_define_28 : decode b_Task_define 28 = .ok (.putfield 47, 3) := by decide +kernel
theorem d_Task_define_31 : decode b_Task_define 31 = .ok (.aload_n 0, 1) := by decide +kernel
theorem d_Task_define_32 : decode b_Task_define 32 = .ok (.iconst 1, 1) := by decide +kernel
theorem d_Task_define_33 : decode b_Task_define 33 = .ok (.iconst 1, 1) := by decide +kernel
theorem d_Task_define_34 : decode b_Task_define 34 = .ok (.iconst 0, 1) := by decide +kernel
theorem d_Task_define_35 : decode b_Task_define 35 = .ok (.iconst 0, 1) := by decide +kernel
theorem d_Task_define_36 : decode b_Task_define 36 = .ok (.invokevirtual 50, 3) := by decide +kernel
theorem d_Task_define_39 : decode b_Task_define 39 = .ok (.iconst 0, 1) := by decide +kernel
theorem d_Task_define_40 : decode b_Task_define 40 = .ok (.istore 5, 2) := by decide +kernel
theorem d_Task_define_42 : decode b_Task_define 42 = .ok (.iload 5, 2) := by decide +kernel
theorem d_Task_define_44 : decode b_Task_define 44 = .ok (.bipush 8, 2) := by decide +kernel
theorem d_Task_define_46 : decode b_Task_define 46 = .ok (.if_icmp .ge 20, 3) := by decide +kernel
theorem d_Task_define_49 : decode b_Task_define 49 = .ok (.aload_n 0, 1) := by decide +kernel
theorem d_Task_define_50 : decode b_Task_define 50 = .ok (.iload 5, 2) := by decide +kernel
theorem d_Task_define_52 : decode b_Task_define 52 = .ok (.iconst 0, 1) := by decide +kernel
theorem d_Task_define_53 : decode b_Task_define 53 = .ok (.ldc 54, 2) := by decide +kernel
theorem d_Task_define_55 : decode b_Task_define 55 = .ok (.ldc 55, 2) := by decide +kernel
theorem d_Task_define_57 : decode b_Task_define 57 = .ok (.invokevirtual 56, 3) := by decide +kernel
theorem d_Task_define_60 : decode b_Task_define 60 = .ok (.iinc 5 1, 3) := by decide +kernel
theorem d_Task_define_63 : decode b_Task_define 63 = .ok (.goto (-21), 3) := by decide +kernel
theorem d_Task_define_66 : decode b_Task_define 66 = .ok (.aload_n 0, 1) := by decide +kernel
theorem d_Task_define_67 : decode b_Task_define 67 = .ok (.invokevirtual 59, 3) := by decide +kernel
theorem d_Task_define_70 : decode b_Task_define 70 = .ok (.aload_n 0, 1) := by decide +kernel
theorem d_Task_define_71 : decode b_Task_define 71 = .ok (.invokevirtual 62, 3) := by decide +kernel
theorem d_Task_define_74 : decode b_Task_define 74 = .ok (.return_, 1) := by decide +kernel
theorem d_CN_task_0 : decode b_CN_task 0 = .ok (.aload_n 0, 1) := by decide +kernel
theorem d_CN_task_1 : decode b_CN_task 1 = .ok (.getfield 27, 3) := by decide +kernel
theorem d_CN_task_4 : decode b_CN_task 4 = .ok (.ifCond .ne 12, 3) := by decide +kernel
theorem d_CN_task_7 : decode b_CN_task 7 = .ok (.iload_n 1, 1) := by decide +kernel
theorem d_CN_task_8 : decode b_CN_task 8 = .ok (.iconst 0, 1) := by decide +kernel
theorem d_CN_task_9 : decode b_CN_task 9 = .ok (.iconst 5, 1) := by decide +kernel
theorem d_CN_task_10 : decode b_CN_task 10 = .ok (.invokestatic 31, 3) := by decide +kernel
theorem d_CN_task_13 : decode b_CN_task 13 = .ok (.ifCond .ne 5, 3) := by decide +kernel
theorem d_CN_task_16 : decode b_CN_task 16 = .ok (.iconst 0, 1) := by decide +kernel
theorem d_CN_task_17 : decode b_CN_task 17 = .ok (.ireturn, 1) := by decide +kernel
theorem d_CN_task_18 : decode b_CN_task 18 = .ok (.iload_n 2, 1) := by decide +kernel
theorem d_CN_task_19 : decode b_CN_task 19 = .ok (.iconst 0, 1) := by decide +kernel
theorem d_CN_task_20 : decode b_CN_task 20 = .ok (.iconst 2, 1) := by decide +kernel
theorem d_CN_task_21 : decode b_CN_task 21 = .ok (.invokestatic 31, 3) := by decide +kernel
theorem d_CN_task_24 : decode b_CN_task 24 = .ok (.ifCond .eq 12, 3) := by decide +kernel
theorem d_CN_task_27 : decode b_CN_task 27 = .ok (.iload_n 3, 1) := by decide +kernel
theorem d_CN_task_28 : decode b_CN_task 28 = .ok (.iconst 0, 1) := by decide +kernel
theorem d_CN_task_29 : decode b_CN_task 29 = .ok (.iconst 2, 1) := by decide +kernel
theorem d_CN_task_30 : decode b_CN_task 30 = .ok (.invokestatic 31, 3) := by decide +kernel
theorem d_CN_task_33 : decode b_CN_task 33 = .ok (.ifCond .ne 5, 3) := by decide +kernel
theorem d_CN_task_36 : decode b_CN_task 36 = .ok (.iconst 0, 1) := by decide +kernel
theorem d_CN_task_37 : decode b_CN_task 37 = .ok (.ireturn, 1) := by decide +kernel
theorem d_CN_task_38 : decode b_CN_task 38 = .ok (.iload 4, 2) := by decide +kernel
theorem d_CN_task_40 : decode b_CN_task 40 = .ok (.invokestatic 35, 3) := by decide +kernel
theorem d_CN_task_43 : decode b_CN_task 43 = .ok (.ifCond .eq 11, 3) := by decide +kernel
theorem d_CN_task_46 : decode b_CN_task 46 = .ok (.iload 5, 2) := by decide +kernel
theorem d_CN_task_48 : decode b_CN_task 48 = .ok (.invokestatic 35, 3) := by decide +kernel
theorem d_CN_task_51 : decode b_CN_task 51 = .ok (.ifCond .ne 5, 3) := by decide +kernel
theorem d_CN_task_54 : decode b_CN_task 54 = .ok (.iconst 0, 1) := by decide +kernel
theorem d_CN_task_55 : decode b_CN_task 55 = .ok (.ireturn, 1) := by decide +kernel
theorem d_CN_task_56 : decode b_CN_task 56 = .ok (.aload_n 0, 1) := by decide +kernel
theorem d_CN_task_57 : decode b_CN_task 57 = .ok (.getfield 12, 3) := by decide +kernel
theorem d_CN_task_60 : decode b_CN_task 60 = .ok (.getfield 39, 3) := by decide +kernel
theorem d_CN_task_63 : decode b_CN_task 63 = .ok (.iload_n 1, 1) := by decide +kernel
theorem d_CN_task_64 : decode b_CN_task 64 = .ok (.aaload, 1) := by decide +kernel
theorem d_CN_task_65 : decode b_CN_task 65 = .ok (.iload_n 2, 1) := by decide +kernel
theorem d_CN_task_66 : decode b_CN_task 66 = .ok (.iload_n 3, 1) := by decide +kernel
theorem d_CN_task_67 : decode b_CN_task 67 = .ok (.iload 4, 2) := by decide +kernel
theorem d_CN_task_69 : decode b_CN_task 69 = .ok (.iload 5, 2) := by decide +kernel
theorem d_CN_task_71 : decode b_CN_task 71 = .ok (.invokevirtual 43, 3) := by decide +kernel
theorem d_CN_task_74 : decode b_CN_task 74 = .ok (.iconst 1, 1) := by decide +kernel
theorem d_CN_task_75 : decode b_CN_task 75 = .ok (.ireturn, 1) := by decide +kernel
theorem d_Net_isDefined_0 : decode b_Net_isDefined 0 = .ok (.iload_n 1, 1) := by decide +kernel
theorem d_Net_isDefined_1 : decode b_Net_isDefined 1 = .ok (.iconst 0, 1) := by decide +kernel
theorem d_Net_isDefined_2 : decode b_Net_isDefined 2 = .ok (.iconst 5, 1) := by decide +kernel
theorem d_Net_isDefined_3 : decode b_Net_isDefined 3 = .ok (.invokestatic 33, 3) := by decide +kernel
theorem d_Net_isDefined_6 : decode b_Net_isDefined 6 = .ok (.ifCond .eq 19, 3) := by decide +kernel
theorem d_Net_isDefined_9 : decode b_Net_isDefined 9 = .ok (.aload_n 0, 1) := by decide +kernel
theorem d_Net_isDefined_10 : decode b_Net_isDefined 10 = .ok (.getfield 11, 3) := by decide +kernel
theorem d_Net_isDefined_13 : decode b_Net_isDefined 13 = .ok (.iload_n 1, 1) := by decide +kernel
theorem d_Net_isDefined_14 : decode b_Net_isDefined 14 = .ok (.aaload, 1) := by decide +kernel
theorem d_Net_isDefined_15 : decode b_Net_isDefined 15 = .ok (.getfield 37, 3) := by decide +kernel
theorem d_Net_isDefined_18 : decode b_Net_isDefined 18 = .ok (.ifCond .eq 7, 3) := by decide +kernel
theorem d_Net_isDefined_21 : decode b_Net_isDefined 21 = .ok (.iconst 1, 1) := by decide +kernel
theorem d_Net_isDefined_22 : decode b_Net_isDefined 22 = .ok (.goto 4, 3) := by decide +kernel
theorem d_Net_isDefined_25 : decode b_Net_isDefined 25 = .ok (.iconst 0, 1) := by decide +kernel
theorem d_Net_isDefined_26 : decode b_Net_isDefined 26 = .ok (.ireturn, 1) := by decide +kernel
theorem d_CN_isMaskOfPlaces_0 : decode b_CN_isMaskOfPlaces 0 = .ok (.iload_n 0, 1) := by decide +kernel
theorem d_CN_isMaskOfPlaces_1 : decode b_CN_isMaskOfPlaces 1 = .ok (.bipush 14, 2) := by decide +kernel
theorem d_CN_isMaskOfPlaces_3 : decode b_CN_isMaskOfPlaces 3 = .ok (.iushr, 1) := by decide +kernel
theorem d_CN_isMaskOfPlaces_4 : decode b_CN_isMaskOfPlaces 4 = .ok (.ifCond .ne 7, 3) := by decide +kernel
theorem d_CN_isMaskOfPlaces_7 : decode b_CN_isMaskOfPlaces 7 = .ok (.iconst 1, 1) := by decide +kernel
theorem d_CN_isMaskOfPlaces_8 : decode b_CN_isMaskOfPlaces 8 = .ok (.goto 4, 3) := by decide +kernel
theorem d_CN_isMaskOfPlaces_11 : decode b_CN_isMaskOfPlaces 11 = .ok (.iconst 0, 1) := by decide +kernel
theorem d_CN_isMaskOfPlaces_12 : decode b_CN_isMaskOfPlaces 12 = .ok (.ireturn, 1) := by decide +kernel
theorem d_CN_region_0 : decode b_CN_region 0 = .ok (.aload_n 0, 1) := by decide +kernel
theorem d_CN_region_1 : decode b_CN_region 1 = .ok (.getfield 27, 3) := by decide +kernel
theorem d_CN_region_4 : decode b_CN_region 4 = .ok (.ifCond .ne 21, 3) := by decide +kernel
theorem d_CN_region_7 : decode b_CN_region 7 = .ok (.aload_n 0, 1) := by decide +kernel
theorem d_CN_region_8 : decode b_CN_region 8 = .ok (.getfield 12, 3) := by decide +kernel
theorem d_CN_region_11 : decode b_CN_region 11 = .ok (.iload_n 1, 1) := by decide +kernel
theorem d_CN_region_12 : decode b_CN_region 12 = .ok (.invokevirtual 49, 3) := by decide +kernel
theorem d_CN_region_15 : decode b_CN_region 15 = .ok (.ifCond .eq 10, 3) := by decide +kernel
theorem d_CN_region_18 : decode b_CN_region 18 = .ok (.iload_n 2, 1) := by decide +kernel
theorem d_CN_region_19 : decode b_CN_region 19 = .ok (.invokestatic 52, 3) := by decide +kernel
theorem d_CN_region_22 : decode b_CN_region 22 = .ok (.ifCond .ne 5, 3) := by decide +kernel
theorem d_CN_region_25 : decode b_CN_region 25 = .ok (.iconst 0, 1) := by decide +kernel
theorem d_CN_region_26 : decode b_CN_region 26 = .ok (.ireturn, 1) := by decide +kernel
theorem d_CN_region_27 : decode b_CN_region 27 = .ok (.aload_n 0, 1) := by decide +kernel
theorem d_CN_region_28 : decode b_CN_region 28 = .ok (.getfield 12, 3) := by decide +kernel
theorem d_CN_region_31 : decode b_CN_region 31 = .ok (.getfield 39, 3) := by decide +kernel
theorem d_CN_region_34 : decode b_CN_region 34 = .ok (.iload_n 1, 1) := by decide +kernel
theorem d_CN_region_35 : decode b_CN_region 35 = .ok (.aaload, 1) := by decide +kernel
theorem d_CN_region_36 : decode b_CN_region 36 = .ok (.iload_n 2, 1) := by decide +kernel
theorem d_CN_region_37 : decode b_CN_region 37 = .ok (.putfield 55, 3) := by decide +kernel
theorem d_CN_region_40 : decode b_CN_region 40 = .ok (.iconst 1, 1) := by decide +kernel
theorem d_CN_region_41 : decode b_CN_region 41 = .ok (.ireturn, 1) := by decide +kernel
theorem d_CN_isVariable_0 : decode b_CN_isVariable 0 = .ok (.iload_n 0, 1) := by decide +kernel
theorem d_CN_isVariable_1 : decode b_CN_isVariable 1 = .ok (.iconst 0, 1) := by decide +kernel
theorem d_CN_isVariable_2 : decode b_CN_isVariable 2 = .ok (.iconst 3, 1) := by decide +kernel
theorem d_CN_isVariable_3 : decode b_CN_isVariable 3 = .ok (.invokestatic 31, 3) := by decide +kernel
theorem d_CN_isVariable_6 : decode b_CN_isVariable 6 = .ok (.ireturn, 1) := by decide +kernel
theorem d_CN_guard_0 : decode b_CN_guard 0 = .ok (.aload_n 0, 1) := by decide +kernel
theorem d_CN_guard_1 : decode b_CN_guard 1 = .ok (.getfield 27, 3) := by decide +kernel
theorem d_CN_guard_4 : decode b_CN_guard 4 = .ok (.ifCond .ne 21, 3) := by decide +kernel
theorem d_CN_guard_7 : decode b_CN_guard 7 = .ok (.aload_n 0, 1) := by decide +kernel
theorem d_CN_guard_8 : decode b_CN_guard 8 = .ok (.getfield 12, 3) := by decide +kernel
theorem d_CN_guard_11 : decode b_CN_guard 11 = .ok (.iload_n 1, 1) := by decide +kernel
theorem d_CN_guard_12 : decode b_CN_guard 12 = .ok (.invokevirtual 49, 3) := by decide +kernel
theorem d_CN_guard_15 : decode b_CN_guard 15 = .ok (.ifCond .eq 10, 3) := by decide +kernel
theorem d_CN_guard_18 : decode b_CN_guard 18 = .ok (.iload_n 3, 1) := by decide +kernel
theorem d_CN_guard_19 : decode b_CN_guard 19 = .ok (.invokestatic 59, 3) := by decide +kernel
theorem d_CN_guard_22 : decode b_CN_guard 22 = .ok (.ifCond .ne 5, 3) := by decide +kernel
theorem d_CN_guard_25 : decode b_CN_guard 25 = .ok (.iconst 0, 1) := by decide +kernel
theorem d_CN_guard_26 : decode b_CN_guard 26 = .ok (.ireturn, 1) := by decide +kernel
theorem d_CN_guard_27 : decode b_CN_guard 27 = .ok (.iload_n 2, 1) := by decide +kernel
theorem d_CN_guard_28 : decode b_CN_guard 28 = .ok (.iconst 0, 1) := by decide +kernel
theorem d_CN_guard_29 : decode b_CN_guard 29 = .ok (.bipush 7, 2) := by decide +kernel
theorem d_CN_guard_31 : decode b_CN_guard 31 = .ok (.invokestatic 31, 3) := by decide +kernel
theorem d_CN_guard_34 : decode b_CN_guard 34 = .ok (.ifCond .eq 22, 3) := by decide +kernel
theorem d_CN_guard_37 : decode b_CN_guard 37 = .ok (.aload_n 0, 1) := by decide +kernel
theorem d_CN_guard_38 : decode b_CN_guard 38 = .ok (.getfield 12, 3) := by decide +kernel
theorem d_CN_guard_41 : decode b_CN_guard 41 = .ok (.getfield 39, 3) := by decide +kernel
theorem d_CN_guard_44 : decode b_CN_guard 44 = .ok (.iload_n 1, 1) := by decide +kernel
theorem d_CN_guard_45 : decode b_CN_guard 45 = .ok (.aaload, 1) := by decide +kernel
theorem d_CN_guard_46 : decode b_CN_guard 46 = .ok (.getfield 62, 3) := by decide +kernel
theorem d_CN_guard_49 : decode b_CN_guard 49 = .ok (.iconst 1, 1) := by decide +kernel
theorem d_CN_guard_50 : decode b_CN_guard 50 = .ok (.iload_n 2, 1) := by decide +kernel
theorem d_CN_guard_51 : decode b_CN_guard 51 = .ok (.ishl, 1) := by decide +kernel
theorem d_CN_guard_52 : decode b_CN_guard 52 = .ok (.iand, 1) := by decide +kernel
theorem d_CN_guard_53 : decode b_CN_guard 53 = .ok (.ifCond .ne 5, 3) := by decide +kernel
theorem d_CN_guard_56 : decode b_CN_guard 56 = .ok (.iconst 0, 1) := by decide +kernel
theorem d_CN_guard_57 : decode b_CN_guard 57 = .ok (.ireturn, 1) := by decide +kernel
theorem d_CN_guard_58 : decode b_CN_guard 58 = .ok (.aload_n 0, 1) := by decide +kernel
theorem d_CN_guard_59 : decode b_CN_guard 59 = .ok (.getfield 12, 3) := by decide +kernel
theorem d_CN_guard_62 : decode b_CN_guard 62 = .ok (.getfield 39, 3) := by decide +kernel
theorem d_CN_guard_65 : decode b_CN_guard 65 = .ok (.iload_n 1, 1) := by decide +kernel
theorem d_CN_guard_66 : decode b_CN_guard 66 = .ok (.aaload, 1) := by decide +kernel
theorem d_CN_guard_67 : decode b_CN_guard 67 = .ok (.iload_n 2, 1) := by decide +kernel
theorem d_CN_guard_68 : decode b_CN_guard 68 = .ok (.iload_n 3, 1) := by decide +kernel
theorem d_CN_guard_69 : decode b_CN_guard 69 = .ok (.iload 4, 2) := by decide +kernel
theorem d_CN_guard_71 : decode b_CN_guard 71 = .ok (.iload 5, 2) := by decide +kernel
theorem d_CN_guard_73 : decode b_CN_guard 73 = .ok (.invokevirtual 65, 3) := by decide +kernel
theorem d_CN_guard_76 : decode b_CN_guard 76 = .ok (.iconst 1, 1) := by decide +kernel
theorem d_CN_guard_77 : decode b_CN_guard 77 = .ok (.ireturn, 1) := by decide +kernel
theorem d_CN_items_0 : decode b_CN_items 0 = .ok (.aload_n 0, 1) := by decide +kernel
theorem d_CN_items_1 : decode b_CN_items 1 = .ok (.getfield 27, 3) := by decide +kernel
theorem d_CN_items_4 : decode b_CN_items 4 = .ok (.ifCond .ne 22, 3) := by decide +kernel
theorem d_CN_items_7 : decode b_CN_items 7 = .ok (.aload_n 0, 1) := by decide +kernel
theorem d_CN_items_8 : decode b_CN_items 8 = .ok (.getfield 12, 3) := by decide +kernel
theorem d_CN_items_11 : decode b_CN_items 11 = .ok (.iload_n 1, 1) := by decide +kernel
theorem d_CN_items_12 : decode b_CN_items 12 = .ok (.invokevirtual 49, 3) := by decide +kernel
theorem d_CN_items_15 : decode b_CN_items 15 = .ok (.ifCond .eq 11, 3) := by decide +kernel
theorem d_CN_items_18 : decode b_CN_items 18 = .ok (.iload 4, 2) := by decide +kernel
theorem d_CN_items_20 : decode b_CN_items 20 = .ok (.invokestatic 59, 3) := by decide +kernel
theorem d_CN_items_23 : decode b_CN_items 23 = .ok (.ifCond .ne 5, 3) := by decide +kernel
theorem d_CN_items_26 : decode b_CN_items 26 = .ok (.iconst 0, 1) := by decide +kernel
theorem d_CN_items_27 : decode b_CN_items 27 = .ok (.ireturn, 1) := by decide +kernel
theorem d_CN_items_28 : decode b_CN_items 28 = .ok (.iload_n 2, 1) := by decide +kernel
theorem d_CN_items_29 : decode b_CN_items 29 = .ok (.iconst 1, 1) := by decide +kernel
theorem d_CN_items_30 : decode b_CN_items 30 = .ok (.iconst 4, 1) := by decide +kernel
theorem d_CN_items_31 : decode b_CN_items 31 = .ok (.invokestatic 31, 3) := by decide +kernel
theorem d_CN_items_34 : decode b_CN_items 34 = .ok (.ifCond .eq 12, 3) := by decide +kernel
theorem d_CN_items_37 : decode b_CN_items 37 = .ok (.iload_n 3, 1) := by decide +kernel
theorem d_CN_items_38 : decode b_CN_items 38 = .ok (.iconst 1, 1) := by decide +kernel
theorem d_CN_items_39 : decode b_CN_items 39 = .ok (.iload_n 2, 1) := by decide +kernel
theorem d_CN_items_40 : decode b_CN_items 40 = .ok (.invokestatic 31, 3) := by decide +kernel
theorem d_CN_items_43 : decode b_CN_items 43 = .ok (.ifCond .ne 5, 3) := by decide +kernel
theorem d_CN_items_46 : decode b_CN_items 46 = .ok (.iconst 0, 1) := by decide +kernel
theorem d_CN_items_47 : decode b_CN_items 47 = .ok (.ireturn, 1) := by decide +kernel
theorem d_CN_items_48 : decode b_CN_items 48 = .ok (.iload 5, 2) := by decide +kernel
theorem d_CN_items_50 : decode b_CN_items 50 = .ok (.iconst 0, 1) := by decide +kernel
theorem d_CN_items_51 : decode b_CN_items 51 = .ok (.bipush 100, 2) := by decide +kernel
theorem d_CN_items_53 : decode b_CN_items 53 = .ok (.invokestatic 31, 3) := by decide +kernel
theorem d_CN_items_56 : decode b_CN_items 56 = .ok (.ifCond .ne 5, 3) := by decide +kernel
theorem d_CN_items_59 : decode b_CN_items 59 = .ok (.iconst 0, 1) := by decide +kernel
theorem d_CN_items_60 : decode b_CN_items 60 = .ok (.ireturn, 1) := by decide +kernel
theorem d_CN_items_61 : decode b_CN_items 61 = .ok (.aload_n 0, 1) := by decide +kernel
theorem d_CN_items_62 : decode b_CN_items 62 = .ok (.getfield 12, 3) := by decide +kernel
theorem d_CN_items_65 : decode b_CN_items 65 = .ok (.getfield 39, 3) := by decide +kernel
theorem d_CN_items_68 : decode b_CN_items 68 = .ok (.iload_n 1, 1) := by decide +kernel
theorem d_CN_items_69 : decode b_CN_items 69 = .ok (.aaload, 1) := by decide +kernel
theorem d_CN_items_70 : decode b_CN_items 70 = .ok (.iload_n 2, 1) := by decide +kernel
theorem d_CN_items_71 : decode b_CN_items 71 = .ok (.iload_n 3, 1) := by decide +kernel
theorem d_CN_items_72 : decode b_CN_items 72 = .ok (.iload 4, 2) := by decide +kernel
theorem d_CN_items_74 : decode b_CN_items 74 = .ok (.iload 5, 2) := by decide +kernel
theorem d_CN_items_76 : decode b_CN_items 76 = .ok (.invokevirtual 68, 3) := by decide +kernel
theorem d_CN_items_79 : decode b_CN_items 79 = .ok (.iconst 1, 1) := by decide +kernel
theorem d_CN_items_80 : decode b_CN_items 80 = .ok (.ireturn, 1) := by decide +kernel
end
section
theorem d_Md_verdict_0 : decode b_Md_verdict 0 = .ok (.iconst 0, 1) := by decide +kernel
theorem d_Md_verdict_1 : decode b_Md_verdict 1 = .ok (.istore_n 1, 1) := by decide +kernel
theorem d_Md_verdict_2 : decode b_Md_verdict 2 = .ok (.iload_n 1, 1) := by decide +kernel
theorem d_Md_verdict_3 : decode b_Md_verdict 3 = .ok (.bipush 6, 2) := by decide +kernel
theorem d_Md_verdict_5 : decode b_Md_verdict 5 = .ok (.if_icmp .ge 30, 3) := by decide +kernel
theorem d_Md_verdict_8 : decode b_Md_verdict 8 = .ok (.aload_n 0, 1) := by decide +kernel
theorem d_Md_verdict_9 : decode b_Md_verdict 9 = .ok (.getfield 7, 3) := by decide +kernel
theorem d_Md_verdict_12 : decode b_Md_verdict 12 = .ok (.iload_n 1, 1) := by decide +kernel
theorem d_Md_verdict_13 : decode b_Md_verdict 13 = .ok (.baload, 1) := by decide +kernel
theorem d_Md_verdict_14 : decode b_Md_verdict 14 = .ok (.ifCond .eq 15, 3) := by decide +kernel
theorem d_Md_verdict_17 : decode b_Md_verdict 17 = .ok (.aload_n 0, 1) := by decide +kernel
theorem d_Md_verdict_18 : decode b_Md_verdict 18 = .ok (.getfield 13, 3) := by decide +kernel
theorem d_Md_verdict_21 : decode b_Md_verdict 21 = .ok (.iload_n 1, 1) := by decide +kernel
theorem d_Md_verdict_22 : decode b_Md_verdict 22 = .ok (.iaload, 1) := by decide +kernel
theorem d_Md_verdict_23 : decode b_Md_verdict 23 = .ok (.iconst 2, 1) := by decide +kernel
theorem d_Md_verdict_24 : decode b_Md_verdict 24 = .ok (.if_icmp .ne 5, 3) := by decide +kernel
theorem d_Md_verdict_27 : decode b_Md_verdict 27 = .ok (.iconst (-1), 1) := by decide +kernel
theorem d_Md_verdict_28 : decode b_Md_verdict 28 = .ok (.ireturn, 1) := by decide +kernel
theorem d_Md_verdict_29 : decode b_Md_verdict 29 = .ok (.iinc 1 1, 3) := by decide +kernel
theorem d_Md_verdict_32 : decode b_Md_verdict 32 = .ok (.goto (-30), 3) := by decide +kernel
theorem d_Md_verdict_35 : decode b_Md_verdict 35 = .ok (.aload_n 0, 1) := by decide +kernel
theorem d_Md_verdict_36 : decode b_Md_verdict 36 = .ok (.invokevirtual 124, 3) := by decide +kernel
theorem d_Md_verdict_39 : decode b_Md_verdict 39 = .ok (.ifCond .ne 5, 3) := by decide +kernel
theorem d_Md_verdict_42 : decode b_Md_verdict 42 = .ok (.iconst (-1), 1) := by decide +kernel
theorem d_Md_verdict_43 : decode b_Md_verdict 43 = .ok (.ireturn, 1) := by decide +kernel
theorem d_Md_verdict_44 : decode b_Md_verdict 44 = .ok (.aload_n 0, 1) := by decide +kernel
theorem d_Md_verdict_45 : decode b_Md_verdict 45 = .ok (.iconst 1, 1) := by decide +kernel
theorem d_Md_verdict_46 : decode b_Md_verdict 46 = .ok (.sipush 16384, 3) := by decide +kernel
theorem d_Md_verdict_49 : decode b_Md_verdict 49 = .ok (.iconst (-1), 1) := by decide +kernel
theorem d_Md_verdict_50 : decode b_Md_verdict 50 = .ok (.invokevirtual 120, 3) := by decide +kernel
theorem d_Md_verdict_53 : decode b_Md_verdict 53 = .ok (.istore_n 1, 1) := by decide +kernel
theorem d_Md_verdict_54 : decode b_Md_verdict 54 = .ok (.iload_n 1, 1) := by decide +kernel
theorem d_Md_verdict_55 : decode b_Md_verdict 55 = .ok (.ifCond .ne 7, 3) := by decide +kernel
theorem d_Md_verdict_58 : decode b_Md_verdict 58 = .ok (.iconst 1, 1) := by decide +kernel
theorem d_Md_verdict_59 : decode b_Md_verdict 59 = .ok (.goto 4, 3) := by decide +kernel
theorem d_Md_verdict_62 : decode b_Md_verdict 62 = .ok (.iconst 0, 1) := by decide +kernel
theorem d_Md_verdict_63 : decode b_Md_verdict 63 = .ok (.istore_n 2, 1) := by decide +kernel
theorem d_Md_verdict_64 : decode b_Md_verdict 64 = .ok (.iconst 1, 1) := by decide +kernel
theorem d_Md_verdict_65 : decode b_Md_verdict 65 = .ok (.istore_n 3, 1) := by decide +kernel
theorem d_Md_verdict_66 : decode b_Md_verdict 66 = .ok (.iconst 0, 1) := by decide +kernel
theorem d_Md_verdict_67 : decode b_Md_verdict 67 = .ok (.istore 4, 2) := by decide +kernel
theorem d_Md_verdict_69 : decode b_Md_verdict 69 = .ok (.iload 4, 2) := by decide +kernel
theorem d_Md_verdict_71 : decode b_Md_verdict 71 = .ok (.aload_n 0, 1) := by decide +kernel
theorem d_Md_verdict_72 : decode b_Md_verdict 72 = .ok (.getfield 109, 3) := by decide +kernel
theorem d_Md_verdict_75 : decode b_Md_verdict 75 = .ok (.if_icmp .ge 42, 3) := by decide +kernel
theorem d_Md_verdict_78 : decode b_Md_verdict 78 = .ok (.iload_n 2, 1) := by decide +kernel
theorem d_Md_verdict_79 : decode b_Md_verdict 79 = .ok (.ifCond .eq 30, 3) := by decide +kernel
theorem d_Md_verdict_82 : decode b_Md_verdict 82 = .ok (.aload_n 0, 1) := by decide +kernel
theorem d_Md_verdict_83 : decode b_Md_verdict 83 = .ok (.getfield 75, 3) := by decide +kernel
theorem d_Md_verdict_86 : decode b_Md_verdict 86 = .ok (.iload 4, 2) := by decide +kernel
theorem d_Md_verdict_88 : decode b_Md_verdict 88 = .ok (.iaload, 1) := by decide +kernel
theorem d_Md_verdict_89 : decode b_Md_verdict 89 = .ok (.iconst 2, 1) := by decide +kernel
theorem d_Md_verdict_90 : decode b_Md_verdict 90 = .ok (.iand, 1) := by decide +kernel
theorem d_Md_verdict_91 : decode b_Md_verdict 91 = .ok (.ifCond .eq 14, 3) := by decide +kernel
theorem d_Md_verdict_94 : decode b_Md_verdict 94 = .ok (.aload_n 0, 1) := by decide +kernel
theorem d_Md_verdict_95 : decode b_Md_verdict 95 = .ok (.getfield 75, 3) := by decide +kernel
theorem d_Md_verdict_98 : decode b_Md_verdict 98 = .ok (.iload 4, 2) := by decide +kernel
theorem d_Md_verdict_100 : decode b_Md_verdict 100 = .ok (.iaload, 1) := by decide +kernel
theorem d_Md_verdict_101 : decode b_Md_verdict 101 = .ok (.iconst 2, 1) := by decide +kernel
theorem d_Md_verdict_102 : decode b_Md_verdict 102 = .ok (.if_icmp .ne 7, 3) := by decide +kernel
theorem d_Md_verdict_105 : decode b_Md_verdict 105 = .ok (.iconst 1, 1) := by decide +kernel
theorem d_Md_verdict_106 : decode b_Md_verdict 106 = .ok (.goto 4, 3) := by decide +kernel
theorem d_Md_verdict_109 : decode b_Md_verdict 109 = .ok (.iconst 0, 1) := by decide +kernel
theorem d_Md_verdict_110 : decode b_Md_verdict 110 = .ok (.istore_n 2, 1) := by decide +kernel
theorem d_Md_verdict_111 : decode b_Md_verdict 111 = .ok (.iinc 4 1, 3) := by decide +kernel
theorem d_Md_verdict_114 : decode b_Md_verdict 114 = .ok (.goto (-45), 3) := by decide +kernel
theorem d_Md_verdict_117 : decode b_Md_verdict 117 = .ok (.iconst 0, 1) := by decide +kernel
theorem d_Md_verdict_118 : decode b_Md_verdict 118 = .ok (.istore 4, 2) := by decide +kernel
theorem d_Md_verdict_120 : decode b_Md_verdict 120 = .ok (.iload 4, 2) := by decide +kernel
theorem d_Md_verdict_122 : decode b_Md_verdict 122 = .ok (.bipush 6, 2) := by decide +kernel
theorem d_Md_verdict_124 : decode b_Md_verdict 124 = .ok (.if_icmp .ge 38, 3) := by decide +kernel
theorem d_Md_verdict_127 : decode b_Md_verdict 127 = .ok (.iload_n 3, 1) := by decide +kernel
theorem d_Md_verdict_128 : decode b_Md_verdict 128 = .ok (.ifCond .eq 26, 3) := by decide +kernel
theorem d_Md_verdict_131 : decode b_Md_verdict 131 = .ok (.aload_n 0, 1) := by decide +kernel
theorem d_Md_verdict_132 : decode b_Md_verdict 132 = .ok (.getfield 7, 3) := by decide +kernel
theorem d_Md_verdict_135 : decode b_Md_verdict 135 = .ok (.iload 4, 2) := by decide +kernel
theorem d_Md_verdict_137 : decode b_Md_verdict 137 = .ok (.baload, 1) := by decide +kernel
theorem d_Md_verdict_138 : decode b_Md_verdict 138 = .ok (.ifCond .eq 12, 3) := by decide +kernel
theorem d_Md_verdict_141 : decode b_Md_verdict 141 = .ok (.aload_n 0, 1) := by decide +kernel
theorem d_Md_verdict_142 : decode b_Md_verdict 142 = .ok (.iload 4, 2) := by decide +kernel
theorem d_Md_verdict_144 : decode b_Md_verdict 144 = .ok (.invokevirtual 164, 3) := by decide +kernel
theorem d_Md_verdict_147 : decode b_Md_verdict 147 = .ok (.ifCond .eq 7, 3) := by decide +kernel
theorem d_Md_verdict_150 : decode b_Md_verdict 150 = .ok (.iconst 1, 1) := by decide +kernel
theorem d_Md_verdict_151 : decode b_Md_verdict 151 = .ok (.goto 4, 3) := by decide +kernel
theorem d_Md_verdict_154 : decode b_Md_verdict 154 = .ok (.iconst 0, 1) := by decide +kernel
theorem d_Md_verdict_155 : decode b_Md_verdict 155 = .ok (.istore_n 3, 1) := by decide +kernel
theorem d_Md_verdict_156 : decode b_Md_verdict 156 = .ok (.iinc 4 1, 3) := by decide +kernel
theorem d_Md_verdict_159 : decode b_Md_verdict 159 = .ok (.goto (-39), 3) := by decide +kernel
theorem d_Md_verdict_162 : decode b_Md_verdict 162 = .ok (.aload_n 0, 1) := by decide +kernel
theorem d_Md_verdict_163 : decode b_Md_verdict 163 = .ok (.invokevirtual 167, 3) := by decide +kernel
theorem d_Md_verdict_166 : decode b_Md_verdict 166 = .ok (.istore 4, 2) := by decide +kernel
theorem d_Md_verdict_168 : decode b_Md_verdict 168 = .ok (.iload 4, 2) := by decide +kernel
theorem d_Md_verdict_170 : decode b_Md_verdict 170 = .ok (.ifCond .eq 7, 3) := by decide +kernel
theorem d_Md_verdict_173 : decode b_Md_verdict 173 = .ok (.iconst 1, 1) := by decide +kernel
theorem d_Md_verdict_174 : decode b_Md_verdict 174 = .ok (.goto 4, 3) := by decide +kernel
theorem d_Md_verdict_177 : decode b_Md_verdict 177 = .ok (.iconst 0, 1) := by decide +kernel
theorem d_Md_verdict_178 : decode b_Md_verdict 178 = .ok (.iload_n 2, 1) := by decide +kernel
theorem d_Md_verdict_179 : decode b_Md_verdict 179 = .ok (.ifCond .eq 7, 3) := by decide +kernel
theorem d_Md_verdict_182 : decode b_Md_verdict 182 = .ok (.iconst 2, 1) := by decide +kernel
theorem d_Md_verdict_183 : decode b_Md_verdict 183 = .ok (.goto 4, 3) := by decide +kernel
theorem d_Md_verdict_186 : decode b_Md_verdict 186 = .ok (.iconst 0, 1) := by decide +kernel
theorem d_Md_verdict_187 : decode b_Md_verdict 187 = .ok (.iadd, 1) := by decide +kernel
theorem d_Md_verdict_188 : decode b_Md_verdict 188 = .ok (.iload_n 3, 1) := by decide +kernel
theorem d_Md_verdict_189 : decode b_Md_verdict 189 = .ok (.ifCond .eq 7, 3) := by decide +kernel
theorem d_Md_verdict_192 : decode b_Md_verdict 192 = .ok (.iconst 4, 1) := by decide +kernel
theorem d_Md_verdict_193 : decode b_Md_verdict 193 = .ok (.goto 4, 3) := by decide +kernel
theorem d_Md_verdict_196 : decode b_Md_verdict 196 = .ok (.iconst 0, 1) := by decide +kernel
theorem d_Md_verdict_197 : decode b_Md_verdict 197 = .ok (.iadd, 1) := by decide +kernel
theorem d_Md_verdict_198 : decode b_Md_verdict 198 = .ok (.ireturn, 1) := by decide +kernel
end
section
theorem d_Net_definedTasks_0 : decode b_Net_definedTasks 0 = .ok (.iconst 0, 1) := by decide +kernel
theorem d_Net_definedTasks_1 : decode b_Net_definedTasks 1 = .ok (.istore_n 1, 1) := by decide +kernel
theorem d_Net_definedTasks_2 : decode b_Net_definedTasks 2 = .ok (.iconst 0, 1) := by decide +kernel
theorem d_Net_definedTasks_3 : decode b_Net_definedTasks 3 = .ok (.istore_n 2, 1) := by decide +kernel
theorem d_Net_definedTasks_4 : decode b_Net_definedTasks 4 = .ok (.iload_n 2, 1) := by decide +kernel
theorem d_Net_definedTasks_5 : decode b_Net_definedTasks 5 = .ok (.bipush 6, 2) := by decide +kernel
theorem d_Net_definedTasks_7 : decode b_Net_definedTasks 7 = .ok (.if_icmp .ge 31, 3) := by decide +kernel
theorem d_Net_definedTasks_10 : decode b_Net_definedTasks 10 = .ok (.iload_n 1, 1) := by decide +kernel
theorem d_Net_definedTasks_11 : decode b_Net_definedTasks 11 = .ok (.aload_n 0, 1) := by decide +kernel
theorem d_Net_definedTasks_12 : decode b_Net_definedTasks 12 = .ok (.getfield 11, 3) := by decide +kernel
theorem d_Net_definedTasks_15 : decode b_Net_definedTasks 15 = .ok (.iload_n 2, 1) := by decide +kernel
theorem d_Net_definedTasks_16 : decode b_Net_definedTasks 16 = .ok (.aaload, 1) := by decide +kernel
theorem d_Net_definedTasks_17 : decode b_Net_definedTasks 17 = .ok (.getfield 37, 3) := by decide +kernel
theorem d_Net_definedTasks_20 : decode b_Net_definedTasks 20 = .ok (.ifCond .eq 9, 3) := by decide +kernel
theorem d_Net_definedTasks_23 : decode b_Net_definedTasks 23 = .ok (.iconst 1, 1) := by decide +kernel
theorem d_Net_definedTasks_24 : decode b_Net_definedTasks 24 = .ok (.iload_n 2, 1) := by decide +kernel
theorem d_Net_definedTasks_25 : decode b_Net_definedTasks 25 = .ok (.ishl, 1) := by decide +kernel
theorem d_Net_definedTasks_26 : decode b_Net_definedTasks 26 = .ok (.goto 4, 3) := by decide +kernel
theorem d_Net_definedTasks_29 : decode b_Net_definedTasks 29 = .ok (.iconst 0, 1) := by decide +kernel
theorem d_Net_definedTasks_30 : decode b_Net_definedTasks 30 = .ok (.ior, 1) := by decide +kernel
theorem d_Net_definedTasks_31 : decode b_Net_definedTasks 31 = .ok (.istore_n 1, 1) := by decide +kernel
theorem d_Net_definedTasks_32 : decode b_Net_definedTasks 32 = .ok (.iinc 2 1, 3) := by decide +kernel
theorem d_Net_definedTasks_35 : decode b_Net_definedTasks 35 = .ok (.goto (-31), 3) := by decide +kernel
theorem d_Net_definedTasks_38 : decode b_Net_definedTasks 38 = .ok (.iload_n 1, 1) := by decide +kernel
theorem d_Net_definedTasks_39 : decode b_Net_definedTasks 39 = .ok (.ireturn, 1) := by decide +kernel
theorem d_CN_launch_0 : decode b_CN_launch 0 = .ok (.aload_n 0, 1) := by decide +kernel
theorem d_CN_launch_1 : decode b_CN_launch 1 = .ok (.getfield 27, 3) := by decide +kernel
theorem d_CN_launch_4 : decode b_CN_launch 4 = .ok (.ifCond .ne 13, 3) := by decide +kernel
theorem d_CN_launch_7 : decode b_CN_launch 7 = .ok (.aload_n 0, 1) := by decide +kernel
theorem d_CN_launch_8 : decode b_CN_launch 8 = .ok (.getfield 12, 3) := by decide +kernel
theorem d_CN_launch_11 : decode b_CN_launch 11 = .ok (.invokevirtual 71, 3) := by decide +kernel
theorem d_CN_launch_14 : decode b_CN_launch 14 = .ok (.ifCond .ne 5, 3) := by decide +kernel
theorem d_CN_launch_17 : decode b_CN_launch 17 = .ok (.iconst 0, 1) := by decide +kernel
theorem d_CN_launch_18 : decode b_CN_launch 18 = .ok (.ireturn, 1) := by decide +kernel
theorem d_CN_launch_19 : decode b_CN_launch 19 = .ok (.aload_n 0, 1) := by decide +kernel
theorem d_CN_launch_20 : decode b_CN_launch 20 = .ok (.iconst 1, 1) := by decide +kernel
theorem d_CN_launch_21 : decode b_CN_launch 21 = .ok (.putfield 27, 3) := by decide +kernel
theorem d_CN_launch_24 : decode b_CN_launch 24 = .ok (.aload_n 0, 1) := by decide +kernel
theorem d_CN_launch_25 : decode b_CN_launch 25 = .ok (.iconst 1, 1) := by decide +kernel
theorem d_CN_launch_26 : decode b_CN_launch 26 = .ok (.putfield 75, 3) := by decide +kernel
theorem d_CN_launch_29 : decode b_CN_launch 29 = .ok (.iconst 1, 1) := by decide +kernel
theorem d_CN_launch_30 : decode b_CN_launch 30 = .ok (.ireturn, 1) := by decide +kernel
theorem d_Work_isOpen_0 : decode b_Work_isOpen 0 = .ok (.aload_n 0, 1) := by decide +kernel
theorem d_Work_isOpen_1 : decode b_Work_isOpen 1 = .ok (.getfield 15, 3) := by decide +kernel
theorem d_Work_isOpen_4 : decode b_Work_isOpen 4 = .ok (.iload_n 1, 1) := by decide +kernel
theorem d_Work_isOpen_5 : decode b_Work_isOpen 5 = .ok (.iaload, 1) := by decide +kernel
theorem d_Work_isOpen_6 : decode b_Work_isOpen 6 = .ok (.iconst 1, 1) := by decide +kernel
theorem d_Work_isOpen_7 : decode b_Work_isOpen 7 = .ok (.if_icmp .eq 13, 3) := by decide +kernel
theorem d_Work_isOpen_10 : decode b_Work_isOpen 10 = .ok (.aload_n 0, 1) := by decide +kernel
theorem d_Work_isOpen_11 : decode b_Work_isOpen 11 = .ok (.getfield 15, 3) := by decide +kernel
theorem d_Work_isOpen_14 : decode b_Work_isOpen 14 = .ok (.iload_n 1, 1) := by decide +kernel
theorem d_Work_isOpen_15 : decode b_Work_isOpen 15 = .ok (.iaload, 1) := by decide +kernel
theorem d_Work_isOpen_16 : decode b_Work_isOpen 16 = .ok (.iconst 2, 1) := by decide +kernel
theorem d_Work_isOpen_17 : decode b_Work_isOpen 17 = .ok (.if_icmp .ne 7, 3) := by decide +kernel
theorem d_Work_isOpen_20 : decode b_Work_isOpen 20 = .ok (.iconst 1, 1) := by decide +kernel
theorem d_Work_isOpen_21 : decode b_Work_isOpen 21 = .ok (.goto 4, 3) := by decide +kernel
theorem d_Work_isOpen_24 : decode b_Work_isOpen 24 = .ok (.iconst 0, 1) := by decide +kernel
theorem d_Work_isOpen_25 : decode b_Work_isOpen 25 = .ok (.ireturn, 1) := by decide +kernel
theorem d_Work_withdrawOpen_0 : decode b_Work_withdrawOpen 0 = .ok (.iload_n 1, 1) := by decide +kernel
theorem d_Work_withdrawOpen_1 : decode b_Work_withdrawOpen 1 = .ok (.istore_n 3, 1) := by decide +kernel
theorem d_Work_withdrawOpen_2 : decode b_Work_withdrawOpen 2 = .ok (.iload_n 3, 1) := by decide +kernel
theorem d_Work_withdrawOpen_3 : decode b_Work_withdrawOpen 3 = .ok (.iload_n 1, 1) := by decide +kernel
theorem d_Work_withdrawOpen_4 : decode b_Work_withdrawOpen 4 = .ok (.iload_n 2, 1) := by decide +kernel
theorem d_Work_withdrawOpen_5 : decode b_Work_withdrawOpen 5 = .ok (.iadd, 1) := by decide +kernel
theorem d_Work_withdrawOpen_6 : decode b_Work_withdrawOpen 6 = .ok (.if_icmp .ge 24, 3) := by decide +kernel
theorem d_Work_withdrawOpen_9 : decode b_Work_withdrawOpen 9 = .ok (.aload_n 0, 1) := by decide +kernel
theorem d_Work_withdrawOpen_10 : decode b_Work_withdrawOpen 10 = .ok (.iload_n 3, 1) := by decide +kernel
theorem d_Work_withdrawOpen_11 : decode b_Work_withdrawOpen 11 = .ok (.invokevirtual 25, 3) := by decide +kernel
theorem d_Work_withdrawOpen_14 : decode b_Work_withdrawOpen 14 = .ok (.ifCond .eq 10, 3) := by decide +kernel
theorem d_Work_withdrawOpen_17 : decode b_Work_withdrawOpen 17 = .ok (.aload_n 0, 1) := by decide +kernel
theorem d_Work_withdrawOpen_18 : decode b_Work_withdrawOpen 18 = .ok (.getfield 15, 3) := by decide +kernel
theorem d_Work_withdrawOpen_21 : decode b_Work_withdrawOpen 21 = .ok (.iload_n 3, 1) := by decide +kernel
theorem d_Work_withdrawOpen_22 : decode b_Work_withdrawOpen 22 = .ok (.iconst 5, 1) := by decide +kernel
theorem d_Work_withdrawOpen_23 : decode b_Work_withdrawOpen 23 = .ok (.iastore, 1) := by decide +kernel
theorem d_Work_withdrawOpen_24 : decode b_Work_withdrawOpen 24 = .ok (.iinc 3 1, 3) := by decide +kernel
theorem d_Work_withdrawOpen_27 : decode b_Work_withdrawOpen 27 = .ok (.goto (-25), 3) := by decide +kernel
theorem d_Work_withdrawOpen_30 : decode b_Work_withdrawOpen 30 = .ok (.return_, 1) := by decide +kernel
theorem d_CN_stop_0 : decode b_CN_stop 0 = .ok (.aload_n 0, 1) := by decide +kernel
theorem d_CN_stop_1 : decode b_CN_stop 1 = .ok (.getfield 19, 3) := by decide +kernel
theorem d_CN_stop_4 : decode b_CN_stop 4 = .ok (.aload_n 1, 1) := by decide +kernel
theorem d_CN_stop_5 : decode b_CN_stop 5 = .ok (.getfield 105, 3) := by decide +kernel
theorem d_CN_stop_8 : decode b_CN_stop 8 = .ok (.aload_n 1, 1) := by decide +kernel
theorem d_CN_stop_9 : decode b_CN_stop 9 = .ok (.getfield 85, 3) := by decide +kernel
theorem d_CN_stop_12 : decode b_CN_stop 12 = .ok (.invokevirtual 177, 3) := by decide +kernel
theorem d_CN_stop_15 : decode b_CN_stop 15 = .ok (.aload_n 0, 1) := by decide +kernel
theorem d_CN_stop_16 : decode b_CN_stop 16 = .ok (.dup, 1) := by decide +kernel
theorem d_CN_stop_17 : decode b_CN_stop 17 = .ok (.getfield 75, 3) := by decide +kernel
theorem d_CN_stop_20 : decode b_CN_stop 20 = .ok (.aload_n 1, 1) := by decide +kernel
theorem d_CN_stop_21 : decode b_CN_stop 21 = .ok (.getfield 95, 3) := by decide +kernel
theorem d_CN_stop_24 : decode b_CN_stop 24 = .ok (.iconst (-1), 1) := by decide +kernel
theorem d_CN_stop_25 : decode b_CN_stop 25 = .ok (.ixor, 1) := by decide +kernel
theorem d_CN_stop_26 : decode b_CN_stop 26 = .ok (.iand, 1) := by decide +kernel
theorem d_CN_stop_27 : decode b_CN_stop 27 = .ok (.putfield 75, 3) := by decide +kernel
theorem d_CN_stop_30 : decode b_CN_stop 30 = .ok (.return_, 1) := by decide +kernel
theorem d_CN_stopTasksAmong_0 : decode b_CN_stopTasksAmong 0 = .ok (.iconst 0, 1) := by decide +kernel
theorem d_CN_stopTasksAmong_1 : decode b_CN_stopTasksAmong 1 = .ok (.istore_n 2, 1) := by decide +kernel
theorem d_CN_stopTasksAmong_2 : decode b_CN_stopTasksAmong 2 = .ok (.iload_n 2, 1) := by decide +kernel
theorem d_CN_stopTasksAmong_3 : decode b_CN_stopTasksAmong 3 = .ok (.bipush 6, 2) := by decide +kernel
theorem d_CN_stopTasksAmong_5 : decode b_CN_stopTasksAmong 5 = .ok (.if_icmp .ge 38, 3) := by decide +kernel
theorem d_CN_stopTasksAmong_8 : decode b_CN_stopTasksAmong 8 = .ok (.aload_n 0, 1) := by decide +kernel
theorem d_CN_stopTasksAmong_9 : decode b_CN_stopTasksAmong 9 = .ok (.getfield 12, 3) := by decide +kernel
theorem d_CN_stopTasksAmong_12 : decode b_CN_stopTasksAmong 12 = .ok (.getfield 39, 3) := by decide +kernel
theorem d_CN_stopTasksAmong_15 : decode b_CN_stopTasksAmong 15 = .ok (.iload_n 2, 1) := by decide +kernel
theorem d_CN_stopTasksAmong_16 : decode b_CN_stopTasksAmong 16 = .ok (.aaload, 1) := by decide +kernel
theorem d_CN_stopTasksAmong_17 : decode b_CN_stopTasksAmong 17 = .ok (.astore_n 3, 1) := by decide +kernel
theorem d_CN_stopTasksAmong_18 : decode b_CN_stopTasksAmong 18 = .ok (.aload_n 0, 1) := by decide +kernel
theorem d_CN_stopTasksAmong_19 : decode b_CN_stopTasksAmong 19 = .ok (.getfield 75, 3) := by decide +kernel
theorem d_CN_stopTasksAmong_22 : decode b_CN_stopTasksAmong 22 = .ok (.iload_n 1, 1) := by decide +kernel
theorem d_CN_stopTasksAmong_23 : decode b_CN_stopTasksAmong 23 = .ok (.iand, 1) := by decide +kernel
theorem d_CN_stopTasksAmong_24 : decode b_CN_stopTasksAmong 24 = .ok (.aload_n 3, 1) := by decide +kernel
theorem d_CN_stopTasksAmong_25 : decode b_CN_stopTasksAmong 25 = .ok (.getfield 95, 3) := by decide +kernel
theorem d_CN_stopTasksAmong_28 : decode b_CN_stopTasksAmong 28 = .ok (.iand, 1) := by decide +kernel
theorem d_CN_stopTasksAmong_29 : decode b_CN_stopTasksAmong 29 = .ok (.ifCond .eq 8, 3) := by decide +kernel
theorem d_CN_stopTasksAmong_32 : decode b_CN_stopTasksAmong 32 = .ok (.aload_n 0, 1) := by decide +kernel
theorem d_CN_stopTasksAmong_33 : decode b_CN_stopTasksAmong 33 = .ok (.aload_n 3, 1) := by decide +kernel
theorem d_CN_stopTasksAmong_34 : decode b_CN_stopTasksAmong 34 = .ok (.invokevirtual 170, 3) := by decide +kernel
theorem d_CN_stopTasksAmong_37 : decode b_CN_stopTasksAmong 37 = .ok (.iinc 2 1, 3) := by decide +kernel
theorem d_CN_stopTasksAmong_40 : decode b_CN_stopTasksAmong 40 = .ok (.goto (-38), 3) := by decide +kernel
theorem d_CN_stopTasksAmong_43 : decode b_CN_stopTasksAmong 43 = .ok (.return_, 1) := by decide +kernel
theorem d_CN_cancel_0 : decode b_CN_cancel 0 = .ok (.aload_n 0, 1) := by decide +kernel
theorem d_CN_cancel_1 : decode b_CN_cancel 1 = .ok (.getfield 27, 3) := by decide +kernel
theorem d_CN_cancel_4 : decode b_CN_cancel 4 = .ok (.ifCond .ne 5, 3) := by decide +kernel
theorem d_CN_cancel_7 : decode b_CN_cancel 7 = .ok (.iconst 0, 1) := by decide +kernel
theorem d_CN_cancel_8 : decode b_CN_cancel 8 = .ok (.ireturn, 1) := by decide +kernel
theorem d_CN_cancel_9 : decode b_CN_cancel 9 = .ok (.aload_n 0, 1) := by decide +kernel
theorem d_CN_cancel_10 : decode b_CN_cancel 10 = .ok (.aload_n 0, 1) := by decide +kernel
theorem d_CN_cancel_11 : decode b_CN_cancel 11 = .ok (.getfield 75, 3) := by decide +kernel
theorem d_CN_cancel_14 : decode b_CN_cancel 14 = .ok (.invokevirtual 78, 3) := by decide +kernel
theorem d_CN_cancel_17 : decode b_CN_cancel 17 = .ok (.aload_n 0, 1) := by decide +kernel
theorem d_CN_cancel_18 : decode b_CN_cancel 18 = .ok (.iconst 0, 1) := by decide +kernel
theorem d_CN_cancel_19 : decode b_CN_cancel 19 = .ok (.putfield 75, 3) := by decide +kernel
theorem d_CN_cancel_22 : decode b_CN_cancel 22 = .ok (.aload_n 0, 1) := by decide +kernel
theorem d_CN_cancel_23 : decode b_CN_cancel 23 = .ok (.iconst 0, 1) := by decide +kernel
theorem d_CN_cancel_24 : decode b_CN_cancel 24 = .ok (.putfield 27, 3) := by decide +kernel
theorem d_CN_cancel_27 : decode b_CN_cancel 27 = .ok (.iconst 1, 1) := by decide +kernel
theorem d_CN_cancel_28 : decode b_CN_cancel 28 = .ok (.ireturn, 1) := by decide +kernel
theorem d_Arrays_fill_0 : decode b_Arrays_fill 0 = .ok (.iconst 0, 1) := by decide +kernel
theorem d_Arrays_fill_1 : decode b_Arrays_fill 1 = .ok (.istore_n 3, 1) := by decide +kernel
theorem d_Arrays_fill_2 : decode b_Arrays_fill 2 = .ok (.aload_n 0, 1) := by decide +kernel
theorem d_Arrays_fill_3 : decode b_Arrays_fill 3 = .ok (.arraylength, 1) := by decide +kernel
theorem d_Arrays_fill_4 : decode b_Arrays_fill 4 = .ok (.istore 4, 2) := by decide +kernel
theorem d_Arrays_fill_6 : decode b_Arrays_fill 6 = .ok (.iload_n 3, 1) := by decide +kernel
theorem d_Arrays_fill_7 : decode b_Arrays_fill 7 = .ok (.iload 4, 2) := by decide +kernel
theorem d_Arrays_fill_9 : decode b_Arrays_fill 9 = .ok (.if_icmp .ge 13, 3) := by decide +kernel
theorem d_Arrays_fill_12 : decode b_Arrays_fill 12 = .ok (.aload_n 0, 1) := by decide +kernel
theorem d_Arrays_fill_13 : decode b_Arrays_fill 13 = .ok (.iload_n 3, 1) := by decide +kernel
theorem d_Arrays_fill_14 : decode b_Arrays_fill 14 = .ok (.lload_n 1, 1) := by decide +kernel
theorem d_Arrays_fill_15 : decode b_Arrays_fill 15 = .ok (.lastore, 1) := by decide +kernel
theorem d_Arrays_fill_16 : decode b_Arrays_fill 16 = .ok (.iinc 3 1, 3) := by decide +kernel
theorem d_Arrays_fill_19 : decode b_Arrays_fill 19 = .ok (.goto (-13), 3) := by decide +kernel
theorem d_Arrays_fill_22 : decode b_Arrays_fill 22 = .ok (.return_, 1) := by decide +kernel
theorem d_MS_clear_0 : decode b_MS_clear 0 = .ok (.aload_n 0, 1) := by decide +kernel
theorem d_MS_clear_1 : decode b_MS_clear 1 = .ok (.getfield 11, 3) := by decide +kernel
theorem d_MS_clear_4 : decode b_MS_clear 4 = .ok (.lconst 0, 1) := by decide +kernel
theorem d_MS_clear_5 : decode b_MS_clear 5 = .ok (.invokestatic 19, 3) := by decide +kernel
theorem d_MS_clear_8 : decode b_MS_clear 8 = .ok (.aload_n 0, 1) := by decide +kernel
theorem d_MS_clear_9 : decode b_MS_clear 9 = .ok (.sipush 256, 3) := by decide +kernel
theorem d_MS_clear_12 : decode b_MS_clear 12 = .ok (.putfield 15, 3) := by decide +kernel
theorem d_MS_clear_15 : decode b_MS_clear 15 = .ok (.return_, 1) := by decide +kernel
theorem d_MS_has_0 : decode b_MS_has 0 = .ok (.aload_n 0, 1) := by decide +kernel
theorem d_MS_has_1 : decode b_MS_has 1 = .ok (.getfield 11, 3) := by decide +kernel
theorem d_MS_has_4 : decode b_MS_has 4 = .ok (.iload_n 1, 1) := by decide +kernel
theorem d_MS_has_5 : decode b_MS_has 5 = .ok (.bipush 6, 2) := by decide +kernel
theorem d_MS_has_7 : decode b_MS_has 7 = .ok (.ishr, 1) := by decide +kernel
theorem d_MS_has_8 : decode b_MS_has 8 = .ok (.laload, 1) := by decide +kernel
theorem d_MS_has_9 : decode b_MS_has 9 = .ok (.iload_n 1, 1) := by decide +kernel
theorem d_MS_has_10 : decode b_MS_has 10 = .ok (.bipush 63, 2) := by decide +kernel
theorem d_MS_has_12 : decode b_MS_has 12 = .ok (.iand, 1) := by decide +kernel
theorem d_MS_has_13 : decode b_MS_has 13 = .ok (.lushr, 1) := by decide +kernel
theorem d_MS_has_14 : decode b_MS_has 14 = .ok (.lconst 1, 1) := by decide +kernel
theorem d_MS_has_15 : decode b_MS_has 15 = .ok (.land, 1) := by decide +kernel
theorem d_MS_has_16 : decode b_MS_has 16 = .ok (.lconst 0, 1) := by decide +kernel
theorem d_MS_has_17 : decode b_MS_has 17 = .ok (.lcmp, 1) := by decide +kernel
theorem d_MS_has_18 : decode b_MS_has 18 = .ok (.ifCond .eq 7, 3) := by decide +kernel
theorem d_MS_has_21 : decode b_MS_has 21 = .ok (.iconst 1, 1) := by decide +kernel
theorem d_MS_has_22 : decode b_MS_has 22 = .ok (.goto 4, 3) := by decide +kernel
theorem d_MS_has_25 : decode b_MS_has 25 = .ok (.iconst 0, 1) := by decide +kernel
theorem d_MS_has_26 : decode b_MS_has 26 = .ok (.ireturn, 1) := by decide +kernel
theorem d_MS_addAllAbove_0 : decode b_MS_addAllAbove 0 = .ok (.ldc2_w 25, 3) := by decide +kernel
theorem d_MS_addAllAbove_3 : decode b_MS_addAllAbove 3 = .ok (.lstore_n 2, 1) := by decide +kernel
theorem d_MS_addAllAbove_4 : decode b_MS_addAllAbove 4 = .ok (.iconst 0, 1) := by decide +kernel
theorem d_MS_addAllAbove_5 : decode b_MS_addAllAbove 5 = .ok (.istore 4, 2) := by decide +kernel
theorem d_MS_addAllAbove_7 : decode b_MS_addAllAbove 7 = .ok (.iload 4, 2) := by decide +kernel
theorem d_MS_addAllAbove_9 : decode b_MS_addAllAbove 9 = .ok (.bipush 6, 2) := by decide +kernel
theorem d_MS_addAllAbove_11 : decode b_MS_addAllAbove 11 = .ok (.if_icmp .ge 27, 3) := by decide +kernel
theorem d_MS_addAllAbove_14 : decode b_MS_addAllAbove 14 = .ok (.iload_n 1, 1) := by decide +kernel
theorem d_MS_addAllAbove_15 : decode b_MS_addAllAbove 15 = .ok (.iconst 1, 1) := by decide +kernel
theorem d_MS_addAllAbove_16 : decode b_MS_addAllAbove 16 = .ok (.iload 4, 2) := by decide +kernel
theorem d_MS_addAllAbove_18 : decode b_MS_addAllAbove 18 = .ok (.ishl, 1) := by decide +kernel
theorem d_MS_addAllAbove_19 : decode b_MS_addAllAbove 19 = .ok (.iand, 1) := by decide +kernel
theorem d_MS_addAllAbove_20 : decode b_MS_addAllAbove 20 = .ok (.ifCond .eq 12, 3) := by decide +kernel
theorem d_MS_addAllAbove_23 : decode b_MS_addAllAbove 23 = .ok (.lload_n 2, 1) := by decide +kernel
theorem d_MS_addAllAbove_24 : decode b_MS_addAllAbove 24 = .ok (.getstatic 27, 3) := by decide +kernel
theorem d_MS_addAllAbove_27 : decode b_MS_addAllAbove 27 = .ok (.iload 4, 2) := by decide +kernel
theorem d_MS_addAllAbove_29 : decode b_MS_addAllAbove 29 = .ok (.laload, 1) := by decide +kernel
theorem d_MS_addAllAbove_30 : decode b_MS_addAllAbove 30 = .ok (.land, 1) := by decide +kernel
theorem d_MS_addAllAbove_31 : decode b_MS_addAllAbove 31 = .ok (.lstore_n 2, 1) := by decide +kernel
theorem d_MS_addAllAbove_32 : decode b_MS_addAllAbove 32 = .ok (.iinc 4 1, 3) := by decide +kernel
theorem d_MS_addAllAbove_35 : decode b_MS_addAllAbove 35 = .ok (.goto (-28), 3) := by decide +kernel
theorem d_MS_addAllAbove_38 : decode b_MS_addAllAbove 38 = .ok (.iload_n 1, 1) := by decide +kernel
theorem d_MS_addAllAbove_39 : decode b_MS_addAllAbove 39 = .ok (.bipush 6, 2) := by decide +kernel
theorem d_MS_addAllAbove_41 : decode b_MS_addAllAbove 41 = .ok (.ishr, 1) := by decide +kernel
theorem d_MS_addAllAbove_42 : decode b_MS_addAllAbove 42 = .ok (.istore 4, 2) := by decide +kernel
theorem d_MS_addAllAbove_44 : decode b_MS_addAllAbove 44 = .ok (.iload 4, 2) := by decide +kernel
theorem d_MS_addAllAbove_46 : decode b_MS_addAllAbove 46 = .ok (.istore 5, 2) := by decide +kernel
theorem d_MS_addAllAbove_48 : decode b_MS_addAllAbove 48 = .ok (.iload 5, 2) := by decide +kernel
theorem d_MS_addAllAbove_50 : decode b_MS_addAllAbove 50 = .ok (.sipush 256, 3) := by decide +kernel
theorem d_MS_addAllAbove_53 : decode b_MS_addAllAbove 53 = .ok (.if_icmp .ge 26, 3) := by decide +kernel
theorem d_MS_addAllAbove_56 : decode b_MS_addAllAbove 56 = .ok (.aload_n 0, 1) := by decide +kernel
theorem d_MS_addAllAbove_57 : decode b_MS_addAllAbove 57 = .ok (.getfield 11, 3) := by decide +kernel
theorem d_MS_addAllAbove_60 : decode b_MS_addAllAbove 60 = .ok (.iload 5, 2) := by decide +kernel
theorem d_MS_addAllAbove_62 : decode b_MS_addAllAbove 62 = .ok (.dup2, 1) := by decide +kernel
theorem d_MS_addAllAbove_63 : decode b_MS_addAllAbove 63 = .ok (.laload, 1) := by decide +kernel
theorem d_MS_addAllAbove_64 : decode b_MS_addAllAbove 64 = .ok (.lload_n 2, 1) := by decide +kernel
theorem d_MS_addAllAbove_65 : decode b_MS_addAllAbove 65 = .ok (.lor, 1) := by decide +kernel
theorem d_MS_addAllAbove_66 : decode b_MS_addAllAbove 66 = .ok (.lastore, 1) := by decide +kernel
theorem d_MS_addAllAbove_67 : decode b_MS_addAllAbove 67 = .ok (.iload 5, 2) := by decide +kernel
theorem d_MS_addAllAbove_69 : decode b_MS_addAllAbove 69 = .ok (.iconst 1, 1) := by decide +kernel
theorem d_MS_addAllAbove_70 : decode b_MS_addAllAbove 70 = .ok (.iadd, 1) := by decide +kernel
theorem d_MS_addAllAbove_71 : decode b_MS_addAllAbove 71 = .ok (.iload 4, 2) := by decide +kernel
theorem d_MS_addAllAbove_73 : decode b_MS_addAllAbove 73 = .ok (.ior, 1) := by decide +kernel
theorem d_MS_addAllAbove_74 : decode b_MS_addAllAbove 74 = .ok (.istore 5, 2) := by decide +kernel
theorem d_MS_addAllAbove_76 : decode b_MS_addAllAbove 76 = .ok (.goto (-28), 3) := by decide +kernel
theorem d_MS_addAllAbove_79 : decode b_MS_addAllAbove 79 = .ok (.aload_n 0, 1) := by decide +kernel
theorem d_MS_addAllAbove_80 : decode b_MS_addAllAbove 80 = .ok (.iload 4, 2) := by decide +kernel
theorem d_MS_addAllAbove_82 : decode b_MS_addAllAbove 82 = .ok (.aload_n 0, 1) := by decide +kernel
theorem d_MS_addAllAbove_83 : decode b_MS_addAllAbove 83 = .ok (.getfield 15, 3) := by decide +kernel
theorem d_MS_addAllAbove_86 : decode b_MS_addAllAbove 86 = .ok (.if_icmp .ge 8, 3) := by decide +kernel
theorem d_MS_addAllAbove_89 : decode b_MS_addAllAbove 89 = .ok (.iload 4, 2) := by decide +kernel
theorem d_MS_addAllAbove_91 : decode b_MS_addAllAbove 91 = .ok (.goto 7, 3) := by decide +kernel
theorem d_MS_addAllAbove_94 : decode b_MS_addAllAbove 94 = .ok (.aload_n 0, 1) := by decide +kernel
theorem d_MS_addAllAbove_95 : decode b_MS_addAllAbove 95 = .ok (.getfield 15, 3) := by decide +kernel
theorem d_MS_addAllAbove_98 : decode b_MS_addAllAbove 98 = .ok (.putfield 15, 3) := by decide +kernel
theorem d_MS_addAllAbove_101 : decode b_MS_addAllAbove 101 = .ok (.return_, 1) := by decide +kernel
theorem d_MS_add_0 : decode b_MS_add 0 = .ok (.iload_n 1, 1) := by decide +kernel
theorem d_MS_add_1 : decode b_MS_add 1 = .ok (.bipush 6, 2) := by decide +kernel
theorem d_MS_add_3 : decode b_MS_add 3 = .ok (.ishr, 1) := by decide +kernel
theorem d_MS_add_4 : decode b_MS_add 4 = .ok (.istore_n 2, 1) := by decide +kernel
theorem d_MS_add_5 : decode b_MS_add 5 = .ok (.aload_n 0, 1) := by decide +kernel
theorem d_MS_add_6 : decode b_MS_add 6 = .ok (.getfield 11, 3) := by decide +kernel
theorem d_MS_add_9 : decode b_MS_add 9 = .ok (.iload_n 2, 1) := by decide +kernel
theorem d_MS_add_10 : decode b_MS_add 10 = .ok (.dup2, 1) := by decide +kernel
theorem d_MS_add_11 : decode b_MS_add 11 = .ok (.laload, 1) := by decide +kernel
theorem d_MS_add_12 : decode b_MS_add 12 = .ok (.lconst 1, 1) := by decide +kernel
theorem d_MS_add_13 : decode b_MS_add 13 = .ok (.iload_n 1, 1) := by decide +kernel
theorem d_MS_add_14 : decode b_MS_add 14 = .ok (.bipush 63, 2) := by decide +kernel
theorem d_MS_add_16 : decode b_MS_add 16 = .ok (.iand, 1) := by decide +kernel
theorem d_MS_add_17 : decode b_MS_add 17 = .ok (.lshl, 1) := by decide +kernel
theorem d_MS_add_18 : decode b_MS_add 18 = .ok (.lor, 1) := by decide +kernel
theorem d_MS_add_19 : decode b_MS_add 19 = .ok (.lastore, 1) := by decide +kernel
theorem d_MS_add_20 : decode b_MS_add 20 = .ok (.aload_n 0, 1) := by decide +kernel
theorem d_MS_add_21 : decode b_MS_add 21 = .ok (.iload_n 2, 1) := by decide +kernel
theorem d_MS_add_22 : decode b_MS_add 22 = .ok (.aload_n 0, 1) := by decide +kernel
theorem d_MS_add_23 : decode b_MS_add 23 = .ok (.getfield 15, 3) := by decide +kernel
theorem d_MS_add_26 : decode b_MS_add 26 = .ok (.if_icmp .ge 7, 3) := by decide +kernel
theorem d_MS_add_29 : decode b_MS_add 29 = .ok (.iload_n 2, 1) := by decide +kernel
theorem d_MS_add_30 : decode b_MS_add 30 = .ok (.goto 7, 3) := by decide +kernel
theorem d_MS_add_33 : decode b_MS_add 33 = .ok (.aload_n 0, 1) := by decide +kernel
theorem d_MS_add_34 : decode b_MS_add 34 = .ok (.getfield 15, 3) := by decide +kernel
theorem d_MS_add_37 : decode b_MS_add 37 = .ok (.putfield 15, 3) := by decide +kernel
theorem d_MS_add_40 : decode b_MS_add 40 = .ok (.return_, 1) := by decide +kernel
theorem d_Net_addNeed_0 : decode b_Net_addNeed 0 = .ok (.aload_n 0, 1) := by decide +kernel
theorem d_Net_addNeed_1 : decode b_Net_addNeed 1 = .ok (.getfield 27, 3) := by decide +kernel
theorem d_Net_addNeed_4 : decode b_Net_addNeed 4 = .ok (.iload_n 1, 1) := by decide +kernel
theorem d_Net_addNeed_5 : decode b_Net_addNeed 5 = .ok (.invokevirtual 75, 3) := by decide +kernel
theorem d_Net_addNeed_8 : decode b_Net_addNeed 8 = .ok (.ifCond .ne 19, 3) := by decide +kernel
theorem d_Net_addNeed_11 : decode b_Net_addNeed 11 = .ok (.aload_n 0, 1) := by decide +kernel
theorem d_Net_addNeed_12 : decode b_Net_addNeed 12 = .ok (.getfield 27, 3) := by decide +kernel
theorem d_Net_addNeed_15 : decode b_Net_addNeed 15 = .ok (.iload_n 1, 1) := by decide +kernel
theorem d_Net_addNeed_16 : decode b_Net_addNeed 16 = .ok (.invokevirtual 108, 3) := by decide +kernel
theorem d_Net_addNeed_19 : decode b_Net_addNeed 19 = .ok (.aload_n 0, 1) := by decide +kernel
theorem d_Net_addNeed_20 : decode b_Net_addNeed 20 = .ok (.getfield 20, 3) := by decide +kernel
theorem d_Net_addNeed_23 : decode b_Net_addNeed 23 = .ok (.iload_n 1, 1) := by decide +kernel
theorem d_Net_addNeed_24 : decode b_Net_addNeed 24 = .ok (.invokevirtual 111, 3) := by decide +kernel
theorem d_Net_addNeed_27 : decode b_Net_addNeed 27 = .ok (.return_, 1) := by decide +kernel
theorem d_Long_bitCount_0 : decode b_Long_bitCount 0 = .ok (.lload_n 0, 1) := by decide +kernel
theorem d_Long_bitCount_1 : decode b_Long_bitCount 1 = .ok (.lload_n 0, 1) := by decide +kernel
theorem d_Long_bitCount_2 : decode b_Long_bitCount 2 = .ok (.iconst 1, 1) := by decide +kernel
theorem d_Long_bitCount_3 : decode b_Long_bitCount 3 = .ok (.lushr, 1) := by decide +kernel
theorem d_Long_bitCount_4 : decode b_Long_bitCount 4 = .ok (.ldc2_w 314, 3) := by decide +kernel
theorem d_Long_bitCount_7 : decode b_Long_bitCount 7 = .ok (.land, 1) := by decide +kernel
theorem d_Long_bitCount_8 : decode b_Long_bitCount 8 = .ok (.lsub, 1) := by decide +kernel
theorem d_Long_bitCount_9 : decode b_Long_bitCount 9 = .ok (.lstore_n 0, 1) := by decide +kernel
theorem d_Long_bitCount_10 : decode b_Long_bitCount 10 = .ok (.lload_n 0, 1) := by decide +kernel
theorem d_Long_bitCount_11 : decode b_Long_bitCount 11 = .ok (.ldc2_w 316, 3) := by decide +kernel
theorem d_Long_bitCount_14 : decode b_Long_bitCount 14 = .ok (.land, 1) := by decide +kernel
theorem d_Long_bitCount_15 : decode b_Long_bitCount 15 = .ok (.lload_n 0, 1) := by decide +kernel
theorem d_Long_bitCount_16 : decode b_Long_bitCount 16 = .ok (.iconst 2, 1) := by decide +kernel
theorem d_Long_bitCount_17 : decode b_Long_bitCount 17 = .ok (.lushr, 1) := by decide +kernel
theorem d_Long_bitCount_18 : decode b_Long_bitCount 18 = .ok (.ldc2_w 316, 3) := by decide +kernel
theorem d_Long_bitCount_21 : decode b_Long_bitCount 21 = .ok (.land, 1) := by decide +kernel
theorem d_Long_bitCount_22 : decode b_Long_bitCount 22 = .ok (.ladd, 1) := by decide +kernel
theorem d_Long_bitCount_23 : decode b_Long_bitCount 23 = .ok (.lstore_n 0, 1) := by decide +kernel
theorem d_Long_bitCount_24 : decode b_Long_bitCount 24 = .ok (.lload_n 0, 1) := by decide +kernel
theorem d_Long_bitCount_25 : decode b_Long_bitCount 25 = .ok (.lload_n 0, 1) := by decide +kernel
theorem d_Long_bitCount_26 : decode b_Long_bitCount 26 = .ok (.iconst 4, 1) := by decide +kernel
theorem d_Long_bitCount_27 : decode b_Long_bitCount 27 = .ok (.lushr, 1) := by decide +kernel
theorem d_Long_bitCount_28 : decode b_Long_bitCount 28 = .ok (.ladd, 1) := by decide +kernel
theorem d_Long_bitCount_29 : decode b_Long_bitCount 29 = .ok (.ldc2_w 318, 3) := by decide +kernel
theorem d_Long_bitCount_32 : decode b_Long_bitCount 32 = .ok (.land, 1) := by decide +kernel
theorem d_Long_bitCount_33 : decode b_Long_bitCount 33 = .ok (.lstore_n 0, 1) := by decide +kernel
theorem d_Long_bitCount_34 : decode b_Long_bitCount 34 = .ok (.lload_n 0, 1) := by decide +kernel
theorem d_Long_bitCount_35 : decode b_Long_bitCount 35 = .ok (.lload_n 0, 1) := by decide +kernel
theorem d_Long_bitCount_36 : decode b_Long_bitCount 36 = .ok (.bipush 8, 2) := by decide +kernel
theorem d_Long_bitCount_38 : decode b_Long_bitCount 38 = .ok (.lushr, 1) := by decide +kernel
theorem d_Long_bitCount_39 : decode b_Long_bitCount 39 = .ok (.ladd, 1) := by decide +kernel
theorem d_Long_bitCount_40 : decode b_Long_bitCount 40 = .ok (.lstore_n 0, 1) := by decide +kernel
theorem d_Long_bitCount_41 : decode b_Long_bitCount 41 = .ok (.lload_n 0, 1) := by decide +kernel
theorem d_Long_bitCount_42 : decode b_Long_bitCount 42 = .ok (.lload_n 0, 1) := by decide +kernel
theorem d_Long_bitCount_43 : decode b_Long_bitCount 43 = .ok (.bipush 16, 2) := by decide +kernel
theorem d_Long_bitCount_45 : decode b_Long_bitCount 45 = .ok (.lushr, 1) := by decide +kernel
theorem d_Long_bitCount_46 : decode b_Long_bitCount 46 = .ok (.ladd, 1) := by decide +kernel
theorem d_Long_bitCount_47 : decode b_Long_bitCount 47 = .ok (.lstore_n 0, 1) := by decide +kernel
theorem d_Long_bitCount_48 : decode b_Long_bitCount 48 = .ok (.lload_n 0, 1) := by decide +kernel
theorem d_Long_bitCount_49 : decode b_Long_bitCount 49 = .ok (.lload_n 0, 1) := by decide +kernel
theorem d_Long_bitCount_50 : decode b_Long_bitCount 50 = .ok (.bipush 32, 2) := by decide +kernel
theorem d_Long_bitCount_52 : decode b_Long_bitCount 52 = .ok (.lushr, 1) := by decide +kernel
theorem d_Long_bitCount_53 : decode b_Long_bitCount 53 = .ok (.ladd, 1) := by decide +kernel
theorem d_Long_bitCount_54 : decode b_Long_bitCount 54 = .ok (.lstore_n 0, 1) := by decide +kernel
theorem d_Long_bitCount_55 : decode b_Long_bitCount 55 = .ok (.lload_n 0, 1) := by decide +kernel
theorem d_Long_bitCount_56 : decode b_Long_bitCount 56 = .ok (.l2i, 1) := by decide +kernel
theorem d_Long_bitCount_57 : decode b_Long_bitCount 57 = .ok (.bipush 127, 2) := by decide +kernel
theorem d_Long_bitCount_59 : decode b_Long_bitCount 59 = .ok (.iand, 1) := by decide +kernel
theorem d_Long_bitCount_60 : decode b_Long_bitCount 60 = .ok (.ireturn, 1) := by decide +kernel
theorem d_MS_draw_0 : decode b_MS_draw 0 = .ok (.aload_n 0, 1) := by decide +kernel
theorem d_MS_draw_1 : decode b_MS_draw 1 = .ok (.getfield 15, 3) := by decide +kernel
theorem d_MS_draw_4 : decode b_MS_draw 4 = .ok (.sipush 256, 3) := by decide +kernel
theorem d_MS_draw_7 : decode b_MS_draw 7 = .ok (.if_icmp .ge 64, 3) := by decide +kernel
theorem d_MS_draw_10 : decode b_MS_draw 10 = .ok (.aload_n 0, 1) := by decide +kernel
theorem d_MS_draw_11 : decode b_MS_draw 11 = .ok (.getfield 11, 3) := by decide +kernel
theorem d_MS_draw_14 : decode b_MS_draw 14 = .ok (.aload_n 0, 1) := by decide +kernel
theorem d_MS_draw_15 : decode b_MS_draw 15 = .ok (.getfield 15, 3) := by decide +kernel
theorem d_MS_draw_18 : decode b_MS_draw 18 = .ok (.laload, 1) := by decide +kernel
theorem d_MS_draw_19 : decode b_MS_draw 19 = .ok (.lstore_n 1, 1) := by decide +kernel
theorem d_MS_draw_20 : decode b_MS_draw 20 = .ok (.lload_n 1, 1) := by decide +kernel
theorem d_MS_draw_21 : decode b_MS_draw 21 = .ok (.lconst 0, 1) := by decide +kernel
theorem d_MS_draw_22 : decode b_MS_draw 22 = .ok (.lcmp, 1) := by decide +kernel
theorem d_MS_draw_23 : decode b_MS_draw 23 = .ok (.ifCond .eq 35, 3) := by decide +kernel
theorem d_MS_draw_26 : decode b_MS_draw 26 = .ok (.lload_n 1, 1) := by decide +kernel
theorem d_MS_draw_27 : decode b_MS_draw 27 = .ok (.lload_n 1, 1) := by decide +kernel
theorem d_MS_draw_28 : decode b_MS_draw 28 = .ok (.lneg, 1) := by decide +kernel
theorem d_MS_draw_29 : decode b_MS_draw 29 = .ok (.land, 1) := by decide +kernel
theorem d_MS_draw_30 : decode b_MS_draw 30 = .ok (.lstore_n 3, 1) := by decide +kernel
theorem d_MS_draw_31 : decode b_MS_draw 31 = .ok (.aload_n 0, 1) := by decide +kernel
theorem d_MS_draw_32 : decode b_MS_draw 32 = .ok (.getfield 11, 3) := by decide +kernel
theorem d_MS_draw_35 : decode b_MS_draw 35 = .ok (.aload_n 0, 1) := by decide +kernel
theorem d_MS_draw_36 : decode b_MS_draw 36 = .ok (.getfield 15, 3) := by decide +kernel
theorem d_MS_draw_39 : decode b_MS_draw 39 = .ok (.lload_n 1, 1) := by decide +kernel
theorem d_MS_draw_40 : decode b_MS_draw 40 = .ok (.lload_n 3, 1) := by decide +kernel
theorem d_MS_draw_41 : decode b_MS_draw 41 = .ok (.lxor, 1) := by decide +kernel
theorem d_MS_draw_42 : decode b_MS_draw 42 = .ok (.lastore, 1) := by decide +kernel
theorem d_MS_draw_43 : decode b_MS_draw 43 = .ok (.aload_n 0, 1) := by decide +kernel
theorem d_MS_draw_44 : decode b_MS_draw 44 = .ok (.getfield 15, 3) := by decide +kernel
theorem d_MS_draw_47 : decode b_MS_draw 47 = .ok (.bipush 6, 2) := by decide +kernel
theorem d_MS_draw_49 : decode b_MS_draw 49 = .ok (.ishl, 1) := by decide +kernel
theorem d_MS_draw_50 : decode b_MS_draw 50 = .ok (.lload_n 3, 1) := by decide +kernel
theorem d_MS_draw_51 : decode b_MS_draw 51 = .ok (.lconst 1, 1) := by decide +kernel
theorem d_MS_draw_52 : decode b_MS_draw 52 = .ok (.lsub, 1) := by decide +kernel
theorem d_MS_draw_53 : decode b_MS_draw 53 = .ok (.invokestatic 30, 3) := by decide +kernel
theorem d_MS_draw_56 : decode b_MS_draw 56 = .ok (.iadd, 1) := by decide +kernel
theorem d_MS_draw_57 : decode b_MS_draw 57 = .ok (.ireturn, 1) := by decide +kernel
theorem d_MS_draw_58 : decode b_MS_draw 58 = .ok (.aload_n 0, 1) := by decide +kernel
theorem d_MS_draw_59 : decode b_MS_draw 59 = .ok (.dup, 1) := by decide +kernel
theorem d_MS_draw_60 : decode b_MS_draw 60 = .ok (.getfield 15, 3) := by decide +kernel
theorem d_MS_draw_63 : decode b_MS_draw 63 = .ok (.iconst 1, 1) := by decide +kernel
theorem d_MS_draw_64 : decode b_MS_draw 64 = .ok (.iadd, 1) := by decide +kernel
theorem d_MS_draw_65 : decode b_MS_draw 65 = .ok (.putfield 15, 3) := by decide +kernel
theorem d_MS_draw_68 : decode b_MS_draw 68 = .ok (.goto (-68), 3) := by decide +kernel
theorem d_MS_draw_71 : decode b_MS_draw 71 = .ok (.iconst (-1), 1) := by decide +kernel
theorem d_MS_draw_72 : decode b_MS_draw 72 = .ok (.ireturn, 1) := by decide +kernel
theorem d_Net_goBackBeforeEnd_0 : decode b_Net_goBackBeforeEnd 0 = .ok (.aload_n 1, 1) := by decide +kernel
theorem d_Net_goBackBeforeEnd_1 : decode b_Net_goBackBeforeEnd 1 = .ok (.getfield 89, 3) := by decide +kernel
theorem d_Net_goBackBeforeEnd_4 : decode b_Net_goBackBeforeEnd 4 = .ok (.aload_n 1, 1) := by decide +kernel
theorem d_Net_goBackBeforeEnd_5 : decode b_Net_goBackBeforeEnd 5 = .ok (.getfield 92, 3) := by decide +kernel
theorem d_Net_goBackBeforeEnd_8 : decode b_Net_goBackBeforeEnd 8 = .ok (.ior, 1) := by decide +kernel
theorem d_Net_goBackBeforeEnd_9 : decode b_Net_goBackBeforeEnd 9 = .ok (.istore_n 3, 1) := by decide +kernel
theorem d_Net_goBackBeforeEnd_10 : decode b_Net_goBackBeforeEnd 10 = .ok (.iconst 0, 1) := by decide +kernel
theorem d_Net_goBackBeforeEnd_11 : decode b_Net_goBackBeforeEnd 11 = .ok (.istore 4, 2) := by decide +kernel
theorem d_Net_goBackBeforeEnd_13 : decode b_Net_goBackBeforeEnd 13 = .ok (.iload 4, 2) := by decide +kernel
theorem d_Net_goBackBeforeEnd_15 : decode b_Net_goBackBeforeEnd 15 = .ok (.aload_n 1, 1) := by decide +kernel
theorem d_Net_goBackBeforeEnd_16 : decode b_Net_goBackBeforeEnd 16 = .ok (.getfield 95, 3) := by decide +kernel
theorem d_Net_goBackBeforeEnd_19 : decode b_Net_goBackBeforeEnd 19 = .ok (.if_icmp .ge 46, 3) := by decide +kernel
theorem d_Net_goBackBeforeEnd_22 : decode b_Net_goBackBeforeEnd 22 = .ok (.iload_n 2, 1) := by decide +kernel
theorem d_Net_goBackBeforeEnd_23 : decode b_Net_goBackBeforeEnd 23 = .ok (.aload_n 1, 1) := by decide +kernel
theorem d_Net_goBackBeforeEnd_24 : decode b_Net_goBackBeforeEnd 24 = .ok (.getfield 98, 3) := by decide +kernel
theorem d_Net_goBackBeforeEnd_27 : decode b_Net_goBackBeforeEnd 27 = .ok (.iload 4, 2) := by decide +kernel
theorem d_Net_goBackBeforeEnd_29 : decode b_Net_goBackBeforeEnd 29 = .ok (.iaload, 1) := by decide +kernel
theorem d_Net_goBackBeforeEnd_30 : decode b_Net_goBackBeforeEnd 30 = .ok (.iconst (-1), 1) := by decide +kernel
theorem d_Net_goBackBeforeEnd_31 : decode b_Net_goBackBeforeEnd 31 = .ok (.ixor, 1) := by decide +kernel
theorem d_Net_goBackBeforeEnd_32 : decode b_Net_goBackBeforeEnd 32 = .ok (.iand, 1) := by decide +kernel
theorem d_Net_goBackBeforeEnd_33 : decode b_Net_goBackBeforeEnd 33 = .ok (.istore 5, 2) := by decide +kernel
theorem d_Net_goBackBeforeEnd_35 : decode b_Net_goBackBeforeEnd 35 = .ok (.iload 5, 2) := by decide +kernel
theorem d_Net_goBackBeforeEnd_37 : decode b_Net_goBackBeforeEnd 37 = .ok (.iload_n 2, 1) := by decide +kernel
theorem d_Net_goBackBeforeEnd_38 : decode b_Net_goBackBeforeEnd 38 = .ok (.if_icmp .eq 21, 3) := by decide +kernel
theorem d_Net_goBackBeforeEnd_41 : decode b_Net_goBackBeforeEnd 41 = .ok (.iload 5, 2) := by decide +kernel
theorem d_Net_goBackBeforeEnd_43 : decode b_Net_goBackBeforeEnd 43 = .ok (.iload_n 3, 1) := by decide +kernel
theorem d_Net_goBackBeforeEnd_44 : decode b_Net_goBackBeforeEnd 44 = .ok (.iand, 1) := by decide +kernel
theorem d_Net_goBackBeforeEnd_45 : decode b_Net_goBackBeforeEnd 45 = .ok (.ifCond .ne 14, 3) := by decide +kernel
theorem d_Net_goBackBeforeEnd_48 : decode b_Net_goBackBeforeEnd 48 = .ok (.aload_n 0, 1) := by decide +kernel
theorem d_Net_goBackBeforeEnd_49 : decode b_Net_goBackBeforeEnd 49 = .ok (.iload 5, 2) := by decide +kernel
theorem d_Net_goBackBeforeEnd_51 : decode b_Net_goBackBeforeEnd 51 = .ok (.aload_n 1, 1) := by decide +kernel
theorem d_Net_goBackBeforeEnd_52 : decode b_Net_goBackBeforeEnd 52 = .ok (.getfield 92, 3) := by decide +kernel
theorem d_Net_goBackBeforeEnd_55 : decode b_Net_goBackBeforeEnd 55 = .ok (.ior, 1) := by decide +kernel
theorem d_Net_goBackBeforeEnd_56 : decode b_Net_goBackBeforeEnd 56 = .ok (.invokevirtual 72, 3) := by decide +kernel
theorem d_Net_goBackBeforeEnd_59 : decode b_Net_goBackBeforeEnd 59 = .ok (.iinc 4 1, 3) := by decide +kernel
theorem d_Net_goBackBeforeEnd_62 : decode b_Net_goBackBeforeEnd 62 = .ok (.goto (-49), 3) := by decide +kernel
theorem d_Net_goBackBeforeEnd_65 : decode b_Net_goBackBeforeEnd 65 = .ok (.return_, 1) := by decide +kernel
end
section
theorem d_Net_goBackBeforeBegin_0 : decode b_Net_goBackBeforeBegin 0 = .ok (.iload_n 2, 1) := by decide +kernel
theorem d_Net_goBackBeforeBegin_1 : decode b_Net_goBackBeforeBegin 1 = .ok (.aload_n 1, 1) := by decide +kernel
theorem d_Net_goBackBeforeBegin_2 : decode b_Net_goBackBeforeBegin 2 = .ok (.getfield 92, 3) := by decide +kernel
theorem d_Net_goBackBeforeBegin_5 : decode b_Net_goBackBeforeBegin 5 = .ok (.iconst (-1), 1) := by decide +kernel
theorem d_Net_goBackBeforeBegin_6 : decode b_Net_goBackBeforeBegin 6 = .ok (.ixor, 1) := by decide +kernel
theorem d_Net_goBackBeforeBegin_7 : decode b_Net_goBackBeforeBegin 7 = .ok (.iand, 1) := by decide +kernel
theorem d_Net_goBackBeforeBegin_8 : decode b_Net_goBackBeforeBegin 8 = .ok (.istore_n 3, 1) := by decide +kernel
theorem d_Net_goBackBeforeBegin_9 : decode b_Net_goBackBeforeBegin 9 = .ok (.iload_n 3, 1) := by decide +kernel
theorem d_Net_goBackBeforeBegin_10 : decode b_Net_goBackBeforeBegin 10 = .ok (.iload_n 2, 1) := by decide +kernel
theorem d_Net_goBackBeforeBegin_11 : decode b_Net_goBackBeforeBegin 11 = .ok (.if_icmp .ne 4, 3) := by decide +kernel
theorem d_Net_goBackBeforeBegin_14 : decode b_Net_goBackBeforeBegin 14 = .ok (.return_, 1) := by decide +kernel
theorem d_Net_goBackBeforeBegin_15 : decode b_Net_goBackBeforeBegin 15 = .ok (.iconst 0, 1) := by decide +kernel
theorem d_Net_goBackBeforeBegin_16 : decode b_Net_goBackBeforeBegin 16 = .ok (.istore 4, 2) := by decide +kernel
theorem d_Net_goBackBeforeBegin_18 : decode b_Net_goBackBeforeBegin 18 = .ok (.iload 4, 2) := by decide +kernel
theorem d_Net_goBackBeforeBegin_20 : decode b_Net_goBackBeforeBegin 20 = .ok (.aload_n 1, 1) := by decide +kernel
theorem d_Net_goBackBeforeBegin_21 : decode b_Net_goBackBeforeBegin 21 = .ok (.getfield 102, 3) := by decide +kernel
theorem d_Net_goBackBeforeBegin_24 : decode b_Net_goBackBeforeBegin 24 = .ok (.if_icmp .ge 34, 3) := by decide +kernel
theorem d_Net_goBackBeforeBegin_27 : decode b_Net_goBackBeforeBegin 27 = .ok (.iload_n 3, 1) := by decide +kernel
theorem d_Net_goBackBeforeBegin_28 : decode b_Net_goBackBeforeBegin 28 = .ok (.aload_n 1, 1) := by decide +kernel
theorem d_Net_goBackBeforeBegin_29 : decode b_Net_goBackBeforeBegin 29 = .ok (.getfield 105, 3) := by decide +kernel
theorem d_Net_goBackBeforeBegin_32 : decode b_Net_goBackBeforeBegin 32 = .ok (.iload 4, 2) := by decide +kernel
theorem d_Net_goBackBeforeBegin_34 : decode b_Net_goBackBeforeBegin 34 = .ok (.iaload, 1) := by decide +kernel
theorem d_Net_goBackBeforeBegin_35 : decode b_Net_goBackBeforeBegin 35 = .ok (.iand, 1) := by decide +kernel
theorem d_Net_goBackBeforeBegin_36 : decode b_Net_goBackBeforeBegin 36 = .ok (.ifCond .ne 16, 3) := by decide +kernel
theorem d_Net_goBackBeforeBegin_39 : decode b_Net_goBackBeforeBegin 39 = .ok (.aload_n 0, 1) := by decide +kernel
theorem d_Net_goBackBeforeBegin_40 : decode b_Net_goBackBeforeBegin 40 = .ok (.iload_n 3, 1) := by decide +kernel
theorem d_Net_goBackBeforeBegin_41 : decode b_Net_goBackBeforeBegin 41 = .ok (.aload_n 1, 1) := by decide +kernel
theorem d_Net_goBackBeforeBegin_42 : decode b_Net_goBackBeforeBegin 42 = .ok (.getfield 105, 3) := by decide +kernel
theorem d_Net_goBackBeforeBegin_45 : decode b_Net_goBackBeforeBegin 45 = .ok (.iload 4, 2) := by decide +kernel
theorem d_Net_goBackBeforeBegin_47 : decode b_Net_goBackBeforeBegin 47 = .ok (.iaload, 1) := by decide +kernel
theorem d_Net_goBackBeforeBegin_48 : decode b_Net_goBackBeforeBegin 48 = .ok (.ior, 1) := by decide +kernel
theorem d_Net_goBackBeforeBegin_49 : decode b_Net_goBackBeforeBegin 49 = .ok (.invokevirtual 72, 3) := by decide +kernel
theorem d_Net_goBackBeforeBegin_52 : decode b_Net_goBackBeforeBegin 52 = .ok (.iinc 4 1, 3) := by decide +kernel
theorem d_Net_goBackBeforeBegin_55 : decode b_Net_goBackBeforeBegin 55 = .ok (.goto (-37), 3) := by decide +kernel
theorem d_Net_goBackBeforeBegin_58 : decode b_Net_goBackBeforeBegin 58 = .ok (.return_, 1) := by decide +kernel
theorem d_Net_findCovering_0 : decode b_Net_findCovering 0 = .ok (.aload_n 0, 1) := by decide +kernel
theorem d_Net_findCovering_1 : decode b_Net_findCovering 1 = .ok (.getfield 27, 3) := by decide +kernel
theorem d_Net_findCovering_4 : decode b_Net_findCovering 4 = .ok (.invokevirtual 69, 3) := by decide +kernel
theorem d_Net_findCovering_7 : decode b_Net_findCovering 7 = .ok (.aload_n 0, 1) := by decide +kernel
theorem d_Net_findCovering_8 : decode b_Net_findCovering 8 = .ok (.getfield 20, 3) := by decide +kernel
theorem d_Net_findCovering_11 : decode b_Net_findCovering 11 = .ok (.invokevirtual 69, 3) := by decide +kernel
theorem d_Net_findCovering_14 : decode b_Net_findCovering 14 = .ok (.aload_n 0, 1) := by decide +kernel
theorem d_Net_findCovering_15 : decode b_Net_findCovering 15 = .ok (.iload_n 1, 1) := by decide +kernel
theorem d_Net_findCovering_16 : decode b_Net_findCovering 16 = .ok (.invokevirtual 72, 3) := by decide +kernel
theorem d_Net_findCovering_19 : decode b_Net_findCovering 19 = .ok (.sipush 16384, 3) := by decide +kernel
theorem d_Net_findCovering_22 : decode b_Net_findCovering 22 = .ok (.istore 4, 2) := by decide +kernel
theorem d_Net_findCovering_24 : decode b_Net_findCovering 24 = .ok (.iload 4, 2) := by decide +kernel
theorem d_Net_findCovering_26 : decode b_Net_findCovering 26 = .ok (.ifCond .le 98, 3) := by decide +kernel
theorem d_Net_findCovering_29 : decode b_Net_findCovering 29 = .ok (.aload_n 0, 1) := by decide +kernel
theorem d_Net_findCovering_30 : decode b_Net_findCovering 30 = .ok (.getfield 27, 3) := by decide +kernel
theorem d_Net_findCovering_33 : decode b_Net_findCovering 33 = .ok (.iload_n 2, 1) := by decide +kernel
theorem d_Net_findCovering_34 : decode b_Net_findCovering 34 = .ok (.invokevirtual 75, 3) := by decide +kernel
theorem d_Net_findCovering_37 : decode b_Net_findCovering 37 = .ok (.ifCond .ne 87, 3) := by decide +kernel
theorem d_Net_findCovering_40 : decode b_Net_findCovering 40 = .ok (.aload_n 0, 1) := by decide +kernel
theorem d_Net_findCovering_41 : decode b_Net_findCovering 41 = .ok (.getfield 20, 3) := by decide +kernel
theorem d_Net_findCovering_44 : decode b_Net_findCovering 44 = .ok (.invokevirtual 79, 3) := by decide +kernel
theorem d_Net_findCovering_47 : decode b_Net_findCovering 47 = .ok (.istore 5, 2) := by decide +kernel
theorem d_Net_findCovering_49 : decode b_Net_findCovering 49 = .ok (.iload 5, 2) := by decide +kernel
theorem d_Net_findCovering_51 : decode b_Net_findCovering 51 = .ok (.iconst (-1), 1) := by decide +kernel
theorem d_Net_findCovering_52 : decode b_Net_findCovering 52 = .ok (.if_icmp .ne 5, 3) := by decide +kernel
theorem d_Net_findCovering_55 : decode b_Net_findCovering 55 = .ok (.iconst 0, 1) := by decide +kernel
theorem d_Net_findCovering_56 : decode b_Net_findCovering 56 = .ok (.ireturn, 1) := by decide +kernel
theorem d_Net_findCovering_57 : decode b_Net_findCovering 57 = .ok (.iconst 0, 1) := by decide +kernel
theorem d_Net_findCovering_58 : decode b_Net_findCovering 58 = .ok (.istore 6, 2) := by decide +kernel
theorem d_Net_findCovering_60 : decode b_Net_findCovering 60 = .ok (.iload 6, 2) := by decide +kernel
theorem d_Net_findCovering_62 : decode b_Net_findCovering 62 = .ok (.bipush 6, 2) := by decide +kernel
theorem d_Net_findCovering_64 : decode b_Net_findCovering 64 = .ok (.if_icmp .ge 54, 3) := by decide +kernel
theorem d_Net_findCovering_67 : decode b_Net_findCovering 67 = .ok (.iload 6, 2) := by decide +kernel
theorem d_Net_findCovering_69 : decode b_Net_findCovering 69 = .ok (.iload_n 3, 1) := by decide +kernel
theorem d_Net_findCovering_70 : decode b_Net_findCovering 70 = .ok (.if_icmp .eq 42, 3) := by decide +kernel
theorem d_Net_findCovering_73 : decode b_Net_findCovering 73 = .ok (.aload_n 0, 1) := by decide +kernel
theorem d_Net_findCovering_74 : decode b_Net_findCovering 74 = .ok (.getfield 11, 3) := by decide +kernel
theorem d_Net_findCovering_77 : decode b_Net_findCovering 77 = .ok (.iload 6, 2) := by decide +kernel
theorem d_Net_findCovering_79 : decode b_Net_findCovering 79 = .ok (.aaload, 1) := by decide +kernel
theorem d_Net_findCovering_80 : decode b_Net_findCovering 80 = .ok (.getfield 37, 3) := by decide +kernel
theorem d_Net_findCovering_83 : decode b_Net_findCovering 83 = .ok (.ifCond .eq 29, 3) := by decide +kernel
theorem d_Net_findCovering_86 : decode b_Net_findCovering 86 = .ok (.aload_n 0, 1) := by decide +kernel
theorem d_Net_findCovering_87 : decode b_Net_findCovering 87 = .ok (.aload_n 0, 1) := by decide +kernel
theorem d_Net_findCovering_88 : decode b_Net_findCovering 88 = .ok (.getfield 11, 3) := by decide +kernel
theorem d_Net_findCovering_91 : decode b_Net_findCovering 91 = .ok (.iload 6, 2) := by decide +kernel
theorem d_Net_findCovering_93 : decode b_Net_findCovering 93 = .ok (.aaload, 1) := by decide +kernel
theorem d_Net_findCovering_94 : decode b_Net_findCovering 94 = .ok (.iload 5, 2) := by decide +kernel
theorem d_Net_findCovering_96 : decode b_Net_findCovering 96 = .ok (.invokevirtual 82, 3) := by decide +kernel
theorem d_Net_findCovering_99 : decode b_Net_findCovering 99 = .ok (.aload_n 0, 1) := by decide +kernel
theorem d_Net_findCovering_100 : decode b_Net_findCovering 100 = .ok (.aload_n 0, 1) := by decide +kernel
theorem d_Net_findCovering_101 : decode b_Net_findCovering 101 = .ok (.getfield 11, 3) := by decide +kernel
theorem d_Net_findCovering_104 : decode b_Net_findCovering 104 = .ok (.iload 6, 2) := by decide +kernel
theorem d_Net_findCovering_106 : decode b_Net_findCovering 106 = .ok (.aaload, 1) := by decide +kernel
theorem d_Net_findCovering_107 : decode b_Net_findCovering 107 = .ok (.iload 5, 2) := by decide +kernel
theorem d_Net_findCovering_109 : decode b_Net_findCovering 109 = .ok (.invokevirtual 86, 3) := by decide +kernel
theorem d_Net_findCovering_112 : decode b_Net_findCovering 112 = .ok (.iinc 6 1, 3) := by decide +kernel
theorem d_Net_findCovering_115 : decode b_Net_findCovering 115 = .ok (.goto (-55), 3) := by decide +kernel
theorem d_Net_findCovering_118 : decode b_Net_findCovering 118 = .ok (.iinc 4 (-1), 3) := by decide +kernel
theorem d_Net_findCovering_121 : decode b_Net_findCovering 121 = .ok (.goto (-97), 3) := by decide +kernel
theorem d_Net_findCovering_124 : decode b_Net_findCovering 124 = .ok (.aload_n 0, 1) := by decide +kernel
theorem d_Net_findCovering_125 : decode b_Net_findCovering 125 = .ok (.getfield 27, 3) := by decide +kernel
theorem d_Net_findCovering_128 : decode b_Net_findCovering 128 = .ok (.iload_n 2, 1) := by decide +kernel
theorem d_Net_findCovering_129 : decode b_Net_findCovering 129 = .ok (.invokevirtual 75, 3) := by decide +kernel
theorem d_Net_findCovering_132 : decode b_Net_findCovering 132 = .ok (.ireturn, 1) := by decide +kernel
theorem d_CN_canMoreInputsCome_0 : decode b_CN_canMoreInputsCome 0 = .ok (.aload_n 0, 1) := by decide +kernel
theorem d_CN_canMoreInputsCome_1 : decode b_CN_canMoreInputsCome 1 = .ok (.getfield 12, 3) := by decide +kernel
theorem d_CN_canMoreInputsCome_4 : decode b_CN_canMoreInputsCome 4 = .ok (.getfield 39, 3) := by decide +kernel
theorem d_CN_canMoreInputsCome_7 : decode b_CN_canMoreInputsCome 7 = .ok (.iload_n 1, 1) := by decide +kernel
theorem d_CN_canMoreInputsCome_8 : decode b_CN_canMoreInputsCome 8 = .ok (.aaload, 1) := by decide +kernel
theorem d_CN_canMoreInputsCome_9 : decode b_CN_canMoreInputsCome 9 = .ok (.getfield 161, 3) := by decide +kernel
theorem d_CN_canMoreInputsCome_12 : decode b_CN_canMoreInputsCome 12 = .ok (.istore_n 2, 1) := by decide +kernel
theorem d_CN_canMoreInputsCome_13 : decode b_CN_canMoreInputsCome 13 = .ok (.iconst 0, 1) := by decide +kernel
theorem d_CN_canMoreInputsCome_14 : decode b_CN_canMoreInputsCome 14 = .ok (.istore_n 3, 1) := by decide +kernel
theorem d_CN_canMoreInputsCome_15 : decode b_CN_canMoreInputsCome 15 = .ok (.iload_n 3, 1) := by decide +kernel
theorem d_CN_canMoreInputsCome_16 : decode b_CN_canMoreInputsCome 16 = .ok (.bipush 8, 2) := by decide +kernel
theorem d_CN_canMoreInputsCome_18 : decode b_CN_canMoreInputsCome 18 = .ok (.if_icmp .ge 54, 3) := by decide +kernel
theorem d_CN_canMoreInputsCome_21 : decode b_CN_canMoreInputsCome 21 = .ok (.iload_n 2, 1) := by decide +kernel
theorem d_CN_canMoreInputsCome_22 : decode b_CN_canMoreInputsCome 22 = .ok (.aload_n 0, 1) := by decide +kernel
theorem d_CN_canMoreInputsCome_23 : decode b_CN_canMoreInputsCome 23 = .ok (.getfield 75, 3) := by decide +kernel
theorem d_CN_canMoreInputsCome_26 : decode b_CN_canMoreInputsCome 26 = .ok (.iconst (-1), 1) := by decide +kernel
theorem d_CN_canMoreInputsCome_27 : decode b_CN_canMoreInputsCome 27 = .ok (.ixor, 1) := by decide +kernel
theorem d_CN_canMoreInputsCome_28 : decode b_CN_canMoreInputsCome 28 = .ok (.iand, 1) := by decide +kernel
theorem d_CN_canMoreInputsCome_29 : decode b_CN_canMoreInputsCome 29 = .ok (.iconst 1, 1) := by decide +kernel
theorem d_CN_canMoreInputsCome_30 : decode b_CN_canMoreInputsCome 30 = .ok (.iload_n 3, 1) := by decide +kernel
theorem d_CN_canMoreInputsCome_31 : decode b_CN_canMoreInputsCome 31 = .ok (.ishl, 1) := by decide +kernel
theorem d_CN_canMoreInputsCome_32 : decode b_CN_canMoreInputsCome 32 = .ok (.iand, 1) := by decide +kernel
theorem d_CN_canMoreInputsCome_33 : decode b_CN_canMoreInputsCome 33 = .ok (.istore 4, 2) := by decide +kernel
theorem d_CN_canMoreInputsCome_35 : decode b_CN_canMoreInputsCome 35 = .ok (.iload 4, 2) := by decide +kernel
theorem d_CN_canMoreInputsCome_37 : decode b_CN_canMoreInputsCome 37 = .ok (.ifCond .eq 29, 3) := by decide +kernel
theorem d_CN_canMoreInputsCome_40 : decode b_CN_canMoreInputsCome 40 = .ok (.aload_n 0, 1) := by decide +kernel
theorem d_CN_canMoreInputsCome_41 : decode b_CN_canMoreInputsCome 41 = .ok (.getfield 12, 3) := by decide +kernel
theorem d_CN_canMoreInputsCome_44 : decode b_CN_canMoreInputsCome 44 = .ok (.aload_n 0, 1) := by decide +kernel
theorem d_CN_canMoreInputsCome_45 : decode b_CN_canMoreInputsCome 45 = .ok (.getfield 75, 3) := by decide +kernel
theorem d_CN_canMoreInputsCome_48 : decode b_CN_canMoreInputsCome 48 = .ok (.iload_n 2, 1) := by decide +kernel
theorem d_CN_canMoreInputsCome_49 : decode b_CN_canMoreInputsCome 49 = .ok (.iand, 1) := by decide +kernel
theorem d_CN_canMoreInputsCome_50 : decode b_CN_canMoreInputsCome 50 = .ok (.iload 4, 2) := by decide +kernel
theorem d_CN_canMoreInputsCome_52 : decode b_CN_canMoreInputsCome 52 = .ok (.ior, 1) := by decide +kernel
theorem d_CN_canMoreInputsCome_53 : decode b_CN_canMoreInputsCome 53 = .ok (.aload_n 0, 1) := by decide +kernel
theorem d_CN_canMoreInputsCome_54 : decode b_CN_canMoreInputsCome 54 = .ok (.getfield 75, 3) := by decide +kernel
theorem d_CN_canMoreInputsCome_57 : decode b_CN_canMoreInputsCome 57 = .ok (.iload_n 1, 1) := by decide +kernel
theorem d_CN_canMoreInputsCome_58 : decode b_CN_canMoreInputsCome 58 = .ok (.invokevirtual 150, 3) := by decide +kernel
theorem d_CN_canMoreInputsCome_61 : decode b_CN_canMoreInputsCome 61 = .ok (.ifCond .eq 5, 3) := by decide +kernel
theorem d_CN_canMoreInputsCome_64 : decode b_CN_canMoreInputsCome 64 = .ok (.iconst 1, 1) := by decide +kernel
theorem d_CN_canMoreInputsCome_65 : decode b_CN_canMoreInputsCome 65 = .ok (.ireturn, 1) := by decide +kernel
theorem d_CN_canMoreInputsCome_66 : decode b_CN_canMoreInputsCome 66 = .ok (.iinc 3 1, 3) := by decide +kernel
theorem d_CN_canMoreInputsCome_69 : decode b_CN_canMoreInputsCome 69 = .ok (.goto (-54), 3) := by decide +kernel
theorem d_CN_canMoreInputsCome_72 : decode b_CN_canMoreInputsCome 72 = .ok (.iconst 0, 1) := by decide +kernel
theorem d_CN_canMoreInputsCome_73 : decode b_CN_canMoreInputsCome 73 = .ok (.ireturn, 1) := by decide +kernel
theorem d_CN_canFire_0 : decode b_CN_canFire 0 = .ok (.aload_n 0, 1) := by decide +kernel
theorem d_CN_canFire_1 : decode b_CN_canFire 1 = .ok (.getfield 27, 3) := by decide +kernel
theorem d_CN_canFire_4 : decode b_CN_canFire 4 = .ok (.ifCond .eq 14, 3) := by decide +kernel
theorem d_CN_canFire_7 : decode b_CN_canFire 7 = .ok (.aload_n 0, 1) := by decide +kernel
theorem d_CN_canFire_8 : decode b_CN_canFire 8 = .ok (.getfield 12, 3) := by decide +kernel
theorem d_CN_canFire_11 : decode b_CN_canFire 11 = .ok (.iload_n 1, 1) := by decide +kernel
theorem d_CN_canFire_12 : decode b_CN_canFire 12 = .ok (.invokevirtual 49, 3) := by decide +kernel
theorem d_CN_canFire_15 : decode b_CN_canFire 15 = .ok (.ifCond .ne 5, 3) := by decide +kernel
theorem d_CN_canFire_18 : decode b_CN_canFire 18 = .ok (.iconst 0, 1) := by decide +kernel
theorem d_CN_canFire_19 : decode b_CN_canFire 19 = .ok (.ireturn, 1) := by decide +kernel
theorem d_CN_canFire_20 : decode b_CN_canFire 20 = .ok (.aload_n 0, 1) := by decide +kernel
theorem d_CN_canFire_21 : decode b_CN_canFire 21 = .ok (.getfield 12, 3) := by decide +kernel
theorem d_CN_canFire_24 : decode b_CN_canFire 24 = .ok (.getfield 39, 3) := by decide +kernel
theorem d_CN_canFire_27 : decode b_CN_canFire 27 = .ok (.iload_n 1, 1) := by decide +kernel
theorem d_CN_canFire_28 : decode b_CN_canFire 28 = .ok (.aaload, 1) := by decide +kernel
theorem d_CN_canFire_29 : decode b_CN_canFire 29 = .ok (.astore_n 2, 1) := by decide +kernel
theorem d_CN_canFire_30 : decode b_CN_canFire 30 = .ok (.aload_n 0, 1) := by decide +kernel
theorem d_CN_canFire_31 : decode b_CN_canFire 31 = .ok (.getfield 75, 3) := by decide +kernel
theorem d_CN_canFire_34 : decode b_CN_canFire 34 = .ok (.aload_n 2, 1) := by decide +kernel
theorem d_CN_canFire_35 : decode b_CN_canFire 35 = .ok (.getfield 161, 3) := by decide +kernel
theorem d_CN_canFire_38 : decode b_CN_canFire 38 = .ok (.iand, 1) := by decide +kernel
theorem d_CN_canFire_39 : decode b_CN_canFire 39 = .ok (.istore_n 3, 1) := by decide +kernel
theorem d_CN_canFire_40 : decode b_CN_canFire 40 = .ok (.aload_n 0, 1) := by decide +kernel
theorem d_CN_canFire_41 : decode b_CN_canFire 41 = .ok (.getfield 75, 3) := by decide +kernel
theorem d_CN_canFire_44 : decode b_CN_canFire 44 = .ok (.aload_n 2, 1) := by decide +kernel
theorem d_CN_canFire_45 : decode b_CN_canFire 45 = .ok (.getfield 95, 3) := by decide +kernel
theorem d_CN_canFire_48 : decode b_CN_canFire 48 = .ok (.iand, 1) := by decide +kernel
theorem d_CN_canFire_49 : decode b_CN_canFire 49 = .ok (.ifCond .ne 7, 3) := by decide +kernel
theorem d_CN_canFire_52 : decode b_CN_canFire 52 = .ok (.iload_n 3, 1) := by decide +kernel
theorem d_CN_canFire_53 : decode b_CN_canFire 53 = .ok (.ifCond .ne 5, 3) := by decide +kernel
theorem d_CN_canFire_56 : decode b_CN_canFire 56 = .ok (.iconst 0, 1) := by decide +kernel
theorem d_CN_canFire_57 : decode b_CN_canFire 57 = .ok (.ireturn, 1) := by decide +kernel
theorem d_CN_canFire_58 : decode b_CN_canFire 58 = .ok (.aload_n 2, 1) := by decide +kernel
theorem d_CN_canFire_59 : decode b_CN_canFire 59 = .ok (.getfield 164, 3) := by decide +kernel
theorem d_CN_canFire_62 : decode b_CN_canFire 62 = .ok (.lookupswitch 42 #[(0, 26), (1, 40)], 26) := by decide +kernel
theorem d_CN_canFire_88 : decode b_CN_canFire 88 = .ok (.iload_n 3, 1) := by decide +kernel
theorem d_CN_canFire_89 : decode b_CN_canFire 89 = .ok (.aload_n 2, 1) := by decide +kernel
theorem d_CN_canFire_90 : decode b_CN_canFire 90 = .ok (.getfield 161, 3) := by decide +kernel
theorem d_CN_canFire_93 : decode b_CN_canFire 93 = .ok (.if_icmp .ne 7, 3) := by decide +kernel
theorem d_CN_canFire_96 : decode b_CN_canFire 96 = .ok (.iconst 1, 1) := by decide +kernel
theorem d_CN_canFire_97 : decode b_CN_canFire 97 = .ok (.goto 4, 3) := by decide +kernel
theorem d_CN_canFire_100 : decode b_CN_canFire 100 = .ok (.iconst 0, 1) := by decide +kernel
theorem d_CN_canFire_101 : decode b_CN_canFire 101 = .ok (.ireturn, 1) := by decide +kernel
theorem d_CN_canFire_102 : decode b_CN_canFire 102 = .ok (.iconst 1, 1) := by decide +kernel
theorem d_CN_canFire_103 : decode b_CN_canFire 103 = .ok (.ireturn, 1) := by decide +kernel
theorem d_CN_canFire_104 : decode b_CN_canFire 104 = .ok (.aload_n 0, 1) := by decide +kernel
theorem d_CN_canFire_105 : decode b_CN_canFire 105 = .ok (.iload_n 1, 1) := by decide +kernel
theorem d_CN_canFire_106 : decode b_CN_canFire 106 = .ok (.invokevirtual 167, 3) := by decide +kernel
theorem d_CN_canFire_109 : decode b_CN_canFire 109 = .ok (.ifCond .ne 7, 3) := by decide +kernel
theorem d_CN_canFire_112 : decode b_CN_canFire 112 = .ok (.iconst 1, 1) := by decide +kernel
theorem d_CN_canFire_113 : decode b_CN_canFire 113 = .ok (.goto 4, 3) := by decide +kernel
theorem d_CN_canFire_116 : decode b_CN_canFire 116 = .ok (.iconst 0, 1) := by decide +kernel
theorem d_CN_canFire_117 : decode b_CN_canFire 117 = .ok (.ireturn, 1) := by decide +kernel
theorem d_CN_enabled_0 : decode b_CN_enabled 0 = .ok (.iconst 0, 1) := by decide +kernel
theorem d_CN_enabled_1 : decode b_CN_enabled 1 = .ok (.istore_n 1, 1) := by decide +kernel
theorem d_CN_enabled_2 : decode b_CN_enabled 2 = .ok (.iconst 0, 1) := by decide +kernel
theorem d_CN_enabled_3 : decode b_CN_enabled 3 = .ok (.istore_n 2, 1) := by decide +kernel
theorem d_CN_enabled_4 : decode b_CN_enabled 4 = .ok (.iload_n 2, 1) := by decide +kernel
theorem d_CN_enabled_5 : decode b_CN_enabled 5 = .ok (.bipush 6, 2) := by decide +kernel
theorem d_CN_enabled_7 : decode b_CN_enabled 7 = .ok (.if_icmp .ge 23, 3) := by decide +kernel
theorem d_CN_enabled_10 : decode b_CN_enabled 10 = .ok (.aload_n 0, 1) := by decide +kernel
theorem d_CN_enabled_11 : decode b_CN_enabled 11 = .ok (.iload_n 2, 1) := by decide +kernel
theorem d_CN_enabled_12 : decode b_CN_enabled 12 = .ok (.invokevirtual 82, 3) := by decide +kernel
theorem d_CN_enabled_15 : decode b_CN_enabled 15 = .ok (.ifCond .eq 9, 3) := by decide +kernel
theorem d_CN_enabled_18 : decode b_CN_enabled 18 = .ok (.iload_n 1, 1) := by decide +kernel
theorem d_CN_enabled_19 : decode b_CN_enabled 19 = .ok (.iconst 1, 1) := by decide +kernel
theorem d_CN_enabled_20 : decode b_CN_enabled 20 = .ok (.iload_n 2, 1) := by decide +kernel
theorem d_CN_enabled_21 : decode b_CN_enabled 21 = .ok (.ishl, 1) := by decide +kernel
theorem d_CN_enabled_22 : decode b_CN_enabled 22 = .ok (.ior, 1) := by decide +kernel
theorem d_CN_enabled_23 : decode b_CN_enabled 23 = .ok (.istore_n 1, 1) := by decide +kernel
theorem d_CN_enabled_24 : decode b_CN_enabled 24 = .ok (.iinc 2 1, 3) := by decide +kernel
theorem d_CN_enabled_27 : decode b_CN_enabled 27 = .ok (.goto (-23), 3) := by decide +kernel
theorem d_CN_enabled_30 : decode b_CN_enabled 30 = .ok (.iload_n 1, 1) := by decide +kernel
theorem d_CN_enabled_31 : decode b_CN_enabled 31 = .ok (.ireturn, 1) := by decide +kernel
theorem d_Work_hasRoomFor_0 : decode b_Work_hasRoomFor 0 = .ok (.aload_n 0, 1) := by decide +kernel
theorem d_Work_hasRoomFor_1 : decode b_Work_hasRoomFor 1 = .ok (.getfield 21, 3) := by decide +kernel
theorem d_Work_hasRoomFor_4 : decode b_Work_hasRoomFor 4 = .ok (.iload_n 1, 1) := by decide +kernel
theorem d_Work_hasRoomFor_5 : decode b_Work_hasRoomFor 5 = .ok (.iadd, 1) := by decide +kernel
theorem d_Work_hasRoomFor_6 : decode b_Work_hasRoomFor 6 = .ok (.bipush 60, 2) := by decide +kernel
theorem d_Work_hasRoomFor_8 : decode b_Work_hasRoomFor 8 = .ok (.if_icmp .gt 7, 3) := by decide +kernel
theorem d_Work_hasRoomFor_11 : decode b_Work_hasRoomFor 11 = .ok (.iconst 1, 1) := by decide +kernel
theorem d_Work_hasRoomFor_12 : decode b_Work_hasRoomFor 12 = .ok (.goto 4, 3) := by decide +kernel
theorem d_Work_hasRoomFor_15 : decode b_Work_hasRoomFor 15 = .ok (.iconst 0, 1) := by decide +kernel
theorem d_Work_hasRoomFor_16 : decode b_Work_hasRoomFor 16 = .ok (.ireturn, 1) := by decide +kernel
theorem d_Task_inputsUsed_0 : decode b_Task_inputsUsed 0 = .ok (.iload_n 1, 1) := by decide +kernel
theorem d_Task_inputsUsed_1 : decode b_Task_inputsUsed 1 = .ok (.aload_n 0, 1) := by decide +kernel
theorem d_Task_inputsUsed_2 : decode b_Task_inputsUsed 2 = .ok (.getfield 41, 3) := by decide +kernel
theorem d_Task_inputsUsed_5 : decode b_Task_inputsUsed 5 = .ok (.iand, 1) := by decide +kernel
theorem d_Task_inputsUsed_6 : decode b_Task_inputsUsed 6 = .ok (.istore_n 2, 1) := by decide +kernel
theorem d_Task_inputsUsed_7 : decode b_Task_inputsUsed 7 = .ok (.aload_n 0, 1) := by decide +kernel
theorem d_Task_inputsUsed_8 : decode b_Task_inputsUsed 8 = .ok (.getfield 35, 3) := by decide +kernel
theorem d_Task_inputsUsed_11 : decode b_Task_inputsUsed 11 = .ok (.iconst 1, 1) := by decide +kernel
theorem d_Task_inputsUsed_12 : decode b_Task_inputsUsed 12 = .ok (.if_icmp .ne 10, 3) := by decide +kernel
theorem d_Task_inputsUsed_15 : decode b_Task_inputsUsed 15 = .ok (.iload_n 2, 1) := by decide +kernel
theorem d_Task_inputsUsed_16 : decode b_Task_inputsUsed 16 = .ok (.iload_n 2, 1) := by decide +kernel
theorem d_Task_inputsUsed_17 : decode b_Task_inputsUsed 17 = .ok (.ineg, 1) := by decide +kernel
theorem d_Task_inputsUsed_18 : decode b_Task_inputsUsed 18 = .ok (.iand, 1) := by decide +kernel
theorem d_Task_inputsUsed_19 : decode b_Task_inputsUsed 19 = .ok (.goto 4, 3) := by decide +kernel
theorem d_Task_inputsUsed_22 : decode b_Task_inputsUsed 22 = .ok (.iload_n 2, 1) := by decide +kernel
theorem d_Task_inputsUsed_23 : decode b_Task_inputsUsed 23 = .ok (.ireturn, 1) := by decide +kernel
theorem d_Work_offer_0 : decode b_Work_offer 0 = .ok (.aload_n 0, 1) := by decide +kernel
theorem d_Work_offer_1 : decode b_Work_offer 1 = .ok (.getfield 21, 3) := by decide +kernel
theorem d_Work_offer_4 : decode b_Work_offer 4 = .ok (.iconst 1, 1) := by decide +kernel
theorem d_Work_offer_5 : decode b_Work_offer 5 = .ok (.iadd, 1) := by decide +kernel
theorem d_Work_offer_6 : decode b_Work_offer 6 = .ok (.istore 4, 2) := by decide +kernel
theorem d_Work_offer_8 : decode b_Work_offer 8 = .ok (.iload 4, 2) := by decide +kernel
theorem d_Work_offer_10 : decode b_Work_offer 10 = .ok (.istore 5, 2) := by decide +kernel
theorem d_Work_offer_12 : decode b_Work_offer 12 = .ok (.iload 5, 2) := by decide +kernel
theorem d_Work_offer_14 : decode b_Work_offer 14 = .ok (.iload 4, 2) := by decide +kernel
theorem d_Work_offer_16 : decode b_Work_offer 16 = .ok (.iload_n 2, 1) := by decide +kernel
theorem d_Work_offer_17 : decode b_Work_offer 17 = .ok (.iadd, 1) := by decide +kernel
theorem d_Work_offer_18 : decode b_Work_offer 18 = .ok (.if_icmp .ge 33, 3) := by decide +kernel
theorem d_Work_offer_21 : decode b_Work_offer 21 = .ok (.aload_n 0, 1) := by decide +kernel
theorem d_Work_offer_22 : decode b_Work_offer 22 = .ok (.getfield 9, 3) := by decide +kernel
theorem d_Work_offer_25 : decode b_Work_offer 25 = .ok (.iload 5, 2) := by decide +kernel
theorem d_Work_offer_27 : decode b_Work_offer 27 = .ok (.iload_n 1, 1) := by decide +kernel
theorem d_Work_offer_28 : decode b_Work_offer 28 = .ok (.iastore, 1) := by decide +kernel
theorem d_Work_offer_29 : decode b_Work_offer 29 = .ok (.aload_n 0, 1) := by decide +kernel
theorem d_Work_offer_30 : decode b_Work_offer 30 = .ok (.getfield 15, 3) := by decide +kernel
theorem d_Work_offer_33 : decode b_Work_offer 33 = .ok (.iload 5, 2) := by decide +kernel
theorem d_Work_offer_35 : decode b_Work_offer 35 = .ok (.iconst 1, 1) := by decide +kernel
theorem d_Work_offer_36 : decode b_Work_offer 36 = .ok (.iastore, 1) := by decide +kernel
theorem d_Work_offer_37 : decode b_Work_offer 37 = .ok (.aload_n 0, 1) := by decide +kernel
theorem d_Work_offer_38 : decode b_Work_offer 38 = .ok (.getfield 18, 3) := by decide +kernel
theorem d_Work_offer_41 : decode b_Work_offer 41 = .ok (.iload 5, 2) := by decide +kernel
theorem d_Work_offer_43 : decode b_Work_offer 43 = .ok (.iload_n 3, 1) := by decide +kernel
theorem d_Work_offer_44 : decode b_Work_offer 44 = .ok (.iastore, 1) := by decide +kernel
theorem d_Work_offer_45 : decode b_Work_offer 45 = .ok (.iinc 5 1, 3) := by decide +kernel
theorem d_Work_offer_48 : decode b_Work_offer 48 = .ok (.goto (-36), 3) := by decide +kernel
theorem d_Work_offer_51 : decode b_Work_offer 51 = .ok (.aload_n 0, 1) := by decide +kernel
theorem d_Work_offer_52 : decode b_Work_offer 52 = .ok (.dup, 1) := by decide +kernel
theorem d_Work_offer_53 : decode b_Work_offer 53 = .ok (.getfield 21, 3) := by decide +kernel
theorem d_Work_offer_56 : decode b_Work_offer 56 = .ok (.iload_n 2, 1) := by decide +kernel
theorem d_Work_offer_57 : decode b_Work_offer 57 = .ok (.iadd, 1) := by decide +kernel
theorem d_Work_offer_58 : decode b_Work_offer 58 = .ok (.putfield 21, 3) := by decide +kernel
theorem d_Work_offer_61 : decode b_Work_offer 61 = .ok (.iload 4, 2) := by decide +kernel
theorem d_Work_offer_63 : decode b_Work_offer 63 = .ok (.ireturn, 1) := by decide +kernel
theorem d_CN_fire_0 : decode b_CN_fire 0 = .ok (.aload_n 0, 1) := by decide +kernel
theorem d_CN_fire_1 : decode b_CN_fire 1 = .ok (.getfield 12, 3) := by decide +kernel
theorem d_CN_fire_4 : decode b_CN_fire 4 = .ok (.iload_n 1, 1) := by decide +kernel
theorem d_CN_fire_5 : decode b_CN_fire 5 = .ok (.invokevirtual 49, 3) := by decide +kernel
theorem d_CN_fire_8 : decode b_CN_fire 8 = .ok (.ifCond .ne 5, 3) := by decide +kernel
theorem d_CN_fire_11 : decode b_CN_fire 11 = .ok (.iconst (-1), 1) := by decide +kernel
theorem d_CN_fire_12 : decode b_CN_fire 12 = .ok (.ireturn, 1) := by decide +kernel
theorem d_CN_fire_13 : decode b_CN_fire 13 = .ok (.aload_n 0, 1) := by decide +kernel
theorem d_CN_fire_14 : decode b_CN_fire 14 = .ok (.iload_n 1, 1) := by decide +kernel
theorem d_CN_fire_15 : decode b_CN_fire 15 = .ok (.invokevirtual 82, 3) := by decide +kernel
theorem d_CN_fire_18 : decode b_CN_fire 18 = .ok (.ifCond .ne 6, 3) := by decide +kernel
theorem d_CN_fire_21 : decode b_CN_fire 21 = .ok (.bipush (-2), 2) := by decide +kernel
theorem d_CN_fire_23 : decode b_CN_fire 23 = .ok (.ireturn, 1) := by decide +kernel
theorem d_CN_fire_24 : decode b_CN_fire 24 = .ok (.aload_n 0, 1) := by decide +kernel
theorem d_CN_fire_25 : decode b_CN_fire 25 = .ok (.getfield 12, 3) := by decide +kernel
theorem d_CN_fire_28 : decode b_CN_fire 28 = .ok (.getfield 39, 3) := by decide +kernel
theorem d_CN_fire_31 : decode b_CN_fire 31 = .ok (.iload_n 1, 1) := by decide +kernel
theorem d_CN_fire_32 : decode b_CN_fire 32 = .ok (.aaload, 1) := by decide +kernel
theorem d_CN_fire_33 : decode b_CN_fire 33 = .ok (.astore_n 2, 1) := by decide +kernel
theorem d_CN_fire_34 : decode b_CN_fire 34 = .ok (.aload_n 0, 1) := by decide +kernel
theorem d_CN_fire_35 : decode b_CN_fire 35 = .ok (.getfield 19, 3) := by decide +kernel
theorem d_CN_fire_38 : decode b_CN_fire 38 = .ok (.aload_n 2, 1) := by decide +kernel
theorem d_CN_fire_39 : decode b_CN_fire 39 = .ok (.getfield 85, 3) := by decide +kernel
theorem d_CN_fire_42 : decode b_CN_fire 42 = .ok (.invokevirtual 88, 3) := by decide +kernel
theorem d_CN_fire_45 : decode b_CN_fire 45 = .ok (.ifCond .ne 6, 3) := by decide +kernel
theorem d_CN_fire_48 : decode b_CN_fire 48 = .ok (.bipush (-3), 2) := by decide +kernel
theorem d_CN_fire_50 : decode b_CN_fire 50 = .ok (.ireturn, 1) := by decide +kernel
theorem d_CN_fire_51 : decode b_CN_fire 51 = .ok (.aload_n 0, 1) := by decide +kernel
theorem d_CN_fire_52 : decode b_CN_fire 52 = .ok (.aload_n 0, 1) := by decide +kernel
theorem d_CN_fire_53 : decode b_CN_fire 53 = .ok (.getfield 75, 3) := by decide +kernel
theorem d_CN_fire_56 : decode b_CN_fire 56 = .ok (.aload_n 2, 1) := by decide +kernel
theorem d_CN_fire_57 : decode b_CN_fire 57 = .ok (.aload_n 0, 1) := by decide +kernel
theorem d_CN_fire_58 : decode b_CN_fire 58 = .ok (.getfield 75, 3) := by decide +kernel
theorem d_CN_fire_61 : decode b_CN_fire 61 = .ok (.invokevirtual 91, 3) := by decide +kernel
theorem d_CN_fire_64 : decode b_CN_fire 64 = .ok (.iconst (-1), 1) := by decide +kernel
theorem d_CN_fire_65 : decode b_CN_fire 65 = .ok (.ixor, 1) := by decide +kernel
theorem d_CN_fire_66 : decode b_CN_fire 66 = .ok (.iand, 1) := by decide +kernel
theorem d_CN_fire_67 : decode b_CN_fire 67 = .ok (.aload_n 2, 1) := by decide +kernel
theorem d_CN_fire_68 : decode b_CN_fire 68 = .ok (.getfield 95, 3) := by decide +kernel
theorem d_CN_fire_71 : decode b_CN_fire 71 = .ok (.ior, 1) := by decide +kernel
theorem d_CN_fire_72 : decode b_CN_fire 72 = .ok (.putfield 75, 3) := by decide +kernel
theorem d_CN_fire_75 : decode b_CN_fire 75 = .ok (.aload_n 2, 1) := by decide +kernel
theorem d_CN_fire_76 : decode b_CN_fire 76 = .ok (.aload_n 0, 1) := by decide +kernel
theorem d_CN_fire_77 : decode b_CN_fire 77 = .ok (.getfield 19, 3) := by decide +kernel
theorem d_CN_fire_80 : decode b_CN_fire 80 = .ok (.iload_n 1, 1) := by decide +kernel
theorem d_CN_fire_81 : decode b_CN_fire 81 = .ok (.aload_n 2, 1) := by decide +kernel
theorem d_CN_fire_82 : decode b_CN_fire 82 = .ok (.getfield 85, 3) := by decide +kernel
theorem d_CN_fire_85 : decode b_CN_fire 85 = .ok (.aload_n 0, 1) := by decide +kernel
theorem d_CN_fire_86 : decode b_CN_fire 86 = .ok (.getfield 98, 3) := by decide +kernel
theorem d_CN_fire_89 : decode b_CN_fire 89 = .ok (.invokevirtual 101, 3) := by decide +kernel
theorem d_CN_fire_92 : decode b_CN_fire 92 = .ok (.putfield 105, 3) := by decide +kernel
theorem d_CN_fire_95 : decode b_CN_fire 95 = .ok (.aload_n 2, 1) := by decide +kernel
theorem d_CN_fire_96 : decode b_CN_fire 96 = .ok (.getfield 105, 3) := by decide +kernel
theorem d_CN_fire_99 : decode b_CN_fire 99 = .ok (.ireturn, 1) := by decide +kernel
theorem d_Work_has_0 : decode b_Work_has 0 = .ok (.iload_n 1, 1) := by decide +kernel
theorem d_Work_has_1 : decode b_Work_has 1 = .ok (.iconst 1, 1) := by decide +kernel
theorem d_Work_has_2 : decode b_Work_has 2 = .ok (.if_icmp .lt 15, 3) := by decide +kernel
theorem d_Work_has_5 : decode b_Work_has 5 = .ok (.iload_n 1, 1) := by decide +kernel
theorem d_Work_has_6 : decode b_Work_has 6 = .ok (.aload_n 0, 1) := by decide +kernel
theorem d_Work_has_7 : decode b_Work_has 7 = .ok (.getfield 21, 3) := by decide +kernel
theorem d_Work_has_10 : decode b_Work_has 10 = .ok (.if_icmp .gt 7, 3) := by decide +kernel
theorem d_Work_has_13 : decode b_Work_has 13 = .ok (.iconst 1, 1) := by decide +kernel
theorem d_Work_has_14 : decode b_Work_has 14 = .ok (.goto 4, 3) := by decide +kernel
theorem d_Work_has_17 : decode b_Work_has 17 = .ok (.iconst 0, 1) := by decide +kernel
theorem d_Work_has_18 : decode b_Work_has 18 = .ok (.ireturn, 1) := by decide +kernel
theorem d_CN_start_0 : decode b_CN_start 0 = .ok (.aload_n 0, 1) := by decide +kernel
theorem d_CN_start_1 : decode b_CN_start 1 = .ok (.getfield 19, 3) := by decide +kernel
theorem d_CN_start_4 : decode b_CN_start 4 = .ok (.iload_n 1, 1) := by decide +kernel
theorem d_CN_start_5 : decode b_CN_start 5 = .ok (.invokevirtual 108, 3) := by decide +kernel
theorem d_CN_start_8 : decode b_CN_start 8 = .ok (.ifCond .ne 5, 3) := by decide +kernel
theorem d_CN_start_11 : decode b_CN_start 11 = .ok (.iconst (-1), 1) := by decide +kernel
theorem d_CN_start_12 : decode b_CN_start 12 = .ok (.ireturn, 1) := by decide +kernel
theorem d_CN_start_13 : decode b_CN_start 13 = .ok (.aload_n 0, 1) := by decide +kernel
theorem d_CN_start_14 : decode b_CN_start 14 = .ok (.getfield 19, 3) := by decide +kernel
theorem d_CN_start_17 : decode b_CN_start 17 = .ok (.getfield 111, 3) := by decide +kernel
theorem d_CN_start_20 : decode b_CN_start 20 = .ok (.iload_n 1, 1) := by decide +kernel
theorem d_CN_start_21 : decode b_CN_start 21 = .ok (.iaload, 1) := by decide +kernel
theorem d_CN_start_22 : decode b_CN_start 22 = .ok (.iconst 1, 1) := by decide +kernel
theorem d_CN_start_23 : decode b_CN_start 23 = .ok (.if_icmp .eq 6, 3) := by decide +kernel
theorem d_CN_start_26 : decode b_CN_start 26 = .ok (.bipush (-2), 2) := by decide +kernel
theorem d_CN_start_28 : decode b_CN_start 28 = .ok (.ireturn, 1) := by decide +kernel
theorem d_CN_start_29 : decode b_CN_start 29 = .ok (.aload_n 0, 1) := by decide +kernel
theorem d_CN_start_30 : decode b_CN_start 30 = .ok (.getfield 19, 3) := by decide +kernel
theorem d_CN_start_33 : decode b_CN_start 33 = .ok (.getfield 111, 3) := by decide +kernel
theorem d_CN_start_36 : decode b_CN_start 36 = .ok (.iload_n 1, 1) := by decide +kernel
theorem d_CN_start_37 : decode b_CN_start 37 = .ok (.iconst 2, 1) := by decide +kernel
theorem d_CN_start_38 : decode b_CN_start 38 = .ok (.iastore, 1) := by decide +kernel
theorem d_CN_start_39 : decode b_CN_start 39 = .ok (.iconst 0, 1) := by decide +kernel
theorem d_CN_start_40 : decode b_CN_start 40 = .ok (.ireturn, 1) := by decide +kernel
theorem d_Work_countCompleted_0 : decode b_Work_countCompleted 0 = .ok (.iconst 0, 1) := by decide +kernel
theorem d_Work_countCompleted_1 : decode b_Work_countCompleted 1 = .ok (.istore_n 3, 1) := by decide +kernel
theorem d_Work_countCompleted_2 : decode b_Work_countCompleted 2 = .ok (.iload_n 1, 1) := by decide +kernel
theorem d_Work_countCompleted_3 : decode b_Work_countCompleted 3 = .ok (.istore 4, 2) := by decide +kernel
theorem d_Work_countCompleted_5 : decode b_Work_countCompleted 5 = .ok (.iload 4, 2) := by decide +kernel
theorem d_Work_countCompleted_7 : decode b_Work_countCompleted 7 = .ok (.iload_n 1, 1) := by decide +kernel
theorem d_Work_countCompleted_8 : decode b_Work_countCompleted 8 = .ok (.iload_n 2, 1) := by decide +kernel
theorem d_Work_countCompleted_9 : decode b_Work_countCompleted 9 = .ok (.iadd, 1) := by decide +kernel
theorem d_Work_countCompleted_10 : decode b_Work_countCompleted 10 = .ok (.if_icmp .ge 23, 3) := by decide +kernel
theorem d_Work_countCompleted_13 : decode b_Work_countCompleted 13 = .ok (.aload_n 0, 1) := by decide +kernel
theorem d_Work_countCompleted_14 : decode b_Work_countCompleted 14 = .ok (.getfield 15, 3) := by decide +kernel
theorem d_Work_countCompleted_17 : decode b_Work_countCompleted 17 = .ok (.iload 4, 2) := by decide +kernel
theorem d_Work_countCompleted_19 : decode b_Work_countCompleted 19 = .ok (.iaload, 1) := by decide +kernel
theorem d_Work_countCompleted_20 : decode b_Work_countCompleted 20 = .ok (.iconst 3, 1) := by decide +kernel
theorem d_Work_countCompleted_21 : decode b_Work_countCompleted 21 = .ok (.if_icmp .ne 6, 3) := by decide +kernel
theorem d_Work_countCompleted_24 : decode b_Work_countCompleted 24 = .ok (.iinc 3 1, 3) := by decide +kernel
theorem d_Work_countCompleted_27 : decode b_Work_countCompleted 27 = .ok (.iinc 4 1, 3) := by decide +kernel
theorem d_Work_countCompleted_30 : decode b_Work_countCompleted 30 = .ok (.goto (-25), 3) := by decide +kernel
theorem d_Work_countCompleted_33 : decode b_Work_countCompleted 33 = .ok (.iload_n 3, 1) := by decide +kernel
theorem d_Work_countCompleted_34 : decode b_Work_countCompleted 34 = .ok (.ireturn, 1) := by decide +kernel
theorem d_Task_guardHolds_0 : decode b_Task_guardHolds 0 = .ok (.aload_n 2, 1) := by decide +kernel
theorem d_Task_guardHolds_1 : decode b_Task_guardHolds 1 = .ok (.aload_n 0, 1) := by decide +kernel
theorem d_Task_guardHolds_2 : decode b_Task_guardHolds 2 = .ok (.getfield 18, 3) := by decide +kernel
theorem d_Task_guardHolds_5 : decode b_Task_guardHolds 5 = .ok (.iload_n 1, 1) := by decide +kernel
theorem d_Task_guardHolds_6 : decode b_Task_guardHolds 6 = .ok (.iaload, 1) := by decide +kernel
theorem d_Task_guardHolds_7 : decode b_Task_guardHolds 7 = .ok (.iaload, 1) := by decide +kernel
theorem d_Task_guardHolds_8 : decode b_Task_guardHolds 8 = .ok (.istore_n 3, 1) := by decide +kernel
theorem d_Task_guardHolds_9 : decode b_Task_guardHolds 9 = .ok (.iload_n 3, 1) := by decide +kernel
theorem d_Task_guardHolds_10 : decode b_Task_guardHolds 10 = .ok (.aload_n 0, 1) := by decide +kernel
theorem d_Task_guardHolds_11 : decode b_Task_guardHolds 11 = .ok (.getfield 21, 3) := by decide +kernel
theorem d_Task_guardHolds_14 : decode b_Task_guardHolds 14 = .ok (.iload_n 1, 1) := by decide +kernel
theorem d_Task_guardHolds_15 : decode b_Task_guardHolds 15 = .ok (.iaload, 1) := by decide +kernel
theorem d_Task_guardHolds_16 : decode b_Task_guardHolds 16 = .ok (.if_icmp .lt 17, 3) := by decide +kernel
theorem d_Task_guardHolds_19 : decode b_Task_guardHolds 19 = .ok (.iload_n 3, 1) := by decide +kernel
theorem d_Task_guardHolds_20 : decode b_Task_guardHolds 20 = .ok (.aload_n 0, 1) := by decide +kernel
theorem d_Task_guardHolds_21 : decode b_Task_guardHolds 21 = .ok (.getfield 24, 3) := by decide +kernel
theorem d_Task_guardHolds_24 : decode b_Task_guardHolds 24 = .ok (.iload_n 1, 1) := by decide +kernel
theorem d_Task_guardHolds_25 : decode b_Task_guardHolds 25 = .ok (.iaload, 1) := by decide +kernel
theorem d_Task_guardHolds_26 : decode b_Task_guardHolds 26 = .ok (.if_icmp .gt 7, 3) := by decide +kernel
theorem d_Task_guardHolds_29 : decode b_Task_guardHolds 29 = .ok (.iconst 1, 1) := by decide +kernel
theorem d_Task_guardHolds_30 : decode b_Task_guardHolds 30 = .ok (.goto 4, 3) := by decide +kernel
theorem d_Task_guardHolds_33 : decode b_Task_guardHolds 33 = .ok (.iconst 0, 1) := by decide +kernel
theorem d_Task_guardHolds_34 : decode b_Task_guardHolds 34 = .ok (.ireturn, 1) := by decide +kernel
end
section
theorem d_Task_chosenOutputs_0 : decode b_Task_chosenOutputs 0 = .ok (.aload_n 0, 1) := by decide +kernel
theorem d_Task_chosenOutputs_1 : decode b_Task_chosenOutputs 1 = .ok (.getfield 38, 3) := by decide +kernel
theorem d_Task_chosenOutputs_4 : decode b_Task_chosenOutputs 4 = .ok (.ifCond .ne 8, 3) := by decide +kernel
theorem d_Task_chosenOutputs_7 : decode b_Task_chosenOutputs 7 = .ok (.aload_n 0, 1) := by decide +kernel
theorem d_Task_chosenOutputs_8 : decode b_Task_chosenOutputs 8 = .ok (.getfield 44, 3) := by decide +kernel
theorem d_Task_chosenOutputs_11 : decode b_Task_chosenOutputs 11 = .ok (.ireturn, 1) := by decide +kernel
theorem d_Task_chosenOutputs_12 : decode b_Task_chosenOutputs 12 = .ok (.iconst 0, 1) := by decide +kernel
theorem d_Task_chosenOutputs_13 : decode b_Task_chosenOutputs 13 = .ok (.istore_n 2, 1) := by decide +kernel
theorem d_Task_chosenOutputs_14 : decode b_Task_chosenOutputs 14 = .ok (.iconst 0, 1) := by decide +kernel
theorem d_Task_chosenOutputs_15 : decode b_Task_chosenOutputs 15 = .ok (.istore_n 3, 1) := by decide +kernel
theorem d_Task_chosenOutputs_16 : decode b_Task_chosenOutputs 16 = .ok (.iconst 0, 1) := by decide +kernel
theorem d_Task_chosenOutputs_17 : decode b_Task_chosenOutputs 17 = .ok (.istore 4, 2) := by decide +kernel
theorem d_Task_chosenOutputs_19 : decode b_Task_chosenOutputs 19 = .ok (.iload 4, 2) := by decide +kernel
theorem d_Task_chosenOutputs_21 : decode b_Task_chosenOutputs 21 = .ok (.bipush 8, 2) := by decide +kernel
theorem d_Task_chosenOutputs_23 : decode b_Task_chosenOutputs 23 = .ok (.if_icmp .ge 44, 3) := by decide +kernel
theorem d_Task_chosenOutputs_26 : decode b_Task_chosenOutputs 26 = .ok (.aload_n 0, 1) := by decide +kernel
theorem d_Task_chosenOutputs_27 : decode b_Task_chosenOutputs 27 = .ok (.getfield 44, 3) := by decide +kernel
theorem d_Task_chosenOutputs_30 : decode b_Task_chosenOutputs 30 = .ok (.iconst 1, 1) := by decide +kernel
theorem d_Task_chosenOutputs_31 : decode b_Task_chosenOutputs 31 = .ok (.iload 4, 2) := by decide +kernel
theorem d_Task_chosenOutputs_33 : decode b_Task_chosenOutputs 33 = .ok (.ishl, 1) := by decide +kernel
theorem d_Task_chosenOutputs_34 : decode b_Task_chosenOutputs 34 = .ok (.iand, 1) := by decide +kernel
theorem d_Task_chosenOutputs_35 : decode b_Task_chosenOutputs 35 = .ok (.ifCond .eq 26, 3) := by decide +kernel
theorem d_Task_chosenOutputs_38 : decode b_Task_chosenOutputs 38 = .ok (.iconst 1, 1) := by decide +kernel
theorem d_Task_chosenOutputs_39 : decode b_Task_chosenOutputs 39 = .ok (.iload 4, 2) := by decide +kernel
theorem d_Task_chosenOutputs_41 : decode b_Task_chosenOutputs 41 = .ok (.ishl, 1) := by decide +kernel
theorem d_Task_chosenOutputs_42 : decode b_Task_chosenOutputs 42 = .ok (.istore_n 3, 1) := by decide +kernel
theorem d_Task_chosenOutputs_43 : decode b_Task_chosenOutputs 43 = .ok (.iload_n 2, 1) := by decide +kernel
theorem d_Task_chosenOutputs_44 : decode b_Task_chosenOutputs 44 = .ok (.aload_n 0, 1) := by decide +kernel
theorem d_Task_chosenOutputs_45 : decode b_Task_chosenOutputs 45 = .ok (.iload 4, 2) := by decide +kernel
theorem d_Task_chosenOutputs_47 : decode b_Task_chosenOutputs 47 = .ok (.aload_n 1, 1) := by decide +kernel
theorem d_Task_chosenOutputs_48 : decode b_Task_chosenOutputs 48 = .ok (.invokevirtual 93, 3) := by decide +kernel
theorem d_Task_chosenOutputs_51 : decode b_Task_chosenOutputs 51 = .ok (.ifCond .eq 7, 3) := by decide +kernel
theorem d_Task_chosenOutputs_54 : decode b_Task_chosenOutputs 54 = .ok (.iload_n 3, 1) := by decide +kernel
theorem d_Task_chosenOutputs_55 : decode b_Task_chosenOutputs 55 = .ok (.goto 4, 3) := by decide +kernel
theorem d_Task_chosenOutputs_58 : decode b_Task_chosenOutputs 58 = .ok (.iconst 0, 1) := by decide +kernel
theorem d_Task_chosenOutputs_59 : decode b_Task_chosenOutputs 59 = .ok (.ior, 1) := by decide +kernel
theorem d_Task_chosenOutputs_60 : decode b_Task_chosenOutputs 60 = .ok (.istore_n 2, 1) := by decide +kernel
theorem d_Task_chosenOutputs_61 : decode b_Task_chosenOutputs 61 = .ok (.iinc 4 1, 3) := by decide +kernel
theorem d_Task_chosenOutputs_64 : decode b_Task_chosenOutputs 64 = .ok (.goto (-45), 3) := by decide +kernel
theorem d_Task_chosenOutputs_67 : decode b_Task_chosenOutputs 67 = .ok (.iload_n 2, 1) := by decide +kernel
theorem d_Task_chosenOutputs_68 : decode b_Task_chosenOutputs 68 = .ok (.ifCond .ne 5, 3) := by decide +kernel
theorem d_Task_chosenOutputs_71 : decode b_Task_chosenOutputs 71 = .ok (.iload_n 3, 1) := by decide +kernel
theorem d_Task_chosenOutputs_72 : decode b_Task_chosenOutputs 72 = .ok (.ireturn, 1) := by decide +kernel
theorem d_Task_chosenOutputs_73 : decode b_Task_chosenOutputs 73 = .ok (.aload_n 0, 1) := by decide +kernel
theorem d_Task_chosenOutputs_74 : decode b_Task_chosenOutputs 74 = .ok (.getfield 38, 3) := by decide +kernel
theorem d_Task_chosenOutputs_77 : decode b_Task_chosenOutputs 77 = .ok (.iconst 1, 1) := by decide +kernel
theorem d_Task_chosenOutputs_78 : decode b_Task_chosenOutputs 78 = .ok (.if_icmp .ne 10, 3) := by decide +kernel
theorem d_Task_chosenOutputs_81 : decode b_Task_chosenOutputs 81 = .ok (.iload_n 2, 1) := by decide +kernel
theorem d_Task_chosenOutputs_82 : decode b_Task_chosenOutputs 82 = .ok (.iload_n 2, 1) := by decide +kernel
theorem d_Task_chosenOutputs_83 : decode b_Task_chosenOutputs 83 = .ok (.ineg, 1) := by decide +kernel
theorem d_Task_chosenOutputs_84 : decode b_Task_chosenOutputs 84 = .ok (.iand, 1) := by decide +kernel
theorem d_Task_chosenOutputs_85 : decode b_Task_chosenOutputs 85 = .ok (.goto 4, 3) := by decide +kernel
theorem d_Task_chosenOutputs_88 : decode b_Task_chosenOutputs 88 = .ok (.iload_n 2, 1) := by decide +kernel
theorem d_Task_chosenOutputs_89 : decode b_Task_chosenOutputs 89 = .ok (.ireturn, 1) := by decide +kernel
theorem d_CN_end_0 : decode b_CN_end 0 = .ok (.aload_n 0, 1) := by decide +kernel
theorem d_CN_end_1 : decode b_CN_end 1 = .ok (.aload_n 1, 1) := by decide +kernel
theorem d_CN_end_2 : decode b_CN_end 2 = .ok (.invokevirtual 170, 3) := by decide +kernel
theorem d_CN_end_5 : decode b_CN_end 5 = .ok (.aload_n 0, 1) := by decide +kernel
theorem d_CN_end_6 : decode b_CN_end 6 = .ok (.aload_n 1, 1) := by decide +kernel
theorem d_CN_end_7 : decode b_CN_end 7 = .ok (.getfield 55, 3) := by decide +kernel
theorem d_CN_end_10 : decode b_CN_end 10 = .ok (.invokevirtual 78, 3) := by decide +kernel
theorem d_CN_end_13 : decode b_CN_end 13 = .ok (.aload_n 0, 1) := by decide +kernel
theorem d_CN_end_14 : decode b_CN_end 14 = .ok (.aload_n 0, 1) := by decide +kernel
theorem d_CN_end_15 : decode b_CN_end 15 = .ok (.getfield 75, 3) := by decide +kernel
theorem d_CN_end_18 : decode b_CN_end 18 = .ok (.aload_n 1, 1) := by decide +kernel
theorem d_CN_end_19 : decode b_CN_end 19 = .ok (.getfield 55, 3) := by decide +kernel
theorem d_CN_end_22 : decode b_CN_end 22 = .ok (.iconst (-1), 1) := by decide +kernel
theorem d_CN_end_23 : decode b_CN_end 23 = .ok (.ixor, 1) := by decide +kernel
theorem d_CN_end_24 : decode b_CN_end 24 = .ok (.iand, 1) := by decide +kernel
theorem d_CN_end_25 : decode b_CN_end 25 = .ok (.aload_n 1, 1) := by decide +kernel
theorem d_CN_end_26 : decode b_CN_end 26 = .ok (.aload_n 0, 1) := by decide +kernel
theorem d_CN_end_27 : decode b_CN_end 27 = .ok (.getfield 23, 3) := by decide +kernel
theorem d_CN_end_30 : decode b_CN_end 30 = .ok (.invokevirtual 173, 3) := by decide +kernel
theorem d_CN_end_33 : decode b_CN_end 33 = .ok (.ior, 1) := by decide +kernel
theorem d_CN_end_34 : decode b_CN_end 34 = .ok (.putfield 75, 3) := by decide +kernel
theorem d_CN_end_37 : decode b_CN_end 37 = .ok (.return_, 1) := by decide +kernel
theorem d_Work_isAnyOpen_0 : decode b_Work_isAnyOpen 0 = .ok (.iload_n 1, 1) := by decide +kernel
theorem d_Work_isAnyOpen_1 : decode b_Work_isAnyOpen 1 = .ok (.istore_n 3, 1) := by decide +kernel
theorem d_Work_isAnyOpen_2 : decode b_Work_isAnyOpen 2 = .ok (.iload_n 3, 1) := by decide +kernel
theorem d_Work_isAnyOpen_3 : decode b_Work_isAnyOpen 3 = .ok (.iload_n 1, 1) := by decide +kernel
theorem d_Work_isAnyOpen_4 : decode b_Work_isAnyOpen 4 = .ok (.iload_n 2, 1) := by decide +kernel
theorem d_Work_isAnyOpen_5 : decode b_Work_isAnyOpen 5 = .ok (.iadd, 1) := by decide +kernel
theorem d_Work_isAnyOpen_6 : decode b_Work_isAnyOpen 6 = .ok (.if_icmp .ge 19, 3) := by decide +kernel
theorem d_Work_isAnyOpen_9 : decode b_Work_isAnyOpen 9 = .ok (.aload_n 0, 1) := by decide +kernel
theorem d_Work_isAnyOpen_10 : decode b_Work_isAnyOpen 10 = .ok (.iload_n 3, 1) := by decide +kernel
theorem d_Work_isAnyOpen_11 : decode b_Work_isAnyOpen 11 = .ok (.invokevirtual 25, 3) := by decide +kernel
theorem d_Work_isAnyOpen_14 : decode b_Work_isAnyOpen 14 = .ok (.ifCond .eq 5, 3) := by decide +kernel
theorem d_Work_isAnyOpen_17 : decode b_Work_isAnyOpen 17 = .ok (.iconst 1, 1) := by decide +kernel
theorem d_Work_isAnyOpen_18 : decode b_Work_isAnyOpen 18 = .ok (.ireturn, 1) := by decide +kernel
theorem d_Work_isAnyOpen_19 : decode b_Work_isAnyOpen 19 = .ok (.iinc 3 1, 3) := by decide +kernel
theorem d_Work_isAnyOpen_22 : decode b_Work_isAnyOpen 22 = .ok (.goto (-20), 3) := by decide +kernel
theorem d_Work_isAnyOpen_25 : decode b_Work_isAnyOpen 25 = .ok (.iconst 0, 1) := by decide +kernel
theorem d_Work_isAnyOpen_26 : decode b_Work_isAnyOpen 26 = .ok (.ireturn, 1) := by decide +kernel
theorem d_CN_stopIfNoneIsOpen_0 : decode b_CN_stopIfNoneIsOpen 0 = .ok (.aload_n 0, 1) := by decide +kernel
theorem d_CN_stopIfNoneIsOpen_1 : decode b_CN_stopIfNoneIsOpen 1 = .ok (.getfield 19, 3) := by decide +kernel
theorem d_CN_stopIfNoneIsOpen_4 : decode b_CN_stopIfNoneIsOpen 4 = .ok (.aload_n 1, 1) := by decide +kernel
theorem d_CN_stopIfNoneIsOpen_5 : decode b_CN_stopIfNoneIsOpen 5 = .ok (.getfield 105, 3) := by decide +kernel
theorem d_CN_stopIfNoneIsOpen_8 : decode b_CN_stopIfNoneIsOpen 8 = .ok (.aload_n 1, 1) := by decide +kernel
theorem d_CN_stopIfNoneIsOpen_9 : decode b_CN_stopIfNoneIsOpen 9 = .ok (.getfield 85, 3) := by decide +kernel
theorem d_CN_stopIfNoneIsOpen_12 : decode b_CN_stopIfNoneIsOpen 12 = .ok (.invokevirtual 181, 3) := by decide +kernel
theorem d_CN_stopIfNoneIsOpen_15 : decode b_CN_stopIfNoneIsOpen 15 = .ok (.ifCond .eq 5, 3) := by decide +kernel
theorem d_CN_stopIfNoneIsOpen_18 : decode b_CN_stopIfNoneIsOpen 18 = .ok (.iconst 0, 1) := by decide +kernel
theorem d_CN_stopIfNoneIsOpen_19 : decode b_CN_stopIfNoneIsOpen 19 = .ok (.ireturn, 1) := by decide +kernel
theorem d_CN_stopIfNoneIsOpen_20 : decode b_CN_stopIfNoneIsOpen 20 = .ok (.aload_n 0, 1) := by decide +kernel
theorem d_CN_stopIfNoneIsOpen_21 : decode b_CN_stopIfNoneIsOpen 21 = .ok (.aload_n 1, 1) := by decide +kernel
theorem d_CN_stopIfNoneIsOpen_22 : decode b_CN_stopIfNoneIsOpen 22 = .ok (.invokevirtual 170, 3) := by decide +kernel
theorem d_CN_stopIfNoneIsOpen_25 : decode b_CN_stopIfNoneIsOpen 25 = .ok (.iconst 1, 1) := by decide +kernel
theorem d_CN_stopIfNoneIsOpen_26 : decode b_CN_stopIfNoneIsOpen 26 = .ok (.ireturn, 1) := by decide +kernel
theorem d_CN_finish_0 : decode b_CN_finish 0 = .ok (.aload_n 0, 1) := by decide +kernel
theorem d_CN_finish_1 : decode b_CN_finish 1 = .ok (.getfield 19, 3) := by decide +kernel
theorem d_CN_finish_4 : decode b_CN_finish 4 = .ok (.iload_n 1, 1) := by decide +kernel
theorem d_CN_finish_5 : decode b_CN_finish 5 = .ok (.invokevirtual 108, 3) := by decide +kernel
theorem d_CN_finish_8 : decode b_CN_finish 8 = .ok (.ifCond .ne 5, 3) := by decide +kernel
theorem d_CN_finish_11 : decode b_CN_finish 11 = .ok (.iconst (-1), 1) := by decide +kernel
theorem d_CN_finish_12 : decode b_CN_finish 12 = .ok (.ireturn, 1) := by decide +kernel
theorem d_CN_finish_13 : decode b_CN_finish 13 = .ok (.aload_n 0, 1) := by decide +kernel
theorem d_CN_finish_14 : decode b_CN_finish 14 = .ok (.getfield 19, 3) := by decide +kernel
theorem d_CN_finish_17 : decode b_CN_finish 17 = .ok (.getfield 111, 3) := by decide +kernel
theorem d_CN_finish_20 : decode b_CN_finish 20 = .ok (.iload_n 1, 1) := by decide +kernel
theorem d_CN_finish_21 : decode b_CN_finish 21 = .ok (.iaload, 1) := by decide +kernel
theorem d_CN_finish_22 : decode b_CN_finish 22 = .ok (.iconst 2, 1) := by decide +kernel
theorem d_CN_finish_23 : decode b_CN_finish 23 = .ok (.if_icmp .eq 6, 3) := by decide +kernel
theorem d_CN_finish_26 : decode b_CN_finish 26 = .ok (.bipush (-2), 2) := by decide +kernel
theorem d_CN_finish_28 : decode b_CN_finish 28 = .ok (.ireturn, 1) := by decide +kernel
theorem d_CN_finish_29 : decode b_CN_finish 29 = .ok (.aload_n 0, 1) := by decide +kernel
theorem d_CN_finish_30 : decode b_CN_finish 30 = .ok (.getfield 12, 3) := by decide +kernel
theorem d_CN_finish_33 : decode b_CN_finish 33 = .ok (.getfield 39, 3) := by decide +kernel
theorem d_CN_finish_36 : decode b_CN_finish 36 = .ok (.aload_n 0, 1) := by decide +kernel
theorem d_CN_finish_37 : decode b_CN_finish 37 = .ok (.getfield 19, 3) := by decide +kernel
theorem d_CN_finish_40 : decode b_CN_finish 40 = .ok (.getfield 114, 3) := by decide +kernel
theorem d_CN_finish_43 : decode b_CN_finish 43 = .ok (.iload_n 1, 1) := by decide +kernel
theorem d_CN_finish_44 : decode b_CN_finish 44 = .ok (.iaload, 1) := by decide +kernel
theorem d_CN_finish_45 : decode b_CN_finish 45 = .ok (.aaload, 1) := by decide +kernel
theorem d_CN_finish_46 : decode b_CN_finish 46 = .ok (.astore_n 3, 1) := by decide +kernel
theorem d_CN_finish_47 : decode b_CN_finish 47 = .ok (.aload_n 0, 1) := by decide +kernel
theorem d_CN_finish_48 : decode b_CN_finish 48 = .ok (.getfield 19, 3) := by decide +kernel
theorem d_CN_finish_51 : decode b_CN_finish 51 = .ok (.getfield 111, 3) := by decide +kernel
theorem d_CN_finish_54 : decode b_CN_finish 54 = .ok (.iload_n 1, 1) := by decide +kernel
theorem d_CN_finish_55 : decode b_CN_finish 55 = .ok (.iconst 3, 1) := by decide +kernel
theorem d_CN_finish_56 : decode b_CN_finish 56 = .ok (.iastore, 1) := by decide +kernel
theorem d_CN_finish_57 : decode b_CN_finish 57 = .ok (.aload_n 0, 1) := by decide +kernel
theorem d_CN_finish_58 : decode b_CN_finish 58 = .ok (.getfield 23, 3) := by decide +kernel
theorem d_CN_finish_61 : decode b_CN_finish 61 = .ok (.aload_n 3, 1) := by decide +kernel
theorem d_CN_finish_62 : decode b_CN_finish 62 = .ok (.getfield 117, 3) := by decide +kernel
theorem d_CN_finish_65 : decode b_CN_finish 65 = .ok (.iload_n 2, 1) := by decide +kernel
theorem d_CN_finish_66 : decode b_CN_finish 66 = .ok (.iastore, 1) := by decide +kernel
theorem d_CN_finish_67 : decode b_CN_finish 67 = .ok (.aload_n 0, 1) := by decide +kernel
theorem d_CN_finish_68 : decode b_CN_finish 68 = .ok (.getfield 19, 3) := by decide +kernel
theorem d_CN_finish_71 : decode b_CN_finish 71 = .ok (.aload_n 3, 1) := by decide +kernel
theorem d_CN_finish_72 : decode b_CN_finish 72 = .ok (.getfield 105, 3) := by decide +kernel
theorem d_CN_finish_75 : decode b_CN_finish 75 = .ok (.aload_n 3, 1) := by decide +kernel
theorem d_CN_finish_76 : decode b_CN_finish 76 = .ok (.getfield 85, 3) := by decide +kernel
theorem d_CN_finish_79 : decode b_CN_finish 79 = .ok (.invokevirtual 120, 3) := by decide +kernel
theorem d_CN_finish_82 : decode b_CN_finish 82 = .ok (.aload_n 3, 1) := by decide +kernel
theorem d_CN_finish_83 : decode b_CN_finish 83 = .ok (.getfield 124, 3) := by decide +kernel
theorem d_CN_finish_86 : decode b_CN_finish 86 = .ok (.if_icmp .lt 10, 3) := by decide +kernel
theorem d_CN_finish_89 : decode b_CN_finish 89 = .ok (.aload_n 0, 1) := by decide +kernel
theorem d_CN_finish_90 : decode b_CN_finish 90 = .ok (.aload_n 3, 1) := by decide +kernel
theorem d_CN_finish_91 : decode b_CN_finish 91 = .ok (.invokevirtual 127, 3) := by decide +kernel
theorem d_CN_finish_94 : decode b_CN_finish 94 = .ok (.iconst 1, 1) := by decide +kernel
theorem d_CN_finish_95 : decode b_CN_finish 95 = .ok (.ireturn, 1) := by decide +kernel
theorem d_CN_finish_96 : decode b_CN_finish 96 = .ok (.aload_n 0, 1) := by decide +kernel
theorem d_CN_finish_97 : decode b_CN_finish 97 = .ok (.aload_n 3, 1) := by decide +kernel
theorem d_CN_finish_98 : decode b_CN_finish 98 = .ok (.invokevirtual 131, 3) := by decide +kernel
theorem d_CN_finish_101 : decode b_CN_finish 101 = .ok (.pop, 1) := by decide +kernel
theorem d_CN_finish_102 : decode b_CN_finish 102 = .ok (.iconst 0, 1) := by decide +kernel
theorem d_CN_finish_103 : decode b_CN_finish 103 = .ok (.ireturn, 1) := by decide +kernel
theorem d_CN_failOpen_0 : decode b_CN_failOpen 0 = .ok (.aload_n 0, 1) := by decide +kernel
theorem d_CN_failOpen_1 : decode b_CN_failOpen 1 = .ok (.getfield 19, 3) := by decide +kernel
theorem d_CN_failOpen_4 : decode b_CN_failOpen 4 = .ok (.getfield 111, 3) := by decide +kernel
theorem d_CN_failOpen_7 : decode b_CN_failOpen 7 = .ok (.iload_n 1, 1) := by decide +kernel
theorem d_CN_failOpen_8 : decode b_CN_failOpen 8 = .ok (.iconst 4, 1) := by decide +kernel
theorem d_CN_failOpen_9 : decode b_CN_failOpen 9 = .ok (.iastore, 1) := by decide +kernel
theorem d_CN_failOpen_10 : decode b_CN_failOpen 10 = .ok (.aload_n 0, 1) := by decide +kernel
theorem d_CN_failOpen_11 : decode b_CN_failOpen 11 = .ok (.aload_n 0, 1) := by decide +kernel
theorem d_CN_failOpen_12 : decode b_CN_failOpen 12 = .ok (.getfield 12, 3) := by decide +kernel
theorem d_CN_failOpen_15 : decode b_CN_failOpen 15 = .ok (.getfield 39, 3) := by decide +kernel
theorem d_CN_failOpen_18 : decode b_CN_failOpen 18 = .ok (.aload_n 0, 1) := by decide +kernel
theorem d_CN_failOpen_19 : decode b_CN_failOpen 19 = .ok (.getfield 19, 3) := by decide +kernel
theorem d_CN_failOpen_22 : decode b_CN_failOpen 22 = .ok (.getfield 114, 3) := by decide +kernel
theorem d_CN_failOpen_25 : decode b_CN_failOpen 25 = .ok (.iload_n 1, 1) := by decide +kernel
theorem d_CN_failOpen_26 : decode b_CN_failOpen 26 = .ok (.iaload, 1) := by decide +kernel
theorem d_CN_failOpen_27 : decode b_CN_failOpen 27 = .ok (.aaload, 1) := by decide +kernel
theorem d_CN_failOpen_28 : decode b_CN_failOpen 28 = .ok (.invokevirtual 131, 3) := by decide +kernel
theorem d_CN_failOpen_31 : decode b_CN_failOpen 31 = .ok (.ireturn, 1) := by decide +kernel
theorem d_CN_fail_0 : decode b_CN_fail 0 = .ok (.aload_n 0, 1) := by decide +kernel
theorem d_CN_fail_1 : decode b_CN_fail 1 = .ok (.getfield 19, 3) := by decide +kernel
theorem d_CN_fail_4 : decode b_CN_fail 4 = .ok (.iload_n 1, 1) := by decide +kernel
theorem d_CN_fail_5 : decode b_CN_fail 5 = .ok (.invokevirtual 108, 3) := by decide +kernel
theorem d_CN_fail_8 : decode b_CN_fail 8 = .ok (.ifCond .ne 5, 3) := by decide +kernel
theorem d_CN_fail_11 : decode b_CN_fail 11 = .ok (.iconst (-1), 1) := by decide +kernel
theorem d_CN_fail_12 : decode b_CN_fail 12 = .ok (.ireturn, 1) := by decide +kernel
theorem d_CN_fail_13 : decode b_CN_fail 13 = .ok (.aload_n 0, 1) := by decide +kernel
theorem d_CN_fail_14 : decode b_CN_fail 14 = .ok (.getfield 19, 3) := by decide +kernel
theorem d_CN_fail_17 : decode b_CN_fail 17 = .ok (.iload_n 1, 1) := by decide +kernel
theorem d_CN_fail_18 : decode b_CN_fail 18 = .ok (.invokevirtual 135, 3) := by decide +kernel
theorem d_CN_fail_21 : decode b_CN_fail 21 = .ok (.ifCond .ne 6, 3) := by decide +kernel
theorem d_CN_fail_24 : decode b_CN_fail 24 = .ok (.bipush (-2), 2) := by decide +kernel
theorem d_CN_fail_26 : decode b_CN_fail 26 = .ok (.ireturn, 1) := by decide +kernel
theorem d_CN_fail_27 : decode b_CN_fail 27 = .ok (.aload_n 0, 1) := by decide +kernel
theorem d_CN_fail_28 : decode b_CN_fail 28 = .ok (.iload_n 1, 1) := by decide +kernel
theorem d_CN_fail_29 : decode b_CN_fail 29 = .ok (.invokevirtual 138, 3) := by decide +kernel
theorem d_CN_fail_32 : decode b_CN_fail 32 = .ok (.ifCond .eq 7, 3) := by decide +kernel
theorem d_CN_fail_35 : decode b_CN_fail 35 = .ok (.iconst 1, 1) := by decide +kernel
theorem d_CN_fail_36 : decode b_CN_fail 36 = .ok (.goto 4, 3) := by decide +kernel
theorem d_CN_fail_39 : decode b_CN_fail 39 = .ok (.iconst 0, 1) := by decide +kernel
theorem d_CN_fail_40 : decode b_CN_fail 40 = .ok (.ireturn, 1) := by decide +kernel
theorem d_CN_isOverdue_0 : decode b_CN_isOverdue 0 = .ok (.aload_n 0, 1) := by decide +kernel
theorem d_CN_isOverdue_1 : decode b_CN_isOverdue 1 = .ok (.getfield 12, 3) := by decide +kernel
theorem d_CN_isOverdue_4 : decode b_CN_isOverdue 4 = .ok (.getfield 39, 3) := by decide +kernel
theorem d_CN_isOverdue_7 : decode b_CN_isOverdue 7 = .ok (.aload_n 0, 1) := by decide +kernel
theorem d_CN_isOverdue_8 : decode b_CN_isOverdue 8 = .ok (.getfield 19, 3) := by decide +kernel
theorem d_CN_isOverdue_11 : decode b_CN_isOverdue 11 = .ok (.getfield 114, 3) := by decide +kernel
theorem d_CN_isOverdue_14 : decode b_CN_isOverdue 14 = .ok (.iload_n 1, 1) := by decide +kernel
theorem d_CN_isOverdue_15 : decode b_CN_isOverdue 15 = .ok (.iaload, 1) := by decide +kernel
theorem d_CN_isOverdue_16 : decode b_CN_isOverdue 16 = .ok (.aaload, 1) := by decide +kernel
theorem d_CN_isOverdue_17 : decode b_CN_isOverdue 17 = .ok (.getfield 185, 3) := by decide +kernel
theorem d_CN_isOverdue_20 : decode b_CN_isOverdue 20 = .ok (.istore_n 2, 1) := by decide +kernel
theorem d_CN_isOverdue_21 : decode b_CN_isOverdue 21 = .ok (.iload_n 2, 1) := by decide +kernel
theorem d_CN_isOverdue_22 : decode b_CN_isOverdue 22 = .ok (.ifCond .le 25, 3) := by decide +kernel
theorem d_CN_isOverdue_25 : decode b_CN_isOverdue 25 = .ok (.aload_n 0, 1) := by decide +kernel
theorem d_CN_isOverdue_26 : decode b_CN_isOverdue 26 = .ok (.getfield 98, 3) := by decide +kernel
theorem d_CN_isOverdue_29 : decode b_CN_isOverdue 29 = .ok (.aload_n 0, 1) := by decide +kernel
theorem d_CN_isOverdue_30 : decode b_CN_isOverdue 30 = .ok (.getfield 19, 3) := by decide +kernel
theorem d_CN_isOverdue_33 : decode b_CN_isOverdue 33 = .ok (.getfield 147, 3) := by decide +kernel
theorem d_CN_isOverdue_36 : decode b_CN_isOverdue 36 = .ok (.iload_n 1, 1) := by decide +kernel
theorem d_CN_isOverdue_37 : decode b_CN_isOverdue 37 = .ok (.iaload, 1) := by decide +kernel
theorem d_CN_isOverdue_38 : decode b_CN_isOverdue 38 = .ok (.isub, 1) := by decide +kernel
theorem d_CN_isOverdue_39 : decode b_CN_isOverdue 39 = .ok (.iload_n 2, 1) := by decide +kernel
theorem d_CN_isOverdue_40 : decode b_CN_isOverdue 40 = .ok (.if_icmp .lt 7, 3) := by decide +kernel
theorem d_CN_isOverdue_43 : decode b_CN_isOverdue 43 = .ok (.iconst 1, 1) := by decide +kernel
theorem d_CN_isOverdue_44 : decode b_CN_isOverdue 44 = .ok (.goto 4, 3) := by decide +kernel
theorem d_CN_isOverdue_47 : decode b_CN_isOverdue 47 = .ok (.iconst 0, 1) := by decide +kernel
theorem d_CN_isOverdue_48 : decode b_CN_isOverdue 48 = .ok (.ireturn, 1) := by decide +kernel
theorem d_CN_tick_0 : decode b_CN_tick 0 = .ok (.iload_n 1, 1) := by decide +kernel
theorem d_CN_tick_1 : decode b_CN_tick 1 = .ok (.iconst 0, 1) := by decide +kernel
theorem d_CN_tick_2 : decode b_CN_tick 2 = .ok (.bipush 100, 2) := by decide +kernel
theorem d_CN_tick_4 : decode b_CN_tick 4 = .ok (.invokestatic 31, 3) := by decide +kernel
theorem d_CN_tick_7 : decode b_CN_tick 7 = .ok (.ifCond .eq 13, 3) := by decide +kernel
theorem d_CN_tick_10 : decode b_CN_tick 10 = .ok (.aload_n 0, 1) := by decide +kernel
theorem d_CN_tick_11 : decode b_CN_tick 11 = .ok (.dup, 1) := by decide +kernel
theorem d_CN_tick_12 : decode b_CN_tick 12 = .ok (.getfield 98, 3) := by decide +kernel
theorem d_CN_tick_15 : decode b_CN_tick 15 = .ok (.iload_n 1, 1) := by decide +kernel
theorem d_CN_tick_16 : decode b_CN_tick 16 = .ok (.iadd, 1) := by decide +kernel
theorem d_CN_tick_17 : decode b_CN_tick 17 = .ok (.putfield 98, 3) := by decide +kernel
theorem d_CN_tick_20 : decode b_CN_tick 20 = .ok (.iconst 1, 1) := by decide +kernel
theorem d_CN_tick_21 : decode b_CN_tick 21 = .ok (.istore_n 2, 1) := by decide +kernel
theorem d_CN_tick_22 : decode b_CN_tick 22 = .ok (.iload_n 2, 1) := by decide +kernel
theorem d_CN_tick_23 : decode b_CN_tick 23 = .ok (.aload_n 0, 1) := by decide +kernel
theorem d_CN_tick_24 : decode b_CN_tick 24 = .ok (.getfield 19, 3) := by decide +kernel
theorem d_CN_tick_27 : decode b_CN_tick 27 = .ok (.getfield 141, 3) := by decide +kernel
theorem d_CN_tick_30 : decode b_CN_tick 30 = .ok (.if_icmp .gt 34, 3) := by decide +kernel
theorem d_CN_tick_33 : decode b_CN_tick 33 = .ok (.aload_n 0, 1) := by decide +kernel
theorem d_CN_tick_34 : decode b_CN_tick 34 = .ok (.getfield 19, 3) := by decide +kernel
theorem d_CN_tick_37 : decode b_CN_tick 37 = .ok (.iload_n 2, 1) := by decide +kernel
theorem d_CN_tick_38 : decode b_CN_tick 38 = .ok (.invokevirtual 135, 3) := by decide +kernel
theorem d_CN_tick_41 : decode b_CN_tick 41 = .ok (.ifCond .eq 17, 3) := by decide +kernel
theorem d_CN_tick_44 : decode b_CN_tick 44 = .ok (.aload_n 0, 1) := by decide +kernel
theorem d_CN_tick_45 : decode b_CN_tick 45 = .ok (.iload_n 2, 1) := by decide +kernel
theorem d_CN_tick_46 : decode b_CN_tick 46 = .ok (.invokevirtual 144, 3) := by decide +kernel
theorem d_CN_tick_49 : decode b_CN_tick 49 = .ok (.ifCond .eq 9, 3) := by decide +kernel
theorem d_CN_tick_52 : decode b_CN_tick 52 = .ok (.aload_n 0, 1) := by decide +kernel
theorem d_CN_tick_53 : decode b_CN_tick 53 = .ok (.iload_n 2, 1) := by decide +kernel
theorem d_CN_tick_54 : decode b_CN_tick 54 = .ok (.invokevirtual 138, 3) := by decide +kernel
theorem d_CN_tick_57 : decode b_CN_tick 57 = .ok (.pop, 1) := by decide +kernel
theorem d_CN_tick_58 : decode b_CN_tick 58 = .ok (.iinc 2 1, 3) := by decide +kernel
theorem d_CN_tick_61 : decode b_CN_tick 61 = .ok (.goto (-39), 3) := by decide +kernel
theorem d_CN_tick_64 : decode b_CN_tick 64 = .ok (.aload_n 0, 1) := by decide +kernel
theorem d_CN_tick_65 : decode b_CN_tick 65 = .ok (.getfield 98, 3) := by decide +kernel
theorem d_CN_tick_68 : decode b_CN_tick 68 = .ok (.ireturn, 1) := by decide +kernel
theorem d_CN_set_0 : decode b_CN_set 0 = .ok (.iload_n 1, 1) := by decide +kernel
theorem d_CN_set_1 : decode b_CN_set 1 = .ok (.invokestatic 59, 3) := by decide +kernel
theorem d_CN_set_4 : decode b_CN_set 4 = .ok (.ifCond .ne 5, 3) := by decide +kernel
theorem d_CN_set_7 : decode b_CN_set 7 = .ok (.iconst 0, 1) := by decide +kernel
theorem d_CN_set_8 : decode b_CN_set 8 = .ok (.ireturn, 1) := by decide +kernel
theorem d_CN_set_9 : decode b_CN_set 9 = .ok (.aload_n 0, 1) := by decide +kernel
theorem d_CN_set_10 : decode b_CN_set 10 = .ok (.getfield 23, 3) := by decide +kernel
theorem d_CN_set_13 : decode b_CN_set 13 = .ok (.iload_n 1, 1) := by decide +kernel
theorem d_CN_set_14 : decode b_CN_set 14 = .ok (.iload_n 2, 1) := by decide +kernel
theorem d_CN_set_15 : decode b_CN_set 15 = .ok (.iastore, 1) := by decide +kernel
theorem d_CN_set_16 : decode b_CN_set 16 = .ok (.iconst 1, 1) := by decide +kernel
theorem d_CN_set_17 : decode b_CN_set 17 = .ok (.ireturn, 1) := by decide +kernel
theorem d_CN_variable_0 : decode b_CN_variable 0 = .ok (.iload_n 1, 1) := by decide +kernel
theorem d_CN_variable_1 : decode b_CN_variable 1 = .ok (.invokestatic 59, 3) := by decide +kernel
theorem d_CN_variable_4 : decode b_CN_variable 4 = .ok (.ifCond .eq 12, 3) := by decide +kernel
theorem d_CN_variable_7 : decode b_CN_variable 7 = .ok (.aload_n 0, 1) := by decide +kernel
theorem d_CN_variable_8 : decode b_CN_variable 8 = .ok (.getfield 23, 3) := by decide +kernel
theorem d_CN_variable_11 : decode b_CN_variable 11 = .ok (.iload_n 1, 1) := by decide +kernel
theorem d_CN_variable_12 : decode b_CN_variable 12 = .ok (.iaload, 1) := by decide +kernel
theorem d_CN_variable_13 : decode b_CN_variable 13 = .ok (.goto 4, 3) := by decide +kernel
theorem d_CN_variable_16 : decode b_CN_variable 16 = .ok (.iconst 0, 1) := by decide +kernel
theorem d_CN_variable_17 : decode b_CN_variable 17 = .ok (.ireturn, 1) := by decide +kernel
theorem d_CN_marking_0 : decode b_CN_marking 0 = .ok (.aload_n 0, 1) := by decide +kernel
theorem d_CN_marking_1 : decode b_CN_marking 1 = .ok (.getfield 75, 3) := by decide +kernel
theorem d_CN_marking_4 : decode b_CN_marking 4 = .ok (.ireturn, 1) := by decide +kernel
theorem d_CN_item_0 : decode b_CN_item 0 = .ok (.aload_n 0, 1) := by decide +kernel
theorem d_CN_item_1 : decode b_CN_item 1 = .ok (.getfield 19, 3) := by decide +kernel
theorem d_CN_item_4 : decode b_CN_item 4 = .ok (.iload_n 1, 1) := by decide +kernel
theorem d_CN_item_5 : decode b_CN_item 5 = .ok (.invokevirtual 108, 3) := by decide +kernel
theorem d_CN_item_8 : decode b_CN_item 8 = .ok (.ifCond .ne 5, 3) := by decide +kernel
theorem d_CN_item_11 : decode b_CN_item 11 = .ok (.iconst (-1), 1) := by decide +kernel
theorem d_CN_item_12 : decode b_CN_item 12 = .ok (.ireturn, 1) := by decide +kernel
theorem d_CN_item_13 : decode b_CN_item 13 = .ok (.iload_n 2, 1) := by decide +kernel
theorem d_CN_item_14 : decode b_CN_item 14 = .ok (.tableswitch 56 0 2 #[26, 36, 46], 26) := by decide +kernel
theorem d_CN_item_40 : decode b_CN_item 40 = .ok (.aload_n 0, 1) := by decide +kernel
theorem d_CN_item_41 : decode b_CN_item 41 = .ok (.getfield 19, 3) := by decide +kernel
theorem d_CN_item_44 : decode b_CN_item 44 = .ok (.getfield 114, 3) := by decide +kernel
theorem d_CN_item_47 : decode b_CN_item 47 = .ok (.iload_n 1, 1) := by decide +kernel
theorem d_CN_item_48 : decode b_CN_item 48 = .ok (.iaload, 1) := by decide +kernel
theorem d_CN_item_49 : decode b_CN_item 49 = .ok (.ireturn, 1) := by decide +kernel
theorem d_CN_item_50 : decode b_CN_item 50 = .ok (.aload_n 0, 1) := by decide +kernel
theorem d_CN_item_51 : decode b_CN_item 51 = .ok (.getfield 19, 3) := by decide +kernel
theorem d_CN_item_54 : decode b_CN_item 54 = .ok (.getfield 111, 3) := by decide +kernel
theorem d_CN_item_57 : decode b_CN_item 57 = .ok (.iload_n 1, 1) := by decide +kernel
theorem d_CN_item_58 : decode b_CN_item 58 = .ok (.iaload, 1) := by decide +kernel
theorem d_CN_item_59 : decode b_CN_item 59 = .ok (.ireturn, 1) := by decide +kernel
theorem d_CN_item_60 : decode b_CN_item 60 = .ok (.aload_n 0, 1) := by decide +kernel
theorem d_CN_item_61 : decode b_CN_item 61 = .ok (.getfield 19, 3) := by decide +kernel
theorem d_CN_item_64 : decode b_CN_item 64 = .ok (.getfield 147, 3) := by decide +kernel
theorem d_CN_item_67 : decode b_CN_item 67 = .ok (.iload_n 1, 1) := by decide +kernel
theorem d_CN_item_68 : decode b_CN_item 68 = .ok (.iaload, 1) := by decide +kernel
theorem d_CN_item_69 : decode b_CN_item 69 = .ok (.ireturn, 1) := by decide +kernel
theorem d_CN_item_70 : decode b_CN_item 70 = .ok (.iconst (-1), 1) := by decide +kernel
theorem d_CN_item_71 : decode b_CN_item 71 = .ok (.ireturn, 1) := by decide +kernel
theorem d_CN_covers_0 : decode b_CN_covers 0 = .ok (.iload_n 1, 1) := by decide +kernel
theorem d_CN_covers_1 : decode b_CN_covers 1 = .ok (.invokestatic 52, 3) := by decide +kernel
theorem d_CN_covers_4 : decode b_CN_covers 4 = .ok (.ifCond .eq 10, 3) := by decide +kernel
theorem d_CN_covers_7 : decode b_CN_covers 7 = .ok (.iload_n 2, 1) := by decide +kernel
theorem d_CN_covers_8 : decode b_CN_covers 8 = .ok (.invokestatic 52, 3) := by decide +kernel
theorem d_CN_covers_11 : decode b_CN_covers 11 = .ok (.ifCond .ne 5, 3) := by decide +kernel
theorem d_CN_covers_14 : decode b_CN_covers 14 = .ok (.iconst (-1), 1) := by decide +kernel
theorem d_CN_covers_15 : decode b_CN_covers 15 = .ok (.ireturn, 1) := by decide +kernel
theorem d_CN_covers_16 : decode b_CN_covers 16 = .ok (.iload_n 3, 1) := by decide +kernel
theorem d_CN_covers_17 : decode b_CN_covers 17 = .ok (.iconst (-1), 1) := by decide +kernel
theorem d_CN_covers_18 : decode b_CN_covers 18 = .ok (.iconst 5, 1) := by decide +kernel
theorem d_CN_covers_19 : decode b_CN_covers 19 = .ok (.invokestatic 31, 3) := by decide +kernel
theorem d_CN_covers_22 : decode b_CN_covers 22 = .ok (.ifCond .ne 5, 3) := by decide +kernel
theorem d_CN_covers_25 : decode b_CN_covers 25 = .ok (.iconst (-1), 1) := by decide +kernel
theorem d_CN_covers_26 : decode b_CN_covers 26 = .ok (.ireturn, 1) := by decide +kernel
theorem d_CN_covers_27 : decode b_CN_covers 27 = .ok (.aload_n 0, 1) := by decide +kernel
theorem d_CN_covers_28 : decode b_CN_covers 28 = .ok (.getfield 12, 3) := by decide +kernel
theorem d_CN_covers_31 : decode b_CN_covers 31 = .ok (.iload_n 2, 1) := by decide +kernel
theorem d_CN_covers_32 : decode b_CN_covers 32 = .ok (.iload_n 1, 1) := by decide +kernel
theorem d_CN_covers_33 : decode b_CN_covers 33 = .ok (.iload_n 3, 1) := by decide +kernel
theorem d_CN_covers_34 : decode b_CN_covers 34 = .ok (.invokevirtual 150, 3) := by decide +kernel
theorem d_CN_covers_37 : decode b_CN_covers 37 = .ok (.ifCond .eq 7, 3) := by decide +kernel
theorem d_CN_covers_40 : decode b_CN_covers 40 = .ok (.iconst 1, 1) := by decide +kernel
theorem d_CN_covers_41 : decode b_CN_covers 41 = .ok (.goto 4, 3) := by decide +kernel
theorem d_CN_covers_44 : decode b_CN_covers 44 = .ok (.iconst 0, 1) := by decide +kernel
theorem d_CN_covers_45 : decode b_CN_covers 45 = .ok (.ireturn, 1) := by decide +kernel
theorem d_Net_hasJoinSome_0 : decode b_Net_hasJoinSome 0 = .ok (.iconst 0, 1) := by decide +kernel
theorem d_Net_hasJoinSome_1 : decode b_Net_hasJoinSome 1 = .ok (.istore_n 1, 1) := by decide +kernel
theorem d_Net_hasJoinSome_2 : decode b_Net_hasJoinSome 2 = .ok (.iload_n 1, 1) := by decide +kernel
theorem d_Net_hasJoinSome_3 : decode b_Net_hasJoinSome 3 = .ok (.bipush 6, 2) := by decide +kernel
theorem d_Net_hasJoinSome_5 : decode b_Net_hasJoinSome 5 = .ok (.if_icmp .ge 36, 3) := by decide +kernel
theorem d_Net_hasJoinSome_8 : decode b_Net_hasJoinSome 8 = .ok (.aload_n 0, 1) := by decide +kernel
theorem d_Net_hasJoinSome_9 : decode b_Net_hasJoinSome 9 = .ok (.getfield 11, 3) := by decide +kernel
theorem d_Net_hasJoinSome_12 : decode b_Net_hasJoinSome 12 = .ok (.iload_n 1, 1) := by decide +kernel
theorem d_Net_hasJoinSome_13 : decode b_Net_hasJoinSome 13 = .ok (.aaload, 1) := by decide +kernel
theorem d_Net_hasJoinSome_14 : decode b_Net_hasJoinSome 14 = .ok (.getfield 37, 3) := by decide +kernel
theorem d_Net_hasJoinSome_17 : decode b_Net_hasJoinSome 17 = .ok (.ifCond .eq 18, 3) := by decide +kernel
theorem d_Net_hasJoinSome_20 : decode b_Net_hasJoinSome 20 = .ok (.aload_n 0, 1) := by decide +kernel
theorem d_Net_hasJoinSome_21 : decode b_Net_hasJoinSome 21 = .ok (.getfield 11, 3) := by decide +kernel
theorem d_Net_hasJoinSome_24 : decode b_Net_hasJoinSome 24 = .ok (.iload_n 1, 1) := by decide +kernel
theorem d_Net_hasJoinSome_25 : decode b_Net_hasJoinSome 25 = .ok (.aaload, 1) := by decide +kernel
theorem d_Net_hasJoinSome_26 : decode b_Net_hasJoinSome 26 = .ok (.getfield 66, 3) := by decide +kernel
theorem d_Net_hasJoinSome_29 : decode b_Net_hasJoinSome 29 = .ok (.iconst 2, 1) := by decide +kernel
theorem d_Net_hasJoinSome_30 : decode b_Net_hasJoinSome 30 = .ok (.if_icmp .ne 5, 3) := by decide +kernel
theorem d_Net_hasJoinSome_33 : decode b_Net_hasJoinSome 33 = .ok (.iconst 1, 1) := by decide +kernel
theorem d_Net_hasJoinSome_34 : decode b_Net_hasJoinSome 34 = .ok (.ireturn, 1) := by decide +kernel
theorem d_Net_hasJoinSome_35 : decode b_Net_hasJoinSome 35 = .ok (.iinc 1 1, 3) := by decide +kernel
theorem d_Net_hasJoinSome_38 : decode b_Net_hasJoinSome 38 = .ok (.goto (-36), 3) := by decide +kernel
theorem d_Net_hasJoinSome_41 : decode b_Net_hasJoinSome 41 = .ok (.iconst 0, 1) := by decide +kernel
theorem d_Net_hasJoinSome_42 : decode b_Net_hasJoinSome 42 = .ok (.ireturn, 1) := by decide +kernel
theorem d_Net_addReached_0 : decode b_Net_addReached 0 = .ok (.aload_n 0, 1) := by decide +kernel
theorem d_Net_addReached_1 : decode b_Net_addReached 1 = .ok (.getfield 24, 3) := by decide +kernel
theorem d_Net_addReached_4 : decode b_Net_addReached 4 = .ok (.iload_n 1, 1) := by decide +kernel
theorem d_Net_addReached_5 : decode b_Net_addReached 5 = .ok (.invokevirtual 75, 3) := by decide +kernel
theorem d_Net_addReached_8 : decode b_Net_addReached 8 = .ok (.ifCond .ne 19, 3) := by decide +kernel
theorem d_Net_addReached_11 : decode b_Net_addReached 11 = .ok (.aload_n 0, 1) := by decide +kernel
theorem d_Net_addReached_12 : decode b_Net_addReached 12 = .ok (.getfield 24, 3) := by decide +kernel
theorem d_Net_addReached_15 : decode b_Net_addReached 15 = .ok (.iload_n 1, 1) := by decide +kernel
theorem d_Net_addReached_16 : decode b_Net_addReached 16 = .ok (.invokevirtual 111, 3) := by decide +kernel
theorem d_Net_addReached_19 : decode b_Net_addReached 19 = .ok (.aload_n 0, 1) := by decide +kernel
theorem d_Net_addReached_20 : decode b_Net_addReached 20 = .ok (.getfield 20, 3) := by decide +kernel
theorem d_Net_addReached_23 : decode b_Net_addReached 23 = .ok (.iload_n 1, 1) := by decide +kernel
theorem d_Net_addReached_24 : decode b_Net_addReached 24 = .ok (.invokevirtual 111, 3) := by decide +kernel
theorem d_Net_addReached_27 : decode b_Net_addReached 27 = .ok (.return_, 1) := by decide +kernel
end
section
theorem d_Net_goOnByBegin_0 : decode b_Net_goOnByBegin 0 = .ok (.aload_n 0, 1) := by decide +kernel
theorem d_Net_goOnByBegin_1 : decode b_Net_goOnByBegin 1 = .ok (.getfield 11, 3) := by decide +kernel
theorem d_Net_goOnByBegin_4 : decode b_Net_goOnByBegin 4 = .ok (.iload_n 1, 1) := by decide +kernel
theorem d_Net_goOnByBegin_5 : decode b_Net_goOnByBegin 5 = .ok (.aaload, 1) := by decide +kernel
theorem d_Net_goOnByBegin_6 : decode b_Net_goOnByBegin 6 = .ok (.astore_n 3, 1) := by decide +kernel
theorem d_Net_goOnByBegin_7 : decode b_Net_goOnByBegin 7 = .ok (.iconst 0, 1) := by decide +kernel
theorem d_Net_goOnByBegin_8 : decode b_Net_goOnByBegin 8 = .ok (.istore 4, 2) := by decide +kernel
theorem d_Net_goOnByBegin_10 : decode b_Net_goOnByBegin 10 = .ok (.iload 4, 2) := by decide +kernel
theorem d_Net_goOnByBegin_12 : decode b_Net_goOnByBegin 12 = .ok (.aload_n 3, 1) := by decide +kernel
theorem d_Net_goOnByBegin_13 : decode b_Net_goOnByBegin 13 = .ok (.getfield 102, 3) := by decide +kernel
theorem d_Net_goOnByBegin_16 : decode b_Net_goOnByBegin 16 = .ok (.if_icmp .ge 54, 3) := by decide +kernel
theorem d_Net_goOnByBegin_19 : decode b_Net_goOnByBegin 19 = .ok (.aload_n 3, 1) := by decide +kernel
theorem d_Net_goOnByBegin_20 : decode b_Net_goOnByBegin 20 = .ok (.getfield 105, 3) := by decide +kernel
theorem d_Net_goOnByBegin_23 : decode b_Net_goOnByBegin 23 = .ok (.iload 4, 2) := by decide +kernel
theorem d_Net_goOnByBegin_25 : decode b_Net_goOnByBegin 25 = .ok (.iaload, 1) := by decide +kernel
theorem d_Net_goOnByBegin_26 : decode b_Net_goOnByBegin 26 = .ok (.istore 5, 2) := by decide +kernel
theorem d_Net_goOnByBegin_28 : decode b_Net_goOnByBegin 28 = .ok (.iload_n 2, 1) := by decide +kernel
theorem d_Net_goOnByBegin_29 : decode b_Net_goOnByBegin 29 = .ok (.iload 5, 2) := by decide +kernel
theorem d_Net_goOnByBegin_31 : decode b_Net_goOnByBegin 31 = .ok (.iand, 1) := by decide +kernel
theorem d_Net_goOnByBegin_32 : decode b_Net_goOnByBegin 32 = .ok (.iload 5, 2) := by decide +kernel
theorem d_Net_goOnByBegin_34 : decode b_Net_goOnByBegin 34 = .ok (.if_icmp .ne 30, 3) := by decide +kernel
theorem d_Net_goOnByBegin_37 : decode b_Net_goOnByBegin 37 = .ok (.aload_n 0, 1) := by decide +kernel
theorem d_Net_goOnByBegin_38 : decode b_Net_goOnByBegin 38 = .ok (.dup, 1) := by decide +kernel
theorem d_Net_goOnByBegin_39 : decode b_Net_goOnByBegin 39 = .ok (.getfield 62, 3) := by decide +kernel
theorem d_Net_goOnByBegin_42 : decode b_Net_goOnByBegin 42 = .ok (.iconst 1, 1) := by decide +kernel
theorem d_Net_goOnByBegin_43 : decode b_Net_goOnByBegin 43 = .ok (.iload_n 1, 1) := by decide +kernel
theorem d_Net_goOnByBegin_44 : decode b_Net_goOnByBegin 44 = .ok (.ishl, 1) := by decide +kernel
theorem d_Net_goOnByBegin_45 : decode b_Net_goOnByBegin 45 = .ok (.ior, 1) := by decide +kernel
theorem d_Net_goOnByBegin_46 : decode b_Net_goOnByBegin 46 = .ok (.putfield 62, 3) := by decide +kernel
theorem d_Net_goOnByBegin_49 : decode b_Net_goOnByBegin 49 = .ok (.aload_n 0, 1) := by decide +kernel
theorem d_Net_goOnByBegin_50 : decode b_Net_goOnByBegin 50 = .ok (.iload_n 2, 1) := by decide +kernel
theorem d_Net_goOnByBegin_51 : decode b_Net_goOnByBegin 51 = .ok (.iload 5, 2) := by decide +kernel
theorem d_Net_goOnByBegin_53 : decode b_Net_goOnByBegin 53 = .ok (.iconst (-1), 1) := by decide +kernel
theorem d_Net_goOnByBegin_54 : decode b_Net_goOnByBegin 54 = .ok (.ixor, 1) := by decide +kernel
theorem d_Net_goOnByBegin_55 : decode b_Net_goOnByBegin 55 = .ok (.iand, 1) := by decide +kernel
theorem d_Net_goOnByBegin_56 : decode b_Net_goOnByBegin 56 = .ok (.aload_n 3, 1) := by decide +kernel
theorem d_Net_goOnByBegin_57 : decode b_Net_goOnByBegin 57 = .ok (.getfield 92, 3) := by decide +kernel
theorem d_Net_goOnByBegin_60 : decode b_Net_goOnByBegin 60 = .ok (.ior, 1) := by decide +kernel
theorem d_Net_goOnByBegin_61 : decode b_Net_goOnByBegin 61 = .ok (.invokevirtual 114, 3) := by decide +kernel
theorem d_Net_goOnByBegin_64 : decode b_Net_goOnByBegin 64 = .ok (.iinc 4 1, 3) := by decide +kernel
theorem d_Net_goOnByBegin_67 : decode b_Net_goOnByBegin 67 = .ok (.goto (-57), 3) := by decide +kernel
theorem d_Net_goOnByBegin_70 : decode b_Net_goOnByBegin 70 = .ok (.return_, 1) := by decide +kernel
theorem d_Net_goOnByEnd_0 : decode b_Net_goOnByEnd 0 = .ok (.iload_n 2, 1) := by decide +kernel
theorem d_Net_goOnByEnd_1 : decode b_Net_goOnByEnd 1 = .ok (.aload_n 1, 1) := by decide +kernel
theorem d_Net_goOnByEnd_2 : decode b_Net_goOnByEnd 2 = .ok (.getfield 92, 3) := by decide +kernel
theorem d_Net_goOnByEnd_5 : decode b_Net_goOnByEnd 5 = .ok (.iand, 1) := by decide +kernel
theorem d_Net_goOnByEnd_6 : decode b_Net_goOnByEnd 6 = .ok (.ifCond .ne 4, 3) := by decide +kernel
theorem d_Net_goOnByEnd_9 : decode b_Net_goOnByEnd 9 = .ok (.return_, 1) := by decide +kernel
theorem d_Net_goOnByEnd_10 : decode b_Net_goOnByEnd 10 = .ok (.iload_n 2, 1) := by decide +kernel
theorem d_Net_goOnByEnd_11 : decode b_Net_goOnByEnd 11 = .ok (.aload_n 1, 1) := by decide +kernel
theorem d_Net_goOnByEnd_12 : decode b_Net_goOnByEnd 12 = .ok (.getfield 89, 3) := by decide +kernel
theorem d_Net_goOnByEnd_15 : decode b_Net_goOnByEnd 15 = .ok (.aload_n 1, 1) := by decide +kernel
theorem d_Net_goOnByEnd_16 : decode b_Net_goOnByEnd 16 = .ok (.getfield 92, 3) := by decide +kernel
theorem d_Net_goOnByEnd_19 : decode b_Net_goOnByEnd 19 = .ok (.ior, 1) := by decide +kernel
theorem d_Net_goOnByEnd_20 : decode b_Net_goOnByEnd 20 = .ok (.iconst (-1), 1) := by decide +kernel
theorem d_Net_goOnByEnd_21 : decode b_Net_goOnByEnd 21 = .ok (.ixor, 1) := by decide +kernel
theorem d_Net_goOnByEnd_22 : decode b_Net_goOnByEnd 22 = .ok (.iand, 1) := by decide +kernel
theorem d_Net_goOnByEnd_23 : decode b_Net_goOnByEnd 23 = .ok (.istore_n 3, 1) := by decide +kernel
theorem d_Net_goOnByEnd_24 : decode b_Net_goOnByEnd 24 = .ok (.iconst 0, 1) := by decide +kernel
theorem d_Net_goOnByEnd_25 : decode b_Net_goOnByEnd 25 = .ok (.istore 4, 2) := by decide +kernel
theorem d_Net_goOnByEnd_27 : decode b_Net_goOnByEnd 27 = .ok (.iload 4, 2) := by decide +kernel
theorem d_Net_goOnByEnd_29 : decode b_Net_goOnByEnd 29 = .ok (.aload_n 1, 1) := by decide +kernel
theorem d_Net_goOnByEnd_30 : decode b_Net_goOnByEnd 30 = .ok (.getfield 95, 3) := by decide +kernel
theorem d_Net_goOnByEnd_33 : decode b_Net_goOnByEnd 33 = .ok (.if_icmp .ge 22, 3) := by decide +kernel
theorem d_Net_goOnByEnd_36 : decode b_Net_goOnByEnd 36 = .ok (.aload_n 0, 1) := by decide +kernel
theorem d_Net_goOnByEnd_37 : decode b_Net_goOnByEnd 37 = .ok (.iload_n 3, 1) := by decide +kernel
theorem d_Net_goOnByEnd_38 : decode b_Net_goOnByEnd 38 = .ok (.aload_n 1, 1) := by decide +kernel
theorem d_Net_goOnByEnd_39 : decode b_Net_goOnByEnd 39 = .ok (.getfield 98, 3) := by decide +kernel
theorem d_Net_goOnByEnd_42 : decode b_Net_goOnByEnd 42 = .ok (.iload 4, 2) := by decide +kernel
theorem d_Net_goOnByEnd_44 : decode b_Net_goOnByEnd 44 = .ok (.iaload, 1) := by decide +kernel
theorem d_Net_goOnByEnd_45 : decode b_Net_goOnByEnd 45 = .ok (.ior, 1) := by decide +kernel
theorem d_Net_goOnByEnd_46 : decode b_Net_goOnByEnd 46 = .ok (.invokevirtual 114, 3) := by decide +kernel
theorem d_Net_goOnByEnd_49 : decode b_Net_goOnByEnd 49 = .ok (.iinc 4 1, 3) := by decide +kernel
theorem d_Net_goOnByEnd_52 : decode b_Net_goOnByEnd 52 = .ok (.goto (-25), 3) := by decide +kernel
theorem d_Net_goOnByEnd_55 : decode b_Net_goOnByEnd 55 = .ok (.return_, 1) := by decide +kernel
theorem d_Net_reachFromStart_0 : decode b_Net_reachFromStart 0 = .ok (.aload_n 0, 1) := by decide +kernel
theorem d_Net_reachFromStart_1 : decode b_Net_reachFromStart 1 = .ok (.getfield 24, 3) := by decide +kernel
theorem d_Net_reachFromStart_4 : decode b_Net_reachFromStart 4 = .ok (.invokevirtual 69, 3) := by decide +kernel
theorem d_Net_reachFromStart_7 : decode b_Net_reachFromStart 7 = .ok (.aload_n 0, 1) := by decide +kernel
theorem d_Net_reachFromStart_8 : decode b_Net_reachFromStart 8 = .ok (.getfield 20, 3) := by decide +kernel
theorem d_Net_reachFromStart_11 : decode b_Net_reachFromStart 11 = .ok (.invokevirtual 69, 3) := by decide +kernel
theorem d_Net_reachFromStart_14 : decode b_Net_reachFromStart 14 = .ok (.aload_n 0, 1) := by decide +kernel
theorem d_Net_reachFromStart_15 : decode b_Net_reachFromStart 15 = .ok (.iconst 0, 1) := by decide +kernel
theorem d_Net_reachFromStart_16 : decode b_Net_reachFromStart 16 = .ok (.putfield 62, 3) := by decide +kernel
theorem d_Net_reachFromStart_19 : decode b_Net_reachFromStart 19 = .ok (.aload_n 0, 1) := by decide +kernel
theorem d_Net_reachFromStart_20 : decode b_Net_reachFromStart 20 = .ok (.iconst 1, 1) := by decide +kernel
theorem d_Net_reachFromStart_21 : decode b_Net_reachFromStart 21 = .ok (.putfield 59, 3) := by decide +kernel
theorem d_Net_reachFromStart_24 : decode b_Net_reachFromStart 24 = .ok (.aload_n 0, 1) := by decide +kernel
theorem d_Net_reachFromStart_25 : decode b_Net_reachFromStart 25 = .ok (.iconst 1, 1) := by decide +kernel
theorem d_Net_reachFromStart_26 : decode b_Net_reachFromStart 26 = .ok (.invokevirtual 114, 3) := by decide +kernel
theorem d_Net_reachFromStart_29 : decode b_Net_reachFromStart 29 = .ok (.sipush 16384, 3) := by decide +kernel
theorem d_Net_reachFromStart_32 : decode b_Net_reachFromStart 32 = .ok (.istore_n 1, 1) := by decide +kernel
theorem d_Net_reachFromStart_33 : decode b_Net_reachFromStart 33 = .ok (.iload_n 1, 1) := by decide +kernel
theorem d_Net_reachFromStart_34 : decode b_Net_reachFromStart 34 = .ok (.ifCond .le 82, 3) := by decide +kernel
theorem d_Net_reachFromStart_37 : decode b_Net_reachFromStart 37 = .ok (.aload_n 0, 1) := by decide +kernel
theorem d_Net_reachFromStart_38 : decode b_Net_reachFromStart 38 = .ok (.getfield 20, 3) := by decide +kernel
theorem d_Net_reachFromStart_41 : decode b_Net_reachFromStart 41 = .ok (.invokevirtual 79, 3) := by decide +kernel
theorem d_Net_reachFromStart_44 : decode b_Net_reachFromStart 44 = .ok (.istore_n 2, 1) := by decide +kernel
theorem d_Net_reachFromStart_45 : decode b_Net_reachFromStart 45 = .ok (.iload_n 2, 1) := by decide +kernel
theorem d_Net_reachFromStart_46 : decode b_Net_reachFromStart 46 = .ok (.iconst (-1), 1) := by decide +kernel
theorem d_Net_reachFromStart_47 : decode b_Net_reachFromStart 47 = .ok (.if_icmp .ne 4, 3) := by decide +kernel
theorem d_Net_reachFromStart_50 : decode b_Net_reachFromStart 50 = .ok (.return_, 1) := by decide +kernel
theorem d_Net_reachFromStart_51 : decode b_Net_reachFromStart 51 = .ok (.iload_n 2, 1) := by decide +kernel
theorem d_Net_reachFromStart_52 : decode b_Net_reachFromStart 52 = .ok (.iconst 2, 1) := by decide +kernel
theorem d_Net_reachFromStart_53 : decode b_Net_reachFromStart 53 = .ok (.iand, 1) := by decide +kernel
theorem d_Net_reachFromStart_54 : decode b_Net_reachFromStart 54 = .ok (.ifCond .eq 13, 3) := by decide +kernel
theorem d_Net_reachFromStart_57 : decode b_Net_reachFromStart 57 = .ok (.iload_n 2, 1) := by decide +kernel
theorem d_Net_reachFromStart_58 : decode b_Net_reachFromStart 58 = .ok (.iconst 2, 1) := by decide +kernel
theorem d_Net_reachFromStart_59 : decode b_Net_reachFromStart 59 = .ok (.if_icmp .eq 8, 3) := by decide +kernel
theorem d_Net_reachFromStart_62 : decode b_Net_reachFromStart 62 = .ok (.aload_n 0, 1) := by decide +kernel
theorem d_Net_reachFromStart_63 : decode b_Net_reachFromStart 63 = .ok (.iconst 0, 1) := by decide +kernel
theorem d_Net_reachFromStart_64 : decode b_Net_reachFromStart 64 = .ok (.putfield 59, 3) := by decide +kernel
theorem d_Net_reachFromStart_67 : decode b_Net_reachFromStart 67 = .ok (.iconst 0, 1) := by decide +kernel
theorem d_Net_reachFromStart_68 : decode b_Net_reachFromStart 68 = .ok (.istore_n 3, 1) := by decide +kernel
theorem d_Net_reachFromStart_69 : decode b_Net_reachFromStart 69 = .ok (.iload_n 3, 1) := by decide +kernel
theorem d_Net_reachFromStart_70 : decode b_Net_reachFromStart 70 = .ok (.bipush 6, 2) := by decide +kernel
theorem d_Net_reachFromStart_72 : decode b_Net_reachFromStart 72 = .ok (.if_icmp .ge 38, 3) := by decide +kernel
theorem d_Net_reachFromStart_75 : decode b_Net_reachFromStart 75 = .ok (.aload_n 0, 1) := by decide +kernel
theorem d_Net_reachFromStart_76 : decode b_Net_reachFromStart 76 = .ok (.getfield 11, 3) := by decide +kernel
theorem d_Net_reachFromStart_79 : decode b_Net_reachFromStart 79 = .ok (.iload_n 3, 1) := by decide +kernel
theorem d_Net_reachFromStart_80 : decode b_Net_reachFromStart 80 = .ok (.aaload, 1) := by decide +kernel
theorem d_Net_reachFromStart_81 : decode b_Net_reachFromStart 81 = .ok (.getfield 37, 3) := by decide +kernel
theorem d_Net_reachFromStart_84 : decode b_Net_reachFromStart 84 = .ok (.ifCond .eq 20, 3) := by decide +kernel
theorem d_Net_reachFromStart_87 : decode b_Net_reachFromStart 87 = .ok (.aload_n 0, 1) := by decide +kernel
theorem d_Net_reachFromStart_88 : decode b_Net_reachFromStart 88 = .ok (.iload_n 3, 1) := by decide +kernel
theorem d_Net_reachFromStart_89 : decode b_Net_reachFromStart 89 = .ok (.iload_n 2, 1) := by decide +kernel
theorem d_Net_reachFromStart_90 : decode b_Net_reachFromStart 90 = .ok (.invokevirtual 117, 3) := by decide +kernel
theorem d_Net_reachFromStart_93 : decode b_Net_reachFromStart 93 = .ok (.aload_n 0, 1) := by decide +kernel
theorem d_Net_reachFromStart_94 : decode b_Net_reachFromStart 94 = .ok (.aload_n 0, 1) := by decide +kernel
theorem d_Net_reachFromStart_95 : decode b_Net_reachFromStart 95 = .ok (.getfield 11, 3) := by decide +kernel
theorem d_Net_reachFromStart_98 : decode b_Net_reachFromStart 98 = .ok (.iload_n 3, 1) := by decide +kernel
theorem d_Net_reachFromStart_99 : decode b_Net_reachFromStart 99 = .ok (.aaload, 1) := by decide +kernel
theorem d_Net_reachFromStart_100 : decode b_Net_reachFromStart 100 = .ok (.iload_n 2, 1) := by decide +kernel
theorem d_Net_reachFromStart_101 : decode b_Net_reachFromStart 101 = .ok (.invokevirtual 121, 3) := by decide +kernel
theorem d_Net_reachFromStart_104 : decode b_Net_reachFromStart 104 = .ok (.iinc 3 1, 3) := by decide +kernel
theorem d_Net_reachFromStart_107 : decode b_Net_reachFromStart 107 = .ok (.goto (-38), 3) := by decide +kernel
theorem d_Net_reachFromStart_110 : decode b_Net_reachFromStart 110 = .ok (.iinc 1 (-1), 3) := by decide +kernel
theorem d_Net_reachFromStart_113 : decode b_Net_reachFromStart 113 = .ok (.goto (-80), 3) := by decide +kernel
theorem d_Net_reachFromStart_116 : decode b_Net_reachFromStart 116 = .ok (.return_, 1) := by decide +kernel
theorem d_MS_isWithin_0 : decode b_MS_isWithin 0 = .ok (.iconst 0, 1) := by decide +kernel
theorem d_MS_isWithin_1 : decode b_MS_isWithin 1 = .ok (.istore_n 2, 1) := by decide +kernel
theorem d_MS_isWithin_2 : decode b_MS_isWithin 2 = .ok (.iload_n 2, 1) := by decide +kernel
theorem d_MS_isWithin_3 : decode b_MS_isWithin 3 = .ok (.sipush 256, 3) := by decide +kernel
theorem d_MS_isWithin_6 : decode b_MS_isWithin 6 = .ok (.if_icmp .ge 33, 3) := by decide +kernel
theorem d_MS_isWithin_9 : decode b_MS_isWithin 9 = .ok (.aload_n 0, 1) := by decide +kernel
theorem d_MS_isWithin_10 : decode b_MS_isWithin 10 = .ok (.getfield 11, 3) := by decide +kernel
theorem d_MS_isWithin_13 : decode b_MS_isWithin 13 = .ok (.iload_n 2, 1) := by decide +kernel
theorem d_MS_isWithin_14 : decode b_MS_isWithin 14 = .ok (.laload, 1) := by decide +kernel
theorem d_MS_isWithin_15 : decode b_MS_isWithin 15 = .ok (.aload_n 1, 1) := by decide +kernel
theorem d_MS_isWithin_16 : decode b_MS_isWithin 16 = .ok (.getfield 11, 3) := by decide +kernel
theorem d_MS_isWithin_19 : decode b_MS_isWithin 19 = .ok (.iload_n 2, 1) := by decide +kernel
theorem d_MS_isWithin_20 : decode b_MS_isWithin 20 = .ok (.laload, 1) := by decide +kernel
theorem d_MS_isWithin_21 : decode b_MS_isWithin 21 = .ok (.ldc2_w 25, 3) := by decide +kernel
theorem d_MS_isWithin_24 : decode b_MS_isWithin 24 = .ok (.lxor, 1) := by decide +kernel
theorem d_MS_isWithin_25 : decode b_MS_isWithin 25 = .ok (.land, 1) := by decide +kernel
theorem d_MS_isWithin_26 : decode b_MS_isWithin 26 = .ok (.lconst 0, 1) := by decide +kernel
theorem d_MS_isWithin_27 : decode b_MS_isWithin 27 = .ok (.lcmp, 1) := by decide +kernel
theorem d_MS_isWithin_28 : decode b_MS_isWithin 28 = .ok (.ifCond .eq 5, 3) := by decide +kernel
theorem d_MS_isWithin_31 : decode b_MS_isWithin 31 = .ok (.iconst 0, 1) := by decide +kernel
theorem d_MS_isWithin_32 : decode b_MS_isWithin 32 = .ok (.ireturn, 1) := by decide +kernel
theorem d_MS_isWithin_33 : decode b_MS_isWithin 33 = .ok (.iinc 2 1, 3) := by decide +kernel
theorem d_MS_isWithin_36 : decode b_MS_isWithin 36 = .ok (.goto (-34), 3) := by decide +kernel
theorem d_MS_isWithin_39 : decode b_MS_isWithin 39 = .ok (.iconst 1, 1) := by decide +kernel
theorem d_MS_isWithin_40 : decode b_MS_isWithin 40 = .ok (.ireturn, 1) := by decide +kernel
theorem d_Net_judge_0 : decode b_Net_judge 0 = .ok (.aload_n 0, 1) := by decide +kernel
theorem d_Net_judge_1 : decode b_Net_judge 1 = .ok (.invokevirtual 41, 3) := by decide +kernel
theorem d_Net_judge_4 : decode b_Net_judge 4 = .ok (.ifCond .eq 10, 3) := by decide +kernel
theorem d_Net_judge_7 : decode b_Net_judge 7 = .ok (.aload_n 0, 1) := by decide +kernel
theorem d_Net_judge_8 : decode b_Net_judge 8 = .ok (.invokevirtual 45, 3) := by decide +kernel
theorem d_Net_judge_11 : decode b_Net_judge 11 = .ok (.ifCond .eq 5, 3) := by decide +kernel
theorem d_Net_judge_14 : decode b_Net_judge 14 = .ok (.iconst (-1), 1) := by decide +kernel
theorem d_Net_judge_15 : decode b_Net_judge 15 = .ok (.ireturn, 1) := by decide +kernel
theorem d_Net_judge_16 : decode b_Net_judge 16 = .ok (.aload_n 0, 1) := by decide +kernel
theorem d_Net_judge_17 : decode b_Net_judge 17 = .ok (.invokevirtual 49, 3) := by decide +kernel
theorem d_Net_judge_20 : decode b_Net_judge 20 = .ok (.aload_n 0, 1) := by decide +kernel
theorem d_Net_judge_21 : decode b_Net_judge 21 = .ok (.iconst 2, 1) := by decide +kernel
theorem d_Net_judge_22 : decode b_Net_judge 22 = .ok (.iconst 0, 1) := by decide +kernel
theorem d_Net_judge_23 : decode b_Net_judge 23 = .ok (.iconst (-1), 1) := by decide +kernel
theorem d_Net_judge_24 : decode b_Net_judge 24 = .ok (.invokevirtual 52, 3) := by decide +kernel
theorem d_Net_judge_27 : decode b_Net_judge 27 = .ok (.pop, 1) := by decide +kernel
theorem d_Net_judge_28 : decode b_Net_judge 28 = .ok (.aload_n 0, 1) := by decide +kernel
theorem d_Net_judge_29 : decode b_Net_judge 29 = .ok (.getfield 24, 3) := by decide +kernel
theorem d_Net_judge_32 : decode b_Net_judge 32 = .ok (.aload_n 0, 1) := by decide +kernel
theorem d_Net_judge_33 : decode b_Net_judge 33 = .ok (.getfield 27, 3) := by decide +kernel
theorem d_Net_judge_36 : decode b_Net_judge 36 = .ok (.invokevirtual 55, 3) := by decide +kernel
theorem d_Net_judge_39 : decode b_Net_judge 39 = .ok (.ifCond .eq 7, 3) := by decide +kernel
theorem d_Net_judge_42 : decode b_Net_judge 42 = .ok (.iconst 1, 1) := by decide +kernel
theorem d_Net_judge_43 : decode b_Net_judge 43 = .ok (.goto 4, 3) := by decide +kernel
theorem d_Net_judge_46 : decode b_Net_judge 46 = .ok (.iconst 0, 1) := by decide +kernel
theorem d_Net_judge_47 : decode b_Net_judge 47 = .ok (.istore_n 1, 1) := by decide +kernel
theorem d_Net_judge_48 : decode b_Net_judge 48 = .ok (.iload_n 1, 1) := by decide +kernel
theorem d_Net_judge_49 : decode b_Net_judge 49 = .ok (.aload_n 0, 1) := by decide +kernel
theorem d_Net_judge_50 : decode b_Net_judge 50 = .ok (.getfield 59, 3) := by decide +kernel
theorem d_Net_judge_53 : decode b_Net_judge 53 = .ok (.ifCond .eq 7, 3) := by decide +kernel
theorem d_Net_judge_56 : decode b_Net_judge 56 = .ok (.iconst 2, 1) := by decide +kernel
theorem d_Net_judge_57 : decode b_Net_judge 57 = .ok (.goto 4, 3) := by decide +kernel
theorem d_Net_judge_60 : decode b_Net_judge 60 = .ok (.iconst 0, 1) := by decide +kernel
theorem d_Net_judge_61 : decode b_Net_judge 61 = .ok (.ior, 1) := by decide +kernel
theorem d_Net_judge_62 : decode b_Net_judge 62 = .ok (.istore_n 1, 1) := by decide +kernel
theorem d_Net_judge_63 : decode b_Net_judge 63 = .ok (.iload_n 1, 1) := by decide +kernel
theorem d_Net_judge_64 : decode b_Net_judge 64 = .ok (.aload_n 0, 1) := by decide +kernel
theorem d_Net_judge_65 : decode b_Net_judge 65 = .ok (.getfield 62, 3) := by decide +kernel
theorem d_Net_judge_68 : decode b_Net_judge 68 = .ok (.aload_n 0, 1) := by decide +kernel
theorem d_Net_judge_69 : decode b_Net_judge 69 = .ok (.invokevirtual 41, 3) := by decide +kernel
theorem d_Net_judge_72 : decode b_Net_judge 72 = .ok (.if_icmp .ne 7, 3) := by decide +kernel
theorem d_Net_judge_75 : decode b_Net_judge 75 = .ok (.iconst 4, 1) := by decide +kernel
theorem d_Net_judge_76 : decode b_Net_judge 76 = .ok (.goto 4, 3) := by decide +kernel
theorem d_Net_judge_79 : decode b_Net_judge 79 = .ok (.iconst 0, 1) := by decide +kernel
theorem d_Net_judge_80 : decode b_Net_judge 80 = .ok (.ior, 1) := by decide +kernel
theorem d_Net_judge_81 : decode b_Net_judge 81 = .ok (.istore_n 1, 1) := by decide +kernel
theorem d_Net_judge_82 : decode b_Net_judge 82 = .ok (.iload_n 1, 1) := by decide +kernel
theorem d_Net_judge_83 : decode b_Net_judge 83 = .ok (.ireturn, 1) := by decide +kernel
theorem d_CN_verdict_0 : decode b_CN_verdict 0 = .ok (.aload_n 0, 1) := by decide +kernel
theorem d_CN_verdict_1 : decode b_CN_verdict 1 = .ok (.getfield 12, 3) := by decide +kernel
theorem d_CN_verdict_4 : decode b_CN_verdict 4 = .ok (.invokevirtual 153, 3) := by decide +kernel
theorem d_CN_verdict_7 : decode b_CN_verdict 7 = .ok (.ireturn, 1) := by decide +kernel
theorem d_Md_isTask_0 : decode b_Md_isTask 0 = .ok (.iload_n 0, 1) := by decide +kernel
theorem d_Md_isTask_1 : decode b_Md_isTask 1 = .ok (.ifCond .lt 12, 3) := by decide +kernel
theorem d_Md_isTask_4 : decode b_Md_isTask 4 = .ok (.iload_n 0, 1) := by decide +kernel
theorem d_Md_isTask_5 : decode b_Md_isTask 5 = .ok (.iconst 5, 1) := by decide +kernel
theorem d_Md_isTask_6 : decode b_Md_isTask 6 = .ok (.if_icmp .gt 7, 3) := by decide +kernel
theorem d_Md_isTask_9 : decode b_Md_isTask 9 = .ok (.iconst 1, 1) := by decide +kernel
theorem d_Md_isTask_10 : decode b_Md_isTask 10 = .ok (.goto 4, 3) := by decide +kernel
theorem d_Md_isTask_13 : decode b_Md_isTask 13 = .ok (.iconst 0, 1) := by decide +kernel
theorem d_Md_isTask_14 : decode b_Md_isTask 14 = .ok (.ireturn, 1) := by decide +kernel
theorem d_Md_isDefined_0 : decode b_Md_isDefined 0 = .ok (.iload_n 1, 1) := by decide +kernel
theorem d_Md_isDefined_1 : decode b_Md_isDefined 1 = .ok (.invokestatic 81, 3) := by decide +kernel
theorem d_Md_isDefined_4 : decode b_Md_isDefined 4 = .ok (.ifCond .eq 16, 3) := by decide +kernel
theorem d_Md_isDefined_7 : decode b_Md_isDefined 7 = .ok (.aload_n 0, 1) := by decide +kernel
theorem d_Md_isDefined_8 : decode b_Md_isDefined 8 = .ok (.getfield 7, 3) := by decide +kernel
theorem d_Md_isDefined_11 : decode b_Md_isDefined 11 = .ok (.iload_n 1, 1) := by decide +kernel
theorem d_Md_isDefined_12 : decode b_Md_isDefined 12 = .ok (.baload, 1) := by decide +kernel
theorem d_Md_isDefined_13 : decode b_Md_isDefined 13 = .ok (.ifCond .eq 7, 3) := by decide +kernel
theorem d_Md_isDefined_16 : decode b_Md_isDefined 16 = .ok (.iconst 1, 1) := by decide +kernel
theorem d_Md_isDefined_17 : decode b_Md_isDefined 17 = .ok (.goto 4, 3) := by decide +kernel
theorem d_Md_isDefined_20 : decode b_Md_isDefined 20 = .ok (.iconst 0, 1) := by decide +kernel
theorem d_Md_isDefined_21 : decode b_Md_isDefined 21 = .ok (.ireturn, 1) := by decide +kernel
theorem d_Md_isPlaces_0 : decode b_Md_isPlaces 0 = .ok (.iload_n 0, 1) := by decide +kernel
theorem d_Md_isPlaces_1 : decode b_Md_isPlaces 1 = .ok (.ifCond .lt 14, 3) := by decide +kernel
theorem d_Md_isPlaces_4 : decode b_Md_isPlaces 4 = .ok (.iload_n 0, 1) := by decide +kernel
theorem d_Md_isPlaces_5 : decode b_Md_isPlaces 5 = .ok (.sipush 16384, 3) := by decide +kernel
theorem d_Md_isPlaces_8 : decode b_Md_isPlaces 8 = .ok (.if_icmp .ge 7, 3) := by decide +kernel
theorem d_Md_isPlaces_11 : decode b_Md_isPlaces 11 = .ok (.iconst 1, 1) := by decide +kernel
theorem d_Md_isPlaces_12 : decode b_Md_isPlaces 12 = .ok (.goto 4, 3) := by decide +kernel
theorem d_Md_isPlaces_15 : decode b_Md_isPlaces 15 = .ok (.iconst 0, 1) := by decide +kernel
theorem d_Md_isPlaces_16 : decode b_Md_isPlaces 16 = .ok (.ireturn, 1) := by decide +kernel
theorem d_Md_count_0 : decode b_Md_count 0 = .ok (.iconst 0, 1) := by decide +kernel
theorem d_Md_count_1 : decode b_Md_count 1 = .ok (.istore_n 1, 1) := by decide +kernel
theorem d_Md_count_2 : decode b_Md_count 2 = .ok (.iconst 0, 1) := by decide +kernel
theorem d_Md_count_3 : decode b_Md_count 3 = .ok (.istore_n 2, 1) := by decide +kernel
theorem d_Md_count_4 : decode b_Md_count 4 = .ok (.iload_n 2, 1) := by decide +kernel
theorem d_Md_count_5 : decode b_Md_count 5 = .ok (.bipush 14, 2) := by decide +kernel
theorem d_Md_count_7 : decode b_Md_count 7 = .ok (.if_icmp .ge 17, 3) := by decide +kernel
theorem d_Md_count_10 : decode b_Md_count 10 = .ok (.iload_n 1, 1) := by decide +kernel
theorem d_Md_count_11 : decode b_Md_count 11 = .ok (.iload_n 0, 1) := by decide +kernel
theorem d_Md_count_12 : decode b_Md_count 12 = .ok (.iload_n 2, 1) := by decide +kernel
theorem d_Md_count_13 : decode b_Md_count 13 = .ok (.ishr, 1) := by decide +kernel
theorem d_Md_count_14 : decode b_Md_count 14 = .ok (.iconst 1, 1) := by decide +kernel
theorem d_Md_count_15 : decode b_Md_count 15 = .ok (.iand, 1) := by decide +kernel
theorem d_Md_count_16 : decode b_Md_count 16 = .ok (.iadd, 1) := by decide +kernel
theorem d_Md_count_17 : decode b_Md_count 17 = .ok (.istore_n 1, 1) := by decide +kernel
theorem d_Md_count_18 : decode b_Md_count 18 = .ok (.iinc 2 1, 3) := by decide +kernel
theorem d_Md_count_21 : decode b_Md_count 21 = .ok (.goto (-17), 3) := by decide +kernel
theorem d_Md_count_24 : decode b_Md_count 24 = .ok (.iload_n 1, 1) := by decide +kernel
theorem d_Md_count_25 : decode b_Md_count 25 = .ok (.ireturn, 1) := by decide +kernel
theorem d_Md_runs_0 : decode b_Md_runs 0 = .ok (.aload_n 0, 1) := by decide +kernel
theorem d_Md_runs_1 : decode b_Md_runs 1 = .ok (.getfield 85, 3) := by decide +kernel
theorem d_Md_runs_4 : decode b_Md_runs 4 = .ok (.bipush 8, 2) := by decide +kernel
theorem d_Md_runs_6 : decode b_Md_runs 6 = .ok (.iload_n 1, 1) := by decide +kernel
theorem d_Md_runs_7 : decode b_Md_runs 7 = .ok (.iadd, 1) := by decide +kernel
theorem d_Md_runs_8 : decode b_Md_runs 8 = .ok (.ishr, 1) := by decide +kernel
theorem d_Md_runs_9 : decode b_Md_runs 9 = .ok (.iconst 1, 1) := by decide +kernel
theorem d_Md_runs_10 : decode b_Md_runs 10 = .ok (.iand, 1) := by decide +kernel
theorem d_Md_runs_11 : decode b_Md_runs 11 = .ok (.iconst 1, 1) := by decide +kernel
theorem d_Md_runs_12 : decode b_Md_runs 12 = .ok (.if_icmp .ne 7, 3) := by decide +kernel
theorem d_Md_runs_15 : decode b_Md_runs 15 = .ok (.iconst 1, 1) := by decide +kernel
theorem d_Md_runs_16 : decode b_Md_runs 16 = .ok (.goto 4, 3) := by decide +kernel
theorem d_Md_runs_19 : decode b_Md_runs 19 = .ok (.iconst 0, 1) := by decide +kernel
theorem d_Md_runs_20 : decode b_Md_runs 20 = .ok (.ireturn, 1) := by decide +kernel
end
section
theorem d_Md_task_0 : decode b_Md_task 0 = .ok (.aload_n 0, 1) := by decide +kernel
theorem d_Md_task_1 : decode b_Md_task 1 = .ok (.getfield 89, 3) := by decide +kernel
theorem d_Md_task_4 : decode b_Md_task 4 = .ok (.ifCond .ne 28, 3) := by decide +kernel
theorem d_Md_task_7 : decode b_Md_task 7 = .ok (.iload_n 1, 1) := by decide +kernel
theorem d_Md_task_8 : decode b_Md_task 8 = .ok (.invokestatic 81, 3) := by decide +kernel
theorem d_Md_task_11 : decode b_Md_task 11 = .ok (.ifCond .eq 21, 3) := by decide +kernel
theorem d_Md_task_14 : decode b_Md_task 14 = .ok (.iload_n 2, 1) := by decide +kernel
theorem d_Md_task_15 : decode b_Md_task 15 = .ok (.ifCond .lt 17, 3) := by decide +kernel
theorem d_Md_task_18 : decode b_Md_task 18 = .ok (.iload_n 2, 1) := by decide +kernel
theorem d_Md_task_19 : decode b_Md_task 19 = .ok (.iconst 2, 1) := by decide +kernel
theorem d_Md_task_20 : decode b_Md_task 20 = .ok (.if_icmp .gt 12, 3) := by decide +kernel
theorem d_Md_task_23 : decode b_Md_task 23 = .ok (.iload_n 3, 1) := by decide +kernel
theorem d_Md_task_24 : decode b_Md_task 24 = .ok (.ifCond .lt 8, 3) := by decide +kernel
theorem d_Md_task_27 : decode b_Md_task 27 = .ok (.iload_n 3, 1) := by decide +kernel
theorem d_Md_task_28 : decode b_Md_task 28 = .ok (.iconst 2, 1) := by decide +kernel
theorem d_Md_task_29 : decode b_Md_task 29 = .ok (.if_icmp .le 5, 3) := by decide +kernel
theorem d_Md_task_32 : decode b_Md_task 32 = .ok (.iconst 0, 1) := by decide +kernel
theorem d_Md_task_33 : decode b_Md_task 33 = .ok (.ireturn, 1) := by decide +kernel
theorem d_Md_task_34 : decode b_Md_task 34 = .ok (.iload 4, 2) := by decide +kernel
theorem d_Md_task_36 : decode b_Md_task 36 = .ok (.iconst 1, 1) := by decide +kernel
theorem d_Md_task_37 : decode b_Md_task 37 = .ok (.if_icmp .lt 43, 3) := by decide +kernel
theorem d_Md_task_40 : decode b_Md_task 40 = .ok (.iload 4, 2) := by decide +kernel
theorem d_Md_task_42 : decode b_Md_task 42 = .ok (.sipush 255, 3) := by decide +kernel
theorem d_Md_task_45 : decode b_Md_task 45 = .ok (.if_icmp .gt 35, 3) := by decide +kernel
theorem d_Md_task_48 : decode b_Md_task 48 = .ok (.iload 5, 2) := by decide +kernel
theorem d_Md_task_50 : decode b_Md_task 50 = .ok (.iconst 1, 1) := by decide +kernel
theorem d_Md_task_51 : decode b_Md_task 51 = .ok (.if_icmp .lt 29, 3) := by decide +kernel
theorem d_Md_task_54 : decode b_Md_task 54 = .ok (.iload 5, 2) := by decide +kernel
theorem d_Md_task_56 : decode b_Md_task 56 = .ok (.sipush 255, 3) := by decide +kernel
theorem d_Md_task_59 : decode b_Md_task 59 = .ok (.if_icmp .gt 21, 3) := by decide +kernel
theorem d_Md_task_62 : decode b_Md_task 62 = .ok (.iload 4, 2) := by decide +kernel
theorem d_Md_task_64 : decode b_Md_task 64 = .ok (.invokestatic 93, 3) := by decide +kernel
theorem d_Md_task_67 : decode b_Md_task 67 = .ok (.iconst 3, 1) := by decide +kernel
theorem d_Md_task_68 : decode b_Md_task 68 = .ok (.if_icmp .gt 12, 3) := by decide +kernel
theorem d_Md_task_71 : decode b_Md_task 71 = .ok (.iload 5, 2) := by decide +kernel
theorem d_Md_task_73 : decode b_Md_task 73 = .ok (.invokestatic 93, 3) := by decide +kernel
theorem d_Md_task_76 : decode b_Md_task 76 = .ok (.iconst 3, 1) := by decide +kernel
theorem d_Md_task_77 : decode b_Md_task 77 = .ok (.if_icmp .le 5, 3) := by decide +kernel
theorem d_Md_task_80 : decode b_Md_task 80 = .ok (.iconst 0, 1) := by decide +kernel
theorem d_Md_task_81 : decode b_Md_task 81 = .ok (.ireturn, 1) := by decide +kernel
theorem d_Md_task_82 : decode b_Md_task 82 = .ok (.aload_n 0, 1) := by decide +kernel
theorem d_Md_task_83 : decode b_Md_task 83 = .ok (.getfield 7, 3) := by decide +kernel
theorem d_Md_task_86 : decode b_Md_task 86 = .ok (.iload_n 1, 1) := by decide +kernel
theorem d_Md_task_87 : decode b_Md_task 87 = .ok (.iconst 1, 1) := by decide +kernel
theorem d_Md_task_88 : decode b_Md_task 88 = .ok (.bastore, 1) := by decide +kernel
theorem d_Md_task_89 : decode b_Md_task 89 = .ok (.aload_n 0, 1) := by decide +kernel
theorem d_Md_task_90 : decode b_Md_task 90 = .ok (.getfield 13, 3) := by decide +kernel
theorem d_Md_task_93 : decode b_Md_task 93 = .ok (.iload_n 1, 1) := by decide +kernel
theorem d_Md_task_94 : decode b_Md_task 94 = .ok (.iload_n 2, 1) := by decide +kernel
theorem d_Md_task_95 : decode b_Md_task 95 = .ok (.iastore, 1) := by decide +kernel
theorem d_Md_task_96 : decode b_Md_task 96 = .ok (.aload_n 0, 1) := by decide +kernel
theorem d_Md_task_97 : decode b_Md_task 97 = .ok (.getfield 17, 3) := by decide +kernel
theorem d_Md_task_100 : decode b_Md_task 100 = .ok (.iload_n 1, 1) := by decide +kernel
theorem d_Md_task_101 : decode b_Md_task 101 = .ok (.iload_n 3, 1) := by decide +kernel
theorem d_Md_task_102 : decode b_Md_task 102 = .ok (.iastore, 1) := by decide +kernel
theorem d_Md_task_103 : decode b_Md_task 103 = .ok (.aload_n 0, 1) := by decide +kernel
theorem d_Md_task_104 : decode b_Md_task 104 = .ok (.getfield 20, 3) := by decide +kernel
theorem d_Md_task_107 : decode b_Md_task 107 = .ok (.iload_n 1, 1) := by decide +kernel
theorem d_Md_task_108 : decode b_Md_task 108 = .ok (.iload 4, 2) := by decide +kernel
theorem d_Md_task_110 : decode b_Md_task 110 = .ok (.iastore, 1) := by decide +kernel
theorem d_Md_task_111 : decode b_Md_task 111 = .ok (.aload_n 0, 1) := by decide +kernel
theorem d_Md_task_112 : decode b_Md_task 112 = .ok (.getfield 23, 3) := by decide +kernel
theorem d_Md_task_115 : decode b_Md_task 115 = .ok (.iload_n 1, 1) := by decide +kernel
theorem d_Md_task_116 : decode b_Md_task 116 = .ok (.iload 5, 2) := by decide +kernel
theorem d_Md_task_118 : decode b_Md_task 118 = .ok (.iastore, 1) := by decide +kernel
theorem d_Md_task_119 : decode b_Md_task 119 = .ok (.iconst 0, 1) := by decide +kernel
theorem d_Md_task_120 : decode b_Md_task 120 = .ok (.istore 6, 2) := by decide +kernel
theorem d_Md_task_122 : decode b_Md_task 122 = .ok (.iconst 0, 1) := by decide +kernel
theorem d_Md_task_123 : decode b_Md_task 123 = .ok (.istore 7, 2) := by decide +kernel
theorem d_Md_task_125 : decode b_Md_task 125 = .ok (.iconst 0, 1) := by decide +kernel
theorem d_Md_task_126 : decode b_Md_task 126 = .ok (.istore 8, 2) := by decide +kernel
theorem d_Md_task_128 : decode b_Md_task 128 = .ok (.iload 8, 2) := by decide +kernel
theorem d_Md_task_130 : decode b_Md_task 130 = .ok (.iconst 3, 1) := by decide +kernel
theorem d_Md_task_131 : decode b_Md_task 131 = .ok (.if_icmp .ge 33, 3) := by decide +kernel
theorem d_Md_task_134 : decode b_Md_task 134 = .ok (.aload_n 0, 1) := by decide +kernel
theorem d_Md_task_135 : decode b_Md_task 135 = .ok (.getfield 26, 3) := by decide +kernel
theorem d_Md_task_138 : decode b_Md_task 138 = .ok (.iconst 3, 1) := by decide +kernel
theorem d_Md_task_139 : decode b_Md_task 139 = .ok (.iload_n 1, 1) := by decide +kernel
theorem d_Md_task_140 : decode b_Md_task 140 = .ok (.imul, 1) := by decide +kernel
theorem d_Md_task_141 : decode b_Md_task 141 = .ok (.iload 8, 2) := by decide +kernel
theorem d_Md_task_143 : decode b_Md_task 143 = .ok (.iadd, 1) := by decide +kernel
theorem d_Md_task_144 : decode b_Md_task 144 = .ok (.iconst 0, 1) := by decide +kernel
theorem d_Md_task_145 : decode b_Md_task 145 = .ok (.iastore, 1) := by decide +kernel
theorem d_Md_task_146 : decode b_Md_task 146 = .ok (.aload_n 0, 1) := by decide +kernel
theorem d_Md_task_147 : decode b_Md_task 147 = .ok (.getfield 29, 3) := by decide +kernel
theorem d_Md_task_150 : decode b_Md_task 150 = .ok (.iconst 3, 1) := by decide +kernel
theorem d_Md_task_151 : decode b_Md_task 151 = .ok (.iload_n 1, 1) := by decide +kernel
theorem d_Md_task_152 : decode b_Md_task 152 = .ok (.imul, 1) := by decide +kernel
theorem d_Md_task_153 : decode b_Md_task 153 = .ok (.iload 8, 2) := by decide +kernel
theorem d_Md_task_155 : decode b_Md_task 155 = .ok (.iadd, 1) := by decide +kernel
theorem d_Md_task_156 : decode b_Md_task 156 = .ok (.iconst 0, 1) := by decide +kernel
theorem d_Md_task_157 : decode b_Md_task 157 = .ok (.iastore, 1) := by decide +kernel
theorem d_Md_task_158 : decode b_Md_task 158 = .ok (.iinc 8 1, 3) := by decide +kernel
theorem d_Md_task_161 : decode b_Md_task 161 = .ok (.goto (-33), 3) := by decide +kernel
theorem d_Md_task_164 : decode b_Md_task 164 = .ok (.iconst 0, 1) := by decide +kernel
theorem d_Md_task_165 : decode b_Md_task 165 = .ok (.istore 8, 2) := by decide +kernel
theorem d_Md_task_167 : decode b_Md_task 167 = .ok (.iload 8, 2) := by decide +kernel
theorem d_Md_task_169 : decode b_Md_task 169 = .ok (.bipush 8, 2) := by decide +kernel
theorem d_Md_task_171 : decode b_Md_task 171 = .ok (.if_icmp .ge 108, 3) := by decide +kernel
theorem d_Md_task_174 : decode b_Md_task 174 = .ok (.iload 4, 2) := by decide +kernel
theorem d_Md_task_176 : decode b_Md_task 176 = .ok (.iload 8, 2) := by decide +kernel
theorem d_Md_task_178 : decode b_Md_task 178 = .ok (.ishr, 1) := by decide +kernel
theorem d_Md_task_179 : decode b_Md_task 179 = .ok (.iconst 1, 1) := by decide +kernel
theorem d_Md_task_180 : decode b_Md_task 180 = .ok (.iand, 1) := by decide +kernel
theorem d_Md_task_181 : decode b_Md_task 181 = .ok (.iconst 1, 1) := by decide +kernel
theorem d_Md_task_182 : decode b_Md_task 182 = .ok (.if_icmp .ne 21, 3) := by decide +kernel
theorem d_Md_task_185 : decode b_Md_task 185 = .ok (.aload_n 0, 1) := by decide +kernel
theorem d_Md_task_186 : decode b_Md_task 186 = .ok (.getfield 26, 3) := by decide +kernel
theorem d_Md_task_189 : decode b_Md_task 189 = .ok (.iconst 3, 1) := by decide +kernel
theorem d_Md_task_190 : decode b_Md_task 190 = .ok (.iload_n 1, 1) := by decide +kernel
theorem d_Md_task_191 : decode b_Md_task 191 = .ok (.imul, 1) := by decide +kernel
theorem d_Md_task_192 : decode b_Md_task 192 = .ok (.iload 6, 2) := by decide +kernel
theorem d_Md_task_194 : decode b_Md_task 194 = .ok (.iadd, 1) := by decide +kernel
theorem d_Md_task_195 : decode b_Md_task 195 = .ok (.iconst 1, 1) := by decide +kernel
theorem d_Md_task_196 : decode b_Md_task 196 = .ok (.iload 8, 2) := by decide +kernel
theorem d_Md_task_198 : decode b_Md_task 198 = .ok (.ishl, 1) := by decide +kernel
theorem d_Md_task_199 : decode b_Md_task 199 = .ok (.iastore, 1) := by decide +kernel
theorem d_Md_task_200 : decode b_Md_task 200 = .ok (.iinc 6 1, 3) := by decide +kernel
theorem d_Md_task_203 : decode b_Md_task 203 = .ok (.iload 5, 2) := by decide +kernel
theorem d_Md_task_205 : decode b_Md_task 205 = .ok (.iload 8, 2) := by decide +kernel
theorem d_Md_task_207 : decode b_Md_task 207 = .ok (.ishr, 1) := by decide +kernel
theorem d_Md_task_208 : decode b_Md_task 208 = .ok (.iconst 1, 1) := by decide +kernel
theorem d_Md_task_209 : decode b_Md_task 209 = .ok (.iand, 1) := by decide +kernel
theorem d_Md_task_210 : decode b_Md_task 210 = .ok (.iconst 1, 1) := by decide +kernel
theorem d_Md_task_211 : decode b_Md_task 211 = .ok (.if_icmp .ne 21, 3) := by decide +kernel
theorem d_Md_task_214 : decode b_Md_task 214 = .ok (.aload_n 0, 1) := by decide +kernel
theorem d_Md_task_215 : decode b_Md_task 215 = .ok (.getfield 29, 3) := by decide +kernel
theorem d_Md_task_218 : decode b_Md_task 218 = .ok (.iconst 3, 1) := by decide +kernel
theorem d_Md_task_219 : decode b_Md_task 219 = .ok (.iload_n 1, 1) := by decide +kernel
theorem d_Md_task_220 : decode b_Md_task 220 = .ok (.imul, 1) := by decide +kernel
theorem d_Md_task_221 : decode b_Md_task 221 = .ok (.iload 7, 2) := by decide +kernel
theorem d_Md_task_223 : decode b_Md_task 223 = .ok (.iadd, 1) := by decide +kernel
theorem d_Md_task_224 : decode b_Md_task 224 = .ok (.iconst 1, 1) := by decide +kernel
theorem d_Md_task_225 : decode b_Md_task 225 = .ok (.iload 8, 2) := by decide +kernel
theorem d_Md_task_227 : decode b_Md_task 227 = .ok (.ishl, 1) := by decide +kernel
theorem d_Md_task_228 : decode b_Md_task 228 = .ok (.iastore, 1) := by decide +kernel
theorem d_Md_task_229 : decode b_Md_task 229 = .ok (.iinc 7 1, 3) := by decide +kernel
theorem d_Md_task_232 : decode b_Md_task 232 = .ok (.aload_n 0, 1) := by decide +kernel
theorem d_Md_task_233 : decode b_Md_task 233 = .ok (.getfield 35, 3) := by decide +kernel
theorem d_Md_task_236 : decode b_Md_task 236 = .ok (.bipush 8, 2) := by decide +kernel
theorem d_Md_task_238 : decode b_Md_task 238 = .ok (.iload_n 1, 1) := by decide +kernel
theorem d_Md_task_239 : decode b_Md_task 239 = .ok (.imul, 1) := by decide +kernel
theorem d_Md_task_240 : decode b_Md_task 240 = .ok (.iload 8, 2) := by decide +kernel
theorem d_Md_task_242 : decode b_Md_task 242 = .ok (.iadd, 1) := by decide +kernel
theorem d_Md_task_243 : decode b_Md_task 243 = .ok (.iconst 0, 1) := by decide +kernel
theorem d_Md_task_244 : decode b_Md_task 244 = .ok (.iastore, 1) := by decide +kernel
theorem d_Md_task_245 : decode b_Md_task 245 = .ok (.aload_n 0, 1) := by decide +kernel
theorem d_Md_task_246 : decode b_Md_task 246 = .ok (.getfield 38, 3) := by decide +kernel
theorem d_Md_task_249 : decode b_Md_task 249 = .ok (.bipush 8, 2) := by decide +kernel
theorem d_Md_task_251 : decode b_Md_task 251 = .ok (.iload_n 1, 1) := by decide +kernel
theorem d_Md_task_252 : decode b_Md_task 252 = .ok (.imul, 1) := by decide +kernel
theorem d_Md_task_253 : decode b_Md_task 253 = .ok (.iload 8, 2) := by decide +kernel
theorem d_Md_task_255 : decode b_Md_task 255 = .ok (.iadd, 1) := by decide +kernel
theorem d_Md_task_256 : decode b_Md_task 256 = .ok (.ldc 97, 2) := by decide +kernel
theorem d_Md_task_258 : decode b_Md_task 258 = .ok (.iastore, 1) := by decide +kernel
theorem d_Md_task_259 : decode b_Md_task 259 = .ok (.aload_n 0, 1) := by decide +kernel
theorem d_Md_task_260 : decode b_Md_task 260 = .ok (.getfield 41, 3) := by decide +kernel
theorem d_Md_task_263 : decode b_Md_task 263 = .ok (.bipush 8, 2) := by decide +kernel
theorem d_Md_task_265 : decode b_Md_task 265 = .ok (.iload_n 1, 1) := by decide +kernel
theorem d_Md_task_266 : decode b_Md_task 266 = .ok (.imul, 1) := by decide +kernel
theorem d_Md_task_267 : decode b_Md_task 267 = .ok (.iload 8, 2) := by decide +kernel
theorem d_Md_task_269 : decode b_Md_task 269 = .ok (.iadd, 1) := by decide +kernel
theorem d_Md_task_270 : decode b_Md_task 270 = .ok (.ldc 98, 2) := by decide +kernel
theorem d_Md_task_272 : decode b_Md_task 272 = .ok (.iastore, 1) := by decide +kernel
theorem d_Md_task_273 : decode b_Md_task 273 = .ok (.iinc 8 1, 3) := by decide +kernel
theorem d_Md_task_276 : decode b_Md_task 276 = .ok (.goto (-109), 3) := by decide +kernel
theorem d_Md_task_279 : decode b_Md_task 279 = .ok (.aload_n 0, 1) := by decide +kernel
theorem d_Md_task_280 : decode b_Md_task 280 = .ok (.getfield 32, 3) := by decide +kernel
theorem d_Md_task_283 : decode b_Md_task 283 = .ok (.iload_n 1, 1) := by decide +kernel
theorem d_Md_task_284 : decode b_Md_task 284 = .ok (.iconst 0, 1) := by decide +kernel
theorem d_Md_task_285 : decode b_Md_task 285 = .ok (.iastore, 1) := by decide +kernel
theorem d_Md_task_286 : decode b_Md_task 286 = .ok (.aload_n 0, 1) := by decide +kernel
theorem d_Md_task_287 : decode b_Md_task 287 = .ok (.getfield 44, 3) := by decide +kernel
theorem d_Md_task_290 : decode b_Md_task 290 = .ok (.iload_n 1, 1) := by decide +kernel
theorem d_Md_task_291 : decode b_Md_task 291 = .ok (.iconst 1, 1) := by decide +kernel
theorem d_Md_task_292 : decode b_Md_task 292 = .ok (.iastore, 1) := by decide +kernel
theorem d_Md_task_293 : decode b_Md_task 293 = .ok (.aload_n 0, 1) := by decide +kernel
theorem d_Md_task_294 : decode b_Md_task 294 = .ok (.getfield 47, 3) := by decide +kernel
theorem d_Md_task_297 : decode b_Md_task 297 = .ok (.iload_n 1, 1) := by decide +kernel
theorem d_Md_task_298 : decode b_Md_task 298 = .ok (.iconst 1, 1) := by decide +kernel
theorem d_Md_task_299 : decode b_Md_task 299 = .ok (.iastore, 1) := by decide +kernel
theorem d_Md_task_300 : decode b_Md_task 300 = .ok (.aload_n 0, 1) := by decide +kernel
theorem d_Md_task_301 : decode b_Md_task 301 = .ok (.getfield 50, 3) := by decide +kernel
theorem d_Md_task_304 : decode b_Md_task 304 = .ok (.iload_n 1, 1) := by decide +kernel
theorem d_Md_task_305 : decode b_Md_task 305 = .ok (.iconst 0, 1) := by decide +kernel
theorem d_Md_task_306 : decode b_Md_task 306 = .ok (.iastore, 1) := by decide +kernel
theorem d_Md_task_307 : decode b_Md_task 307 = .ok (.aload_n 0, 1) := by decide +kernel
theorem d_Md_task_308 : decode b_Md_task 308 = .ok (.getfield 53, 3) := by decide +kernel
theorem d_Md_task_311 : decode b_Md_task 311 = .ok (.iload_n 1, 1) := by decide +kernel
theorem d_Md_task_312 : decode b_Md_task 312 = .ok (.iconst 0, 1) := by decide +kernel
theorem d_Md_task_313 : decode b_Md_task 313 = .ok (.iastore, 1) := by decide +kernel
theorem d_Md_task_314 : decode b_Md_task 314 = .ok (.iconst 1, 1) := by decide +kernel
theorem d_Md_task_315 : decode b_Md_task 315 = .ok (.ireturn, 1) := by decide +kernel
theorem d_Md_region_0 : decode b_Md_region 0 = .ok (.aload_n 0, 1) := by decide +kernel
theorem d_Md_region_1 : decode b_Md_region 1 = .ok (.getfield 89, 3) := by decide +kernel
theorem d_Md_region_4 : decode b_Md_region 4 = .ok (.ifCond .ne 18, 3) := by decide +kernel
theorem d_Md_region_7 : decode b_Md_region 7 = .ok (.aload_n 0, 1) := by decide +kernel
theorem d_Md_region_8 : decode b_Md_region 8 = .ok (.iload_n 1, 1) := by decide +kernel
theorem d_Md_region_9 : decode b_Md_region 9 = .ok (.invokevirtual 99, 3) := by decide +kernel
theorem d_Md_region_12 : decode b_Md_region 12 = .ok (.ifCond .eq 10, 3) := by decide +kernel
theorem d_Md_region_15 : decode b_Md_region 15 = .ok (.iload_n 2, 1) := by decide +kernel
theorem d_Md_region_16 : decode b_Md_region 16 = .ok (.invokestatic 102, 3) := by decide +kernel
theorem d_Md_region_19 : decode b_Md_region 19 = .ok (.ifCond .ne 5, 3) := by decide +kernel
theorem d_Md_region_22 : decode b_Md_region 22 = .ok (.iconst 0, 1) := by decide +kernel
theorem d_Md_region_23 : decode b_Md_region 23 = .ok (.ireturn, 1) := by decide +kernel
theorem d_Md_region_24 : decode b_Md_region 24 = .ok (.aload_n 0, 1) := by decide +kernel
theorem d_Md_region_25 : decode b_Md_region 25 = .ok (.getfield 32, 3) := by decide +kernel
theorem d_Md_region_28 : decode b_Md_region 28 = .ok (.iload_n 1, 1) := by decide +kernel
theorem d_Md_region_29 : decode b_Md_region 29 = .ok (.iload_n 2, 1) := by decide +kernel
theorem d_Md_region_30 : decode b_Md_region 30 = .ok (.iastore, 1) := by decide +kernel
theorem d_Md_region_31 : decode b_Md_region 31 = .ok (.iconst 1, 1) := by decide +kernel
theorem d_Md_region_32 : decode b_Md_region 32 = .ok (.ireturn, 1) := by decide +kernel
theorem d_Md_guard_0 : decode b_Md_guard 0 = .ok (.aload_n 0, 1) := by decide +kernel
theorem d_Md_guard_1 : decode b_Md_guard 1 = .ok (.getfield 89, 3) := by decide +kernel
theorem d_Md_guard_4 : decode b_Md_guard 4 = .ok (.ifCond .ne 30, 3) := by decide +kernel
theorem d_Md_guard_7 : decode b_Md_guard 7 = .ok (.aload_n 0, 1) := by decide +kernel
theorem d_Md_guard_8 : decode b_Md_guard 8 = .ok (.iload_n 1, 1) := by decide +kernel
theorem d_Md_guard_9 : decode b_Md_guard 9 = .ok (.invokevirtual 99, 3) := by decide +kernel
theorem d_Md_guard_12 : decode b_Md_guard 12 = .ok (.ifCond .eq 22, 3) := by decide +kernel
theorem d_Md_guard_15 : decode b_Md_guard 15 = .ok (.iload_n 2, 1) := by decide +kernel
theorem d_Md_guard_16 : decode b_Md_guard 16 = .ok (.ifCond .lt 18, 3) := by decide +kernel
theorem d_Md_guard_19 : decode b_Md_guard 19 = .ok (.iload_n 2, 1) := by decide +kernel
theorem d_Md_guard_20 : decode b_Md_guard 20 = .ok (.bipush 7, 2) := by decide +kernel
theorem d_Md_guard_22 : decode b_Md_guard 22 = .ok (.if_icmp .gt 12, 3) := by decide +kernel
theorem d_Md_guard_25 : decode b_Md_guard 25 = .ok (.iload_n 3, 1) := by decide +kernel
theorem d_Md_guard_26 : decode b_Md_guard 26 = .ok (.ifCond .lt 8, 3) := by decide +kernel
theorem d_Md_guard_29 : decode b_Md_guard 29 = .ok (.iload_n 3, 1) := by decide +kernel
theorem d_Md_guard_30 : decode b_Md_guard 30 = .ok (.iconst 3, 1) := by decide +kernel
theorem d_Md_guard_31 : decode b_Md_guard 31 = .ok (.if_icmp .le 5, 3) := by decide +kernel
theorem d_Md_guard_34 : decode b_Md_guard 34 = .ok (.iconst 0, 1) := by decide +kernel
theorem d_Md_guard_35 : decode b_Md_guard 35 = .ok (.ireturn, 1) := by decide +kernel
theorem d_Md_guard_36 : decode b_Md_guard 36 = .ok (.aload_n 0, 1) := by decide +kernel
theorem d_Md_guard_37 : decode b_Md_guard 37 = .ok (.getfield 23, 3) := by decide +kernel
theorem d_Md_guard_40 : decode b_Md_guard 40 = .ok (.iload_n 1, 1) := by decide +kernel
theorem d_Md_guard_41 : decode b_Md_guard 41 = .ok (.iaload, 1) := by decide +kernel
theorem d_Md_guard_42 : decode b_Md_guard 42 = .ok (.iload_n 2, 1) := by decide +kernel
theorem d_Md_guard_43 : decode b_Md_guard 43 = .ok (.ishr, 1) := by decide +kernel
theorem d_Md_guard_44 : decode b_Md_guard 44 = .ok (.iconst 1, 1) := by decide +kernel
theorem d_Md_guard_45 : decode b_Md_guard 45 = .ok (.iand, 1) := by decide +kernel
theorem d_Md_guard_46 : decode b_Md_guard 46 = .ok (.ifCond .ne 5, 3) := by decide +kernel
theorem d_Md_guard_49 : decode b_Md_guard 49 = .ok (.iconst 0, 1) := by decide +kernel
theorem d_Md_guard_50 : decode b_Md_guard 50 = .ok (.ireturn, 1) := by decide +kernel
theorem d_Md_guard_51 : decode b_Md_guard 51 = .ok (.aload_n 0, 1) := by decide +kernel
theorem d_Md_guard_52 : decode b_Md_guard 52 = .ok (.getfield 35, 3) := by decide +kernel
theorem d_Md_guard_55 : decode b_Md_guard 55 = .ok (.bipush 8, 2) := by decide +kernel
theorem d_Md_guard_57 : decode b_Md_guard 57 = .ok (.iload_n 1, 1) := by decide +kernel
theorem d_Md_guard_58 : decode b_Md_guard 58 = .ok (.imul, 1) := by decide +kernel
theorem d_Md_guard_59 : decode b_Md_guard 59 = .ok (.iload_n 2, 1) := by decide +kernel
theorem d_Md_guard_60 : decode b_Md_guard 60 = .ok (.iadd, 1) := by decide +kernel
theorem d_Md_guard_61 : decode b_Md_guard 61 = .ok (.iload_n 3, 1) := by decide +kernel
theorem d_Md_guard_62 : decode b_Md_guard 62 = .ok (.iastore, 1) := by decide +kernel
theorem d_Md_guard_63 : decode b_Md_guard 63 = .ok (.aload_n 0, 1) := by decide +kernel
theorem d_Md_guard_64 : decode b_Md_guard 64 = .ok (.getfield 38, 3) := by decide +kernel
theorem d_Md_guard_67 : decode b_Md_guard 67 = .ok (.bipush 8, 2) := by decide +kernel
theorem d_Md_guard_69 : decode b_Md_guard 69 = .ok (.iload_n 1, 1) := by decide +kernel
theorem d_Md_guard_70 : decode b_Md_guard 70 = .ok (.imul, 1) := by decide +kernel
theorem d_Md_guard_71 : decode b_Md_guard 71 = .ok (.iload_n 2, 1) := by decide +kernel
theorem d_Md_guard_72 : decode b_Md_guard 72 = .ok (.iadd, 1) := by decide +kernel
theorem d_Md_guard_73 : decode b_Md_guard 73 = .ok (.iload 4, 2) := by decide +kernel
theorem d_Md_guard_75 : decode b_Md_guard 75 = .ok (.iastore, 1) := by decide +kernel
theorem d_Md_guard_76 : decode b_Md_guard 76 = .ok (.aload_n 0, 1) := by decide +kernel
theorem d_Md_guard_77 : decode b_Md_guard 77 = .ok (.getfield 41, 3) := by decide +kernel
theorem d_Md_guard_80 : decode b_Md_guard 80 = .ok (.bipush 8, 2) := by decide +kernel
theorem d_Md_guard_82 : decode b_Md_guard 82 = .ok (.iload_n 1, 1) := by decide +kernel
theorem d_Md_guard_83 : decode b_Md_guard 83 = .ok (.imul, 1) := by decide +kernel
theorem d_Md_guard_84 : decode b_Md_guard 84 = .ok (.iload_n 2, 1) := by decide +kernel
theorem d_Md_guard_85 : decode b_Md_guard 85 = .ok (.iadd, 1) := by decide +kernel
theorem d_Md_guard_86 : decode b_Md_guard 86 = .ok (.iload 5, 2) := by decide +kernel
theorem d_Md_guard_88 : decode b_Md_guard 88 = .ok (.iastore, 1) := by decide +kernel
theorem d_Md_guard_89 : decode b_Md_guard 89 = .ok (.iconst 1, 1) := by decide +kernel
theorem d_Md_guard_90 : decode b_Md_guard 90 = .ok (.ireturn, 1) := by decide +kernel
theorem d_Md_items_0 : decode b_Md_items 0 = .ok (.aload_n 0, 1) := by decide +kernel
theorem d_Md_items_1 : decode b_Md_items 1 = .ok (.getfield 89, 3) := by decide +kernel
theorem d_Md_items_4 : decode b_Md_items 4 = .ok (.ifCond .ne 31, 3) := by decide +kernel
theorem d_Md_items_7 : decode b_Md_items 7 = .ok (.aload_n 0, 1) := by decide +kernel
theorem d_Md_items_8 : decode b_Md_items 8 = .ok (.iload_n 1, 1) := by decide +kernel
theorem d_Md_items_9 : decode b_Md_items 9 = .ok (.invokevirtual 99, 3) := by decide +kernel
theorem d_Md_items_12 : decode b_Md_items 12 = .ok (.ifCond .eq 23, 3) := by decide +kernel
theorem d_Md_items_15 : decode b_Md_items 15 = .ok (.iload_n 2, 1) := by decide +kernel
theorem d_Md_items_16 : decode b_Md_items 16 = .ok (.iconst 1, 1) := by decide +kernel
theorem d_Md_items_17 : decode b_Md_items 17 = .ok (.if_icmp .lt 18, 3) := by decide +kernel
theorem d_Md_items_20 : decode b_Md_items 20 = .ok (.iload_n 2, 1) := by decide +kernel
theorem d_Md_items_21 : decode b_Md_items 21 = .ok (.iconst 4, 1) := by decide +kernel
theorem d_Md_items_22 : decode b_Md_items 22 = .ok (.if_icmp .gt 13, 3) := by decide +kernel
theorem d_Md_items_25 : decode b_Md_items 25 = .ok (.iload_n 3, 1) := by decide +kernel
theorem d_Md_items_26 : decode b_Md_items 26 = .ok (.iconst 1, 1) := by decide +kernel
theorem d_Md_items_27 : decode b_Md_items 27 = .ok (.if_icmp .lt 8, 3) := by decide +kernel
theorem d_Md_items_30 : decode b_Md_items 30 = .ok (.iload_n 3, 1) := by decide +kernel
theorem d_Md_items_31 : decode b_Md_items 31 = .ok (.iload_n 2, 1) := by decide +kernel
theorem d_Md_items_32 : decode b_Md_items 32 = .ok (.if_icmp .le 5, 3) := by decide +kernel
theorem d_Md_items_35 : decode b_Md_items 35 = .ok (.iconst 0, 1) := by decide +kernel
theorem d_Md_items_36 : decode b_Md_items 36 = .ok (.ireturn, 1) := by decide +kernel
theorem d_Md_items_37 : decode b_Md_items 37 = .ok (.iload 4, 2) := by decide +kernel
theorem d_Md_items_39 : decode b_Md_items 39 = .ok (.ifCond .lt 21, 3) := by decide +kernel
theorem d_Md_items_42 : decode b_Md_items 42 = .ok (.iload 4, 2) := by decide +kernel
theorem d_Md_items_44 : decode b_Md_items 44 = .ok (.iconst 3, 1) := by decide +kernel
theorem d_Md_items_45 : decode b_Md_items 45 = .ok (.if_icmp .gt 15, 3) := by decide +kernel
theorem d_Md_items_48 : decode b_Md_items 48 = .ok (.iload 5, 2) := by decide +kernel
theorem d_Md_items_50 : decode b_Md_items 50 = .ok (.ifCond .lt 10, 3) := by decide +kernel
theorem d_Md_items_53 : decode b_Md_items 53 = .ok (.iload 5, 2) := by decide +kernel
theorem d_Md_items_55 : decode b_Md_items 55 = .ok (.bipush 100, 2) := by decide +kernel
theorem d_Md_items_57 : decode b_Md_items 57 = .ok (.if_icmp .le 5, 3) := by decide +kernel
theorem d_Md_items_60 : decode b_Md_items 60 = .ok (.iconst 0, 1) := by decide +kernel
theorem d_Md_items_61 : decode b_Md_items 61 = .ok (.ireturn, 1) := by decide +kernel
theorem d_Md_items_62 : decode b_Md_items 62 = .ok (.aload_n 0, 1) := by decide +kernel
theorem d_Md_items_63 : decode b_Md_items 63 = .ok (.getfield 44, 3) := by decide +kernel
theorem d_Md_items_66 : decode b_Md_items 66 = .ok (.iload_n 1, 1) := by decide +kernel
theorem d_Md_items_67 : decode b_Md_items 67 = .ok (.iload_n 2, 1) := by decide +kernel
theorem d_Md_items_68 : decode b_Md_items 68 = .ok (.iastore, 1) := by decide +kernel
theorem d_Md_items_69 : decode b_Md_items 69 = .ok (.aload_n 0, 1) := by decide +kernel
theorem d_Md_items_70 : decode b_Md_items 70 = .ok (.getfield 47, 3) := by decide +kernel
theorem d_Md_items_73 : decode b_Md_items 73 = .ok (.iload_n 1, 1) := by decide +kernel
theorem d_Md_items_74 : decode b_Md_items 74 = .ok (.iload_n 3, 1) := by decide +kernel
theorem d_Md_items_75 : decode b_Md_items 75 = .ok (.iastore, 1) := by decide +kernel
theorem d_Md_items_76 : decode b_Md_items 76 = .ok (.aload_n 0, 1) := by decide +kernel
theorem d_Md_items_77 : decode b_Md_items 77 = .ok (.getfield 50, 3) := by decide +kernel
theorem d_Md_items_80 : decode b_Md_items 80 = .ok (.iload_n 1, 1) := by decide +kernel
theorem d_Md_items_81 : decode b_Md_items 81 = .ok (.iload 4, 2) := by decide +kernel
theorem d_Md_items_83 : decode b_Md_items 83 = .ok (.iastore, 1) := by decide +kernel
theorem d_Md_items_84 : decode b_Md_items 84 = .ok (.aload_n 0, 1) := by decide +kernel
theorem d_Md_items_85 : decode b_Md_items 85 = .ok (.getfield 53, 3) := by decide +kernel
theorem d_Md_items_88 : decode b_Md_items 88 = .ok (.iload_n 1, 1) := by decide +kernel
theorem d_Md_items_89 : decode b_Md_items 89 = .ok (.iload 5, 2) := by decide +kernel
theorem d_Md_items_91 : decode b_Md_items 91 = .ok (.iastore, 1) := by decide +kernel
theorem d_Md_items_92 : decode b_Md_items 92 = .ok (.iconst 1, 1) := by decide +kernel
theorem d_Md_items_93 : decode b_Md_items 93 = .ok (.ireturn, 1) := by decide +kernel
theorem d_Md_isAny_0 : decode b_Md_isAny 0 = .ok (.iconst 0, 1) := by decide +kernel
theorem d_Md_isAny_1 : decode b_Md_isAny 1 = .ok (.istore_n 1, 1) := by decide +kernel
theorem d_Md_isAny_2 : decode b_Md_isAny 2 = .ok (.iconst 0, 1) := by decide +kernel
theorem d_Md_isAny_3 : decode b_Md_isAny 3 = .ok (.istore_n 2, 1) := by decide +kernel
theorem d_Md_isAny_4 : decode b_Md_isAny 4 = .ok (.iload_n 2, 1) := by decide +kernel
theorem d_Md_isAny_5 : decode b_Md_isAny 5 = .ok (.bipush 6, 2) := by decide +kernel
theorem d_Md_isAny_7 : decode b_Md_isAny 7 = .ok (.if_icmp .ge 28, 3) := by decide +kernel
theorem d_Md_isAny_10 : decode b_Md_isAny 10 = .ok (.iload_n 1, 1) := by decide +kernel
theorem d_Md_isAny_11 : decode b_Md_isAny 11 = .ok (.ifCond .ne 12, 3) := by decide +kernel
theorem d_Md_isAny_14 : decode b_Md_isAny 14 = .ok (.aload_n 0, 1) := by decide +kernel
theorem d_Md_isAny_15 : decode b_Md_isAny 15 = .ok (.getfield 7, 3) := by decide +kernel
theorem d_Md_isAny_18 : decode b_Md_isAny 18 = .ok (.iload_n 2, 1) := by decide +kernel
theorem d_Md_isAny_19 : decode b_Md_isAny 19 = .ok (.baload, 1) := by decide +kernel
theorem d_Md_isAny_20 : decode b_Md_isAny 20 = .ok (.ifCond .eq 7, 3) := by decide +kernel
theorem d_Md_isAny_23 : decode b_Md_isAny 23 = .ok (.iconst 1, 1) := by decide +kernel
theorem d_Md_isAny_24 : decode b_Md_isAny 24 = .ok (.goto 4, 3) := by decide +kernel
theorem d_Md_isAny_27 : decode b_Md_isAny 27 = .ok (.iconst 0, 1) := by decide +kernel
theorem d_Md_isAny_28 : decode b_Md_isAny 28 = .ok (.istore_n 1, 1) := by decide +kernel
theorem d_Md_isAny_29 : decode b_Md_isAny 29 = .ok (.iinc 2 1, 3) := by decide +kernel
theorem d_Md_isAny_32 : decode b_Md_isAny 32 = .ok (.goto (-28), 3) := by decide +kernel
theorem d_Md_isAny_35 : decode b_Md_isAny 35 = .ok (.iload_n 1, 1) := by decide +kernel
theorem d_Md_isAny_36 : decode b_Md_isAny 36 = .ok (.ireturn, 1) := by decide +kernel
theorem d_Md_outputs_0 : decode b_Md_outputs 0 = .ok (.iconst 0, 1) := by decide +kernel
theorem d_Md_outputs_1 : decode b_Md_outputs 1 = .ok (.istore_n 3, 1) := by decide +kernel
theorem d_Md_outputs_2 : decode b_Md_outputs 2 = .ok (.iconst 0, 1) := by decide +kernel
theorem d_Md_outputs_3 : decode b_Md_outputs 3 = .ok (.istore 4, 2) := by decide +kernel
theorem d_Md_outputs_5 : decode b_Md_outputs 5 = .ok (.iload 4, 2) := by decide +kernel
theorem d_Md_outputs_7 : decode b_Md_outputs 7 = .ok (.iconst 3, 1) := by decide +kernel
theorem d_Md_outputs_8 : decode b_Md_outputs 8 = .ok (.if_icmp .ge 37, 3) := by decide +kernel
theorem d_Md_outputs_11 : decode b_Md_outputs 11 = .ok (.iload_n 3, 1) := by decide +kernel
theorem d_Md_outputs_12 : decode b_Md_outputs 12 = .ok (.iload_n 2, 1) := by decide +kernel
theorem d_Md_outputs_13 : decode b_Md_outputs 13 = .ok (.iload 4, 2) := by decide +kernel
theorem d_Md_outputs_15 : decode b_Md_outputs 15 = .ok (.ishr, 1) := by decide +kernel
theorem d_Md_outputs_16 : decode b_Md_outputs 16 = .ok (.iconst 1, 1) := by decide +kernel
theorem d_Md_outputs_17 : decode b_Md_outputs 17 = .ok (.iand, 1) := by decide +kernel
theorem d_Md_outputs_18 : decode b_Md_outputs 18 = .ok (.iconst 1, 1) := by decide +kernel
theorem d_Md_outputs_19 : decode b_Md_outputs 19 = .ok (.if_icmp .ne 17, 3) := by decide +kernel
theorem d_Md_outputs_22 : decode b_Md_outputs 22 = .ok (.aload_n 0, 1) := by decide +kernel
theorem d_Md_outputs_23 : decode b_Md_outputs 23 = .ok (.getfield 29, 3) := by decide +kernel
theorem d_Md_outputs_26 : decode b_Md_outputs 26 = .ok (.iconst 3, 1) := by decide +kernel
theorem d_Md_outputs_27 : decode b_Md_outputs 27 = .ok (.iload_n 1, 1) := by decide +kernel
theorem d_Md_outputs_28 : decode b_Md_outputs 28 = .ok (.imul, 1) := by decide +kernel
theorem d_Md_outputs_29 : decode b_Md_outputs 29 = .ok (.iload 4, 2) := by decide +kernel
theorem d_Md_outputs_31 : decode b_Md_outputs 31 = .ok (.iadd, 1) := by decide +kernel
theorem d_Md_outputs_32 : decode b_Md_outputs 32 = .ok (.iaload, 1) := by decide +kernel
theorem d_Md_outputs_33 : decode b_Md_outputs 33 = .ok (.goto 4, 3) := by decide +kernel
theorem d_Md_outputs_36 : decode b_Md_outputs 36 = .ok (.iconst 0, 1) := by decide +kernel
theorem d_Md_outputs_37 : decode b_Md_outputs 37 = .ok (.ior, 1) := by decide +kernel
theorem d_Md_outputs_38 : decode b_Md_outputs 38 = .ok (.istore_n 3, 1) := by decide +kernel
theorem d_Md_outputs_39 : decode b_Md_outputs 39 = .ok (.iinc 4 1, 3) := by decide +kernel
theorem d_Md_outputs_42 : decode b_Md_outputs 42 = .ok (.goto (-37), 3) := by decide +kernel
theorem d_Md_outputs_45 : decode b_Md_outputs 45 = .ok (.iload_n 3, 1) := by decide +kernel
theorem d_Md_outputs_46 : decode b_Md_outputs 46 = .ok (.ireturn, 1) := by decide +kernel
end
section
theorem d_Md_after_0 : decode b_Md_after 0 = .ok (.iconst 1, 1) := by decide +kernel
theorem d_Md_after_1 : decode b_Md_after 1 = .ok (.bipush 8, 2) := by decide +kernel
theorem d_Md_after_3 : decode b_Md_after 3 = .ok (.iload_n 2, 1) := by decide +kernel
theorem d_Md_after_4 : decode b_Md_after 4 = .ok (.iadd, 1) := by decide +kernel
theorem d_Md_after_5 : decode b_Md_after 5 = .ok (.ishl, 1) := by decide +kernel
theorem d_Md_after_6 : decode b_Md_after 6 = .ok (.istore 4, 2) := by decide +kernel
theorem d_Md_after_8 : decode b_Md_after 8 = .ok (.iload_n 3, 1) := by decide +kernel
theorem d_Md_after_9 : decode b_Md_after 9 = .ok (.iconst 3, 1) := by decide +kernel
theorem d_Md_after_10 : decode b_Md_after 10 = .ok (.if_icmp .ge 69, 3) := by decide +kernel
theorem d_Md_after_13 : decode b_Md_after 13 = .ok (.aload_n 0, 1) := by decide +kernel
theorem d_Md_after_14 : decode b_Md_after 14 = .ok (.getfield 13, 3) := by decide +kernel
theorem d_Md_after_17 : decode b_Md_after 17 = .ok (.iload_n 2, 1) := by decide +kernel
theorem d_Md_after_18 : decode b_Md_after 18 = .ok (.iaload, 1) := by decide +kernel
theorem d_Md_after_19 : decode b_Md_after 19 = .ok (.ifCond .ne 20, 3) := by decide +kernel
theorem d_Md_after_22 : decode b_Md_after 22 = .ok (.iload_n 3, 1) := by decide +kernel
theorem d_Md_after_23 : decode b_Md_after 23 = .ok (.ifCond .ne 12, 3) := by decide +kernel
theorem d_Md_after_26 : decode b_Md_after 26 = .ok (.aload_n 0, 1) := by decide +kernel
theorem d_Md_after_27 : decode b_Md_after 27 = .ok (.getfield 20, 3) := by decide +kernel
theorem d_Md_after_30 : decode b_Md_after 30 = .ok (.iload_n 2, 1) := by decide +kernel
theorem d_Md_after_31 : decode b_Md_after 31 = .ok (.iaload, 1) := by decide +kernel
theorem d_Md_after_32 : decode b_Md_after 32 = .ok (.goto 17, 3) := by decide +kernel
theorem d_Md_after_35 : decode b_Md_after 35 = .ok (.iconst 0, 1) := by decide +kernel
theorem d_Md_after_36 : decode b_Md_after 36 = .ok (.goto 13, 3) := by decide +kernel
theorem d_Md_after_39 : decode b_Md_after 39 = .ok (.aload_n 0, 1) := by decide +kernel
theorem d_Md_after_40 : decode b_Md_after 40 = .ok (.getfield 26, 3) := by decide +kernel
theorem d_Md_after_43 : decode b_Md_after 43 = .ok (.iconst 3, 1) := by decide +kernel
theorem d_Md_after_44 : decode b_Md_after 44 = .ok (.iload_n 2, 1) := by decide +kernel
theorem d_Md_after_45 : decode b_Md_after 45 = .ok (.imul, 1) := by decide +kernel
theorem d_Md_after_46 : decode b_Md_after 46 = .ok (.iload_n 3, 1) := by decide +kernel
theorem d_Md_after_47 : decode b_Md_after 47 = .ok (.iadd, 1) := by decide +kernel
theorem d_Md_after_48 : decode b_Md_after 48 = .ok (.iaload, 1) := by decide +kernel
theorem d_Md_after_49 : decode b_Md_after 49 = .ok (.istore 5, 2) := by decide +kernel
theorem d_Md_after_51 : decode b_Md_after 51 = .ok (.iload 5, 2) := by decide +kernel
theorem d_Md_after_53 : decode b_Md_after 53 = .ok (.ifCond .eq 12, 3) := by decide +kernel
theorem d_Md_after_56 : decode b_Md_after 56 = .ok (.iload_n 1, 1) := by decide +kernel
theorem d_Md_after_57 : decode b_Md_after 57 = .ok (.iload 5, 2) := by decide +kernel
theorem d_Md_after_59 : decode b_Md_after 59 = .ok (.iand, 1) := by decide +kernel
theorem d_Md_after_60 : decode b_Md_after 60 = .ok (.iload 5, 2) := by decide +kernel
theorem d_Md_after_62 : decode b_Md_after 62 = .ok (.if_icmp .eq 7, 3) := by decide +kernel
theorem d_Md_after_65 : decode b_Md_after 65 = .ok (.iconst (-1), 1) := by decide +kernel
theorem d_Md_after_66 : decode b_Md_after 66 = .ok (.goto 12, 3) := by decide +kernel
theorem d_Md_after_69 : decode b_Md_after 69 = .ok (.iload_n 1, 1) := by decide +kernel
theorem d_Md_after_70 : decode b_Md_after 70 = .ok (.iload 5, 2) := by decide +kernel
theorem d_Md_after_72 : decode b_Md_after 72 = .ok (.iconst (-1), 1) := by decide +kernel
theorem d_Md_after_73 : decode b_Md_after 73 = .ok (.ixor, 1) := by decide +kernel
theorem d_Md_after_74 : decode b_Md_after 74 = .ok (.iand, 1) := by decide +kernel
theorem d_Md_after_75 : decode b_Md_after 75 = .ok (.iload 4, 2) := by decide +kernel
theorem d_Md_after_77 : decode b_Md_after 77 = .ok (.ior, 1) := by decide +kernel
theorem d_Md_after_78 : decode b_Md_after 78 = .ok (.ireturn, 1) := by decide +kernel
theorem d_Md_after_79 : decode b_Md_after 79 = .ok (.iload_n 3, 1) := by decide +kernel
theorem d_Md_after_80 : decode b_Md_after 80 = .ok (.iconst 2, 1) := by decide +kernel
theorem d_Md_after_81 : decode b_Md_after 81 = .ok (.isub, 1) := by decide +kernel
theorem d_Md_after_82 : decode b_Md_after 82 = .ok (.istore 5, 2) := by decide +kernel
theorem d_Md_after_84 : decode b_Md_after 84 = .ok (.aload_n 0, 1) := by decide +kernel
theorem d_Md_after_85 : decode b_Md_after 85 = .ok (.iload_n 2, 1) := by decide +kernel
theorem d_Md_after_86 : decode b_Md_after 86 = .ok (.iload 5, 2) := by decide +kernel
theorem d_Md_after_88 : decode b_Md_after 88 = .ok (.invokevirtual 105, 3) := by decide +kernel
theorem d_Md_after_91 : decode b_Md_after 91 = .ok (.istore 6, 2) := by decide +kernel
theorem d_Md_after_93 : decode b_Md_after 93 = .ok (.iload 6, 2) := by decide +kernel
theorem d_Md_after_95 : decode b_Md_after 95 = .ok (.invokestatic 93, 3) := by decide +kernel
theorem d_Md_after_98 : decode b_Md_after 98 = .ok (.iload 5, 2) := by decide +kernel
theorem d_Md_after_100 : decode b_Md_after 100 = .ok (.invokestatic 93, 3) := by decide +kernel
theorem d_Md_after_103 : decode b_Md_after 103 = .ok (.if_icmp .ne 49, 3) := by decide +kernel
theorem d_Md_after_106 : decode b_Md_after 106 = .ok (.aload_n 0, 1) := by decide +kernel
theorem d_Md_after_107 : decode b_Md_after 107 = .ok (.getfield 17, 3) := by decide +kernel
theorem d_Md_after_110 : decode b_Md_after 110 = .ok (.iload_n 2, 1) := by decide +kernel
theorem d_Md_after_111 : decode b_Md_after 111 = .ok (.iaload, 1) := by decide +kernel
theorem d_Md_after_112 : decode b_Md_after 112 = .ok (.ifCond .ne 17, 3) := by decide +kernel
theorem d_Md_after_115 : decode b_Md_after 115 = .ok (.iload 6, 2) := by decide +kernel
theorem d_Md_after_117 : decode b_Md_after 117 = .ok (.aload_n 0, 1) := by decide +kernel
theorem d_Md_after_118 : decode b_Md_after 118 = .ok (.getfield 23, 3) := by decide +kernel
theorem d_Md_after_121 : decode b_Md_after 121 = .ok (.iload_n 2, 1) := by decide +kernel
theorem d_Md_after_122 : decode b_Md_after 122 = .ok (.iaload, 1) := by decide +kernel
theorem d_Md_after_123 : decode b_Md_after 123 = .ok (.if_icmp .ne 29, 3) := by decide +kernel
theorem d_Md_after_126 : decode b_Md_after 126 = .ok (.goto 22, 3) := by decide +kernel
theorem d_Md_after_129 : decode b_Md_after 129 = .ok (.aload_n 0, 1) := by decide +kernel
theorem d_Md_after_130 : decode b_Md_after 130 = .ok (.getfield 17, 3) := by decide +kernel
theorem d_Md_after_133 : decode b_Md_after 133 = .ok (.iload_n 2, 1) := by decide +kernel
theorem d_Md_after_134 : decode b_Md_after 134 = .ok (.iaload, 1) := by decide +kernel
theorem d_Md_after_135 : decode b_Md_after 135 = .ok (.iconst 1, 1) := by decide +kernel
theorem d_Md_after_136 : decode b_Md_after 136 = .ok (.if_icmp .ne 12, 3) := by decide +kernel
theorem d_Md_after_139 : decode b_Md_after 139 = .ok (.iload 5, 2) := by decide +kernel
theorem d_Md_after_141 : decode b_Md_after 141 = .ok (.invokestatic 93, 3) := by decide +kernel
theorem d_Md_after_144 : decode b_Md_after 144 = .ok (.iconst 1, 1) := by decide +kernel
theorem d_Md_after_145 : decode b_Md_after 145 = .ok (.if_icmp .ne 7, 3) := by decide +kernel
theorem d_Md_after_148 : decode b_Md_after 148 = .ok (.iconst 1, 1) := by decide +kernel
theorem d_Md_after_149 : decode b_Md_after 149 = .ok (.goto 4, 3) := by decide +kernel
theorem d_Md_after_152 : decode b_Md_after 152 = .ok (.iconst 0, 1) := by decide +kernel
theorem d_Md_after_153 : decode b_Md_after 153 = .ok (.istore 7, 2) := by decide +kernel
theorem d_Md_after_155 : decode b_Md_after 155 = .ok (.iload 7, 2) := by decide +kernel
theorem d_Md_after_157 : decode b_Md_after 157 = .ok (.ifCond .eq 10, 3) := by decide +kernel
theorem d_Md_after_160 : decode b_Md_after 160 = .ok (.iload_n 1, 1) := by decide +kernel
theorem d_Md_after_161 : decode b_Md_after 161 = .ok (.iload 4, 2) := by decide +kernel
theorem d_Md_after_163 : decode b_Md_after 163 = .ok (.iand, 1) := by decide +kernel
theorem d_Md_after_164 : decode b_Md_after 164 = .ok (.ifCond .ne 7, 3) := by decide +kernel
theorem d_Md_after_167 : decode b_Md_after 167 = .ok (.iconst (-1), 1) := by decide +kernel
theorem d_Md_after_168 : decode b_Md_after 168 = .ok (.goto 21, 3) := by decide +kernel
theorem d_Md_after_171 : decode b_Md_after 171 = .ok (.iload_n 1, 1) := by decide +kernel
theorem d_Md_after_172 : decode b_Md_after 172 = .ok (.iload 4, 2) := by decide +kernel
theorem d_Md_after_174 : decode b_Md_after 174 = .ok (.iconst (-1), 1) := by decide +kernel
theorem d_Md_after_175 : decode b_Md_after 175 = .ok (.ixor, 1) := by decide +kernel
theorem d_Md_after_176 : decode b_Md_after 176 = .ok (.iand, 1) := by decide +kernel
theorem d_Md_after_177 : decode b_Md_after 177 = .ok (.aload_n 0, 1) := by decide +kernel
theorem d_Md_after_178 : decode b_Md_after 178 = .ok (.getfield 32, 3) := by decide +kernel
theorem d_Md_after_181 : decode b_Md_after 181 = .ok (.iload_n 2, 1) := by decide +kernel
theorem d_Md_after_182 : decode b_Md_after 182 = .ok (.iaload, 1) := by decide +kernel
theorem d_Md_after_183 : decode b_Md_after 183 = .ok (.iconst (-1), 1) := by decide +kernel
theorem d_Md_after_184 : decode b_Md_after 184 = .ok (.ixor, 1) := by decide +kernel
theorem d_Md_after_185 : decode b_Md_after 185 = .ok (.iand, 1) := by decide +kernel
theorem d_Md_after_186 : decode b_Md_after 186 = .ok (.iload 6, 2) := by decide +kernel
theorem d_Md_after_188 : decode b_Md_after 188 = .ok (.ior, 1) := by decide +kernel
theorem d_Md_after_189 : decode b_Md_after 189 = .ok (.ireturn, 1) := by decide +kernel
theorem d_Md_meet_0 : decode b_Md_meet 0 = .ok (.aload_n 0, 1) := by decide +kernel
theorem d_Md_meet_1 : decode b_Md_meet 1 = .ok (.getfield 71, 3) := by decide +kernel
theorem d_Md_meet_4 : decode b_Md_meet 4 = .ok (.iload_n 1, 1) := by decide +kernel
theorem d_Md_meet_5 : decode b_Md_meet 5 = .ok (.bipush 6, 2) := by decide +kernel
theorem d_Md_meet_7 : decode b_Md_meet 7 = .ok (.ishr, 1) := by decide +kernel
theorem d_Md_meet_8 : decode b_Md_meet 8 = .ok (.laload, 1) := by decide +kernel
theorem d_Md_meet_9 : decode b_Md_meet 9 = .ok (.iload_n 1, 1) := by decide +kernel
theorem d_Md_meet_10 : decode b_Md_meet 10 = .ok (.bipush 63, 2) := by decide +kernel
theorem d_Md_meet_12 : decode b_Md_meet 12 = .ok (.iand, 1) := by decide +kernel
theorem d_Md_meet_13 : decode b_Md_meet 13 = .ok (.lshr, 1) := by decide +kernel
theorem d_Md_meet_14 : decode b_Md_meet 14 = .ok (.lconst 1, 1) := by decide +kernel
theorem d_Md_meet_15 : decode b_Md_meet 15 = .ok (.land, 1) := by decide +kernel
theorem d_Md_meet_16 : decode b_Md_meet 16 = .ok (.lconst 0, 1) := by decide +kernel
theorem d_Md_meet_17 : decode b_Md_meet 17 = .ok (.lcmp, 1) := by decide +kernel
theorem d_Md_meet_18 : decode b_Md_meet 18 = .ok (.ifCond .eq 4, 3) := by decide +kernel
theorem d_Md_meet_21 : decode b_Md_meet 21 = .ok (.return_, 1) := by decide +kernel
theorem d_Md_meet_22 : decode b_Md_meet 22 = .ok (.aload_n 0, 1) := by decide +kernel
theorem d_Md_meet_23 : decode b_Md_meet 23 = .ok (.getfield 71, 3) := by decide +kernel
theorem d_Md_meet_26 : decode b_Md_meet 26 = .ok (.iload_n 1, 1) := by decide +kernel
theorem d_Md_meet_27 : decode b_Md_meet 27 = .ok (.bipush 6, 2) := by decide +kernel
theorem d_Md_meet_29 : decode b_Md_meet 29 = .ok (.ishr, 1) := by decide +kernel
theorem d_Md_meet_30 : decode b_Md_meet 30 = .ok (.dup2, 1) := by decide +kernel
theorem d_Md_meet_31 : decode b_Md_meet 31 = .ok (.laload, 1) := by decide +kernel
theorem d_Md_meet_32 : decode b_Md_meet 32 = .ok (.lconst 1, 1) := by decide +kernel
theorem d_Md_meet_33 : decode b_Md_meet 33 = .ok (.iload_n 1, 1) := by decide +kernel
theorem d_Md_meet_34 : decode b_Md_meet 34 = .ok (.bipush 63, 2) := by decide +kernel
theorem d_Md_meet_36 : decode b_Md_meet 36 = .ok (.iand, 1) := by decide +kernel
theorem d_Md_meet_37 : decode b_Md_meet 37 = .ok (.lshl, 1) := by decide +kernel
theorem d_Md_meet_38 : decode b_Md_meet 38 = .ok (.lor, 1) := by decide +kernel
theorem d_Md_meet_39 : decode b_Md_meet 39 = .ok (.lastore, 1) := by decide +kernel
theorem d_Md_meet_40 : decode b_Md_meet 40 = .ok (.aload_n 0, 1) := by decide +kernel
theorem d_Md_meet_41 : decode b_Md_meet 41 = .ok (.getfield 75, 3) := by decide +kernel
theorem d_Md_meet_44 : decode b_Md_meet 44 = .ok (.aload_n 0, 1) := by decide +kernel
theorem d_Md_meet_45 : decode b_Md_meet 45 = .ok (.getfield 109, 3) := by decide +kernel
theorem d_Md_meet_48 : decode b_Md_meet 48 = .ok (.iload_n 1, 1) := by decide +kernel
theorem d_Md_meet_49 : decode b_Md_meet 49 = .ok (.iastore, 1) := by decide +kernel
theorem d_Md_meet_50 : decode b_Md_meet 50 = .ok (.aload_n 0, 1) := by decide +kernel
theorem d_Md_meet_51 : decode b_Md_meet 51 = .ok (.dup, 1) := by decide +kernel
theorem d_Md_meet_52 : decode b_Md_meet 52 = .ok (.getfield 109, 3) := by decide +kernel
theorem d_Md_meet_55 : decode b_Md_meet 55 = .ok (.iconst 1, 1) := by decide +kernel
theorem d_Md_meet_56 : decode b_Md_meet 56 = .ok (.iadd, 1) := by decide +kernel
theorem d_Md_meet_57 : decode b_Md_meet 57 = .ok (.putfield 109, 3) := by decide +kernel
theorem d_Md_meet_60 : decode b_Md_meet 60 = .ok (.return_, 1) := by decide +kernel
theorem d_Md_search_0 : decode b_Md_search 0 = .ok (.iconst 0, 1) := by decide +kernel
theorem d_Md_search_1 : decode b_Md_search 1 = .ok (.istore 4, 2) := by decide +kernel
theorem d_Md_search_3 : decode b_Md_search 3 = .ok (.iload 4, 2) := by decide +kernel
theorem d_Md_search_5 : decode b_Md_search 5 = .ok (.sipush 256, 3) := by decide +kernel
theorem d_Md_search_8 : decode b_Md_search 8 = .ok (.if_icmp .ge 17, 3) := by decide +kernel
theorem d_Md_search_11 : decode b_Md_search 11 = .ok (.aload_n 0, 1) := by decide +kernel
theorem d_Md_search_12 : decode b_Md_search 12 = .ok (.getfield 71, 3) := by decide +kernel
theorem d_Md_search_15 : decode b_Md_search 15 = .ok (.iload 4, 2) := by decide +kernel
theorem d_Md_search_17 : decode b_Md_search 17 = .ok (.lconst 0, 1) := by decide +kernel
theorem d_Md_search_18 : decode b_Md_search 18 = .ok (.lastore, 1) := by decide +kernel
theorem d_Md_search_19 : decode b_Md_search 19 = .ok (.iinc 4 1, 3) := by decide +kernel
theorem d_Md_search_22 : decode b_Md_search 22 = .ok (.goto (-19), 3) := by decide +kernel
theorem d_Md_search_25 : decode b_Md_search 25 = .ok (.aload_n 0, 1) := by decide +kernel
theorem d_Md_search_26 : decode b_Md_search 26 = .ok (.iconst 0, 1) := by decide +kernel
theorem d_Md_search_27 : decode b_Md_search 27 = .ok (.putfield 109, 3) := by decide +kernel
theorem d_Md_search_30 : decode b_Md_search 30 = .ok (.aload_n 0, 1) := by decide +kernel
theorem d_Md_search_31 : decode b_Md_search 31 = .ok (.iload_n 1, 1) := by decide +kernel
theorem d_Md_search_32 : decode b_Md_search 32 = .ok (.invokevirtual 112, 3) := by decide +kernel
theorem d_Md_search_35 : decode b_Md_search 35 = .ok (.iconst 0, 1) := by decide +kernel
theorem d_Md_search_36 : decode b_Md_search 36 = .ok (.istore 4, 2) := by decide +kernel
theorem d_Md_search_38 : decode b_Md_search 38 = .ok (.iload 4, 2) := by decide +kernel
theorem d_Md_search_40 : decode b_Md_search 40 = .ok (.aload_n 0, 1) := by decide +kernel
theorem d_Md_search_41 : decode b_Md_search 41 = .ok (.getfield 109, 3) := by decide +kernel
theorem d_Md_search_44 : decode b_Md_search 44 = .ok (.if_icmp .ge 99, 3) := by decide +kernel
theorem d_Md_search_47 : decode b_Md_search 47 = .ok (.aload_n 0, 1) := by decide +kernel
theorem d_Md_search_48 : decode b_Md_search 48 = .ok (.getfield 75, 3) := by decide +kernel
theorem d_Md_search_51 : decode b_Md_search 51 = .ok (.iload 4, 2) := by decide +kernel
theorem d_Md_search_53 : decode b_Md_search 53 = .ok (.iaload, 1) := by decide +kernel
theorem d_Md_search_54 : decode b_Md_search 54 = .ok (.istore 5, 2) := by decide +kernel
theorem d_Md_search_56 : decode b_Md_search 56 = .ok (.iload 5, 2) := by decide +kernel
theorem d_Md_search_58 : decode b_Md_search 58 = .ok (.iload_n 2, 1) := by decide +kernel
theorem d_Md_search_59 : decode b_Md_search 59 = .ok (.iand, 1) := by decide +kernel
theorem d_Md_search_60 : decode b_Md_search 60 = .ok (.iload_n 2, 1) := by decide +kernel
theorem d_Md_search_61 : decode b_Md_search 61 = .ok (.if_icmp .ne 5, 3) := by decide +kernel
theorem d_Md_search_64 : decode b_Md_search 64 = .ok (.iconst 1, 1) := by decide +kernel
theorem d_Md_search_65 : decode b_Md_search 65 = .ok (.ireturn, 1) := by decide +kernel
theorem d_Md_search_66 : decode b_Md_search 66 = .ok (.iconst 0, 1) := by decide +kernel
theorem d_Md_search_67 : decode b_Md_search 67 = .ok (.istore 6, 2) := by decide +kernel
theorem d_Md_search_69 : decode b_Md_search 69 = .ok (.iload 6, 2) := by decide +kernel
theorem d_Md_search_71 : decode b_Md_search 71 = .ok (.bipush 6, 2) := by decide +kernel
theorem d_Md_search_73 : decode b_Md_search 73 = .ok (.if_icmp .ge 64, 3) := by decide +kernel
theorem d_Md_search_76 : decode b_Md_search 76 = .ok (.iconst 0, 1) := by decide +kernel
theorem d_Md_search_77 : decode b_Md_search 77 = .ok (.istore 7, 2) := by decide +kernel
theorem d_Md_search_79 : decode b_Md_search 79 = .ok (.iload 7, 2) := by decide +kernel
theorem d_Md_search_81 : decode b_Md_search 81 = .ok (.bipush 10, 2) := by decide +kernel
theorem d_Md_search_83 : decode b_Md_search 83 = .ok (.if_icmp .ge 48, 3) := by decide +kernel
theorem d_Md_search_86 : decode b_Md_search 86 = .ok (.aload_n 0, 1) := by decide +kernel
theorem d_Md_search_87 : decode b_Md_search 87 = .ok (.getfield 7, 3) := by decide +kernel
theorem d_Md_search_90 : decode b_Md_search 90 = .ok (.iload 6, 2) := by decide +kernel
theorem d_Md_search_92 : decode b_Md_search 92 = .ok (.baload, 1) := by decide +kernel
theorem d_Md_search_93 : decode b_Md_search 93 = .ok (.ifCond .eq 38, 3) := by decide +kernel
theorem d_Md_search_96 : decode b_Md_search 96 = .ok (.iload 6, 2) := by decide +kernel
theorem d_Md_search_98 : decode b_Md_search 98 = .ok (.iload_n 3, 1) := by decide +kernel
theorem d_Md_search_99 : decode b_Md_search 99 = .ok (.if_icmp .eq 32, 3) := by decide +kernel
theorem d_Md_search_102 : decode b_Md_search 102 = .ok (.aload_n 0, 1) := by decide +kernel
theorem d_Md_search_103 : decode b_Md_search 103 = .ok (.iload 5, 2) := by decide +kernel
theorem d_Md_search_105 : decode b_Md_search 105 = .ok (.iload 6, 2) := by decide +kernel
theorem d_Md_search_107 : decode b_Md_search 107 = .ok (.iload 7, 2) := by decide +kernel
theorem d_Md_search_109 : decode b_Md_search 109 = .ok (.invokevirtual 116, 3) := by decide +kernel
theorem d_Md_search_112 : decode b_Md_search 112 = .ok (.istore 8, 2) := by decide +kernel
theorem d_Md_search_114 : decode b_Md_search 114 = .ok (.iload 8, 2) := by decide +kernel
theorem d_Md_search_116 : decode b_Md_search 116 = .ok (.ifCond .lt 9, 3) := by decide +kernel
theorem d_Md_search_119 : decode b_Md_search 119 = .ok (.aload_n 0, 1) := by decide +kernel
theorem d_Md_search_120 : decode b_Md_search 120 = .ok (.iload 8, 2) := by decide +kernel
theorem d_Md_search_122 : decode b_Md_search 122 = .ok (.invokevirtual 112, 3) := by decide +kernel
theorem d_Md_search_125 : decode b_Md_search 125 = .ok (.iinc 7 1, 3) := by decide +kernel
theorem d_Md_search_128 : decode b_Md_search 128 = .ok (.goto (-49), 3) := by decide +kernel
theorem d_Md_search_131 : decode b_Md_search 131 = .ok (.iinc 6 1, 3) := by decide +kernel
theorem d_Md_search_134 : decode b_Md_search 134 = .ok (.goto (-65), 3) := by decide +kernel
theorem d_Md_search_137 : decode b_Md_search 137 = .ok (.iinc 4 1, 3) := by decide +kernel
theorem d_Md_search_140 : decode b_Md_search 140 = .ok (.goto (-102), 3) := by decide +kernel
theorem d_Md_search_143 : decode b_Md_search 143 = .ok (.iconst 0, 1) := by decide +kernel
theorem d_Md_search_144 : decode b_Md_search 144 = .ok (.ireturn, 1) := by decide +kernel
theorem d_Md_covers_0 : decode b_Md_covers 0 = .ok (.iload_n 1, 1) := by decide +kernel
theorem d_Md_covers_1 : decode b_Md_covers 1 = .ok (.invokestatic 102, 3) := by decide +kernel
theorem d_Md_covers_4 : decode b_Md_covers 4 = .ok (.ifCond .eq 20, 3) := by decide +kernel
theorem d_Md_covers_7 : decode b_Md_covers 7 = .ok (.iload_n 2, 1) := by decide +kernel
theorem d_Md_covers_8 : decode b_Md_covers 8 = .ok (.invokestatic 102, 3) := by decide +kernel
theorem d_Md_covers_11 : decode b_Md_covers 11 = .ok (.ifCond .eq 13, 3) := by decide +kernel
theorem d_Md_covers_14 : decode b_Md_covers 14 = .ok (.iload_n 3, 1) := by decide +kernel
theorem d_Md_covers_15 : decode b_Md_covers 15 = .ok (.iconst (-1), 1) := by decide +kernel
theorem d_Md_covers_16 : decode b_Md_covers 16 = .ok (.if_icmp .lt 8, 3) := by decide +kernel
theorem d_Md_covers_19 : decode b_Md_covers 19 = .ok (.iload_n 3, 1) := by decide +kernel
theorem d_Md_covers_20 : decode b_Md_covers 20 = .ok (.iconst 5, 1) := by decide +kernel
theorem d_Md_covers_21 : decode b_Md_covers 21 = .ok (.if_icmp .le 5, 3) := by decide +kernel
theorem d_Md_covers_24 : decode b_Md_covers 24 = .ok (.iconst (-1), 1) := by decide +kernel
theorem d_Md_covers_25 : decode b_Md_covers 25 = .ok (.ireturn, 1) := by decide +kernel
theorem d_Md_covers_26 : decode b_Md_covers 26 = .ok (.aload_n 0, 1) := by decide +kernel
theorem d_Md_covers_27 : decode b_Md_covers 27 = .ok (.iload_n 1, 1) := by decide +kernel
theorem d_Md_covers_28 : decode b_Md_covers 28 = .ok (.iload_n 2, 1) := by decide +kernel
theorem d_Md_covers_29 : decode b_Md_covers 29 = .ok (.iload_n 3, 1) := by decide +kernel
theorem d_Md_covers_30 : decode b_Md_covers 30 = .ok (.invokevirtual 120, 3) := by decide +kernel
theorem d_Md_covers_33 : decode b_Md_covers 33 = .ok (.ifCond .eq 7, 3) := by decide +kernel
theorem d_Md_covers_36 : decode b_Md_covers 36 = .ok (.iconst 1, 1) := by decide +kernel
theorem d_Md_covers_37 : decode b_Md_covers 37 = .ok (.goto 4, 3) := by decide +kernel
theorem d_Md_covers_40 : decode b_Md_covers 40 = .ok (.iconst 0, 1) := by decide +kernel
theorem d_Md_covers_41 : decode b_Md_covers 41 = .ok (.ireturn, 1) := by decide +kernel
theorem d_Md_launch_0 : decode b_Md_launch 0 = .ok (.aload_n 0, 1) := by decide +kernel
theorem d_Md_launch_1 : decode b_Md_launch 1 = .ok (.getfield 89, 3) := by decide +kernel
theorem d_Md_launch_4 : decode b_Md_launch 4 = .ok (.ifCond .ne 10, 3) := by decide +kernel
theorem d_Md_launch_7 : decode b_Md_launch 7 = .ok (.aload_n 0, 1) := by decide +kernel
theorem d_Md_launch_8 : decode b_Md_launch 8 = .ok (.invokevirtual 124, 3) := by decide +kernel
theorem d_Md_launch_11 : decode b_Md_launch 11 = .ok (.ifCond .ne 5, 3) := by decide +kernel
theorem d_Md_launch_14 : decode b_Md_launch 14 = .ok (.iconst 0, 1) := by decide +kernel
theorem d_Md_launch_15 : decode b_Md_launch 15 = .ok (.ireturn, 1) := by decide +kernel
theorem d_Md_launch_16 : decode b_Md_launch 16 = .ok (.aload_n 0, 1) := by decide +kernel
theorem d_Md_launch_17 : decode b_Md_launch 17 = .ok (.iconst 1, 1) := by decide +kernel
theorem d_Md_launch_18 : decode b_Md_launch 18 = .ok (.putfield 89, 3) := by decide +kernel
theorem d_Md_launch_21 : decode b_Md_launch 21 = .ok (.aload_n 0, 1) := by decide +kernel
theorem d_Md_launch_22 : decode b_Md_launch 22 = .ok (.iconst 1, 1) := by decide +kernel
theorem d_Md_launch_23 : decode b_Md_launch 23 = .ok (.putfield 85, 3) := by decide +kernel
theorem d_Md_launch_26 : decode b_Md_launch 26 = .ok (.iconst 1, 1) := by decide +kernel
theorem d_Md_launch_27 : decode b_Md_launch 27 = .ok (.ireturn, 1) := by decide +kernel
theorem d_Md_stop_0 : decode b_Md_stop 0 = .ok (.aload_n 0, 1) := by decide +kernel
theorem d_Md_stop_1 : decode b_Md_stop 1 = .ok (.getfield 68, 3) := by decide +kernel
theorem d_Md_stop_4 : decode b_Md_stop 4 = .ok (.iload_n 1, 1) := by decide +kernel
theorem d_Md_stop_5 : decode b_Md_stop 5 = .ok (.iaload, 1) := by decide +kernel
theorem d_Md_stop_6 : decode b_Md_stop 6 = .ok (.istore_n 2, 1) := by decide +kernel
theorem d_Md_stop_7 : decode b_Md_stop 7 = .ok (.iload_n 2, 1) := by decide +kernel
theorem d_Md_stop_8 : decode b_Md_stop 8 = .ok (.aload_n 0, 1) := by decide +kernel
theorem d_Md_stop_9 : decode b_Md_stop 9 = .ok (.getfield 128, 3) := by decide +kernel
theorem d_Md_stop_12 : decode b_Md_stop 12 = .ok (.if_icmp .gt 40, 3) := by decide +kernel
theorem d_Md_stop_15 : decode b_Md_stop 15 = .ok (.iload_n 2, 1) := by decide +kernel
theorem d_Md_stop_16 : decode b_Md_stop 16 = .ok (.ifCond .le 36, 3) := by decide +kernel
theorem d_Md_stop_19 : decode b_Md_stop 19 = .ok (.aload_n 0, 1) := by decide +kernel
theorem d_Md_stop_20 : decode b_Md_stop 20 = .ok (.getfield 59, 3) := by decide +kernel
theorem d_Md_stop_23 : decode b_Md_stop 23 = .ok (.iload_n 2, 1) := by decide +kernel
theorem d_Md_stop_24 : decode b_Md_stop 24 = .ok (.iaload, 1) := by decide +kernel
theorem d_Md_stop_25 : decode b_Md_stop 25 = .ok (.iload_n 1, 1) := by decide +kernel
theorem d_Md_stop_26 : decode b_Md_stop 26 = .ok (.if_icmp .ne 20, 3) := by decide +kernel
theorem d_Md_stop_29 : decode b_Md_stop 29 = .ok (.aload_n 0, 1) := by decide +kernel
theorem d_Md_stop_30 : decode b_Md_stop 30 = .ok (.getfield 62, 3) := by decide +kernel
theorem d_Md_stop_33 : decode b_Md_stop 33 = .ok (.iload_n 2, 1) := by decide +kernel
theorem d_Md_stop_34 : decode b_Md_stop 34 = .ok (.iaload, 1) := by decide +kernel
theorem d_Md_stop_35 : decode b_Md_stop 35 = .ok (.iconst 2, 1) := by decide +kernel
theorem d_Md_stop_36 : decode b_Md_stop 36 = .ok (.if_icmp .gt 10, 3) := by decide +kernel
theorem d_Md_stop_39 : decode b_Md_stop 39 = .ok (.aload_n 0, 1) := by decide +kernel
theorem d_Md_stop_40 : decode b_Md_stop 40 = .ok (.getfield 62, 3) := by decide +kernel
theorem d_Md_stop_43 : decode b_Md_stop 43 = .ok (.iload_n 2, 1) := by decide +kernel
theorem d_Md_stop_44 : decode b_Md_stop 44 = .ok (.iconst 5, 1) := by decide +kernel
theorem d_Md_stop_45 : decode b_Md_stop 45 = .ok (.iastore, 1) := by decide +kernel
theorem d_Md_stop_46 : decode b_Md_stop 46 = .ok (.iinc 2 1, 3) := by decide +kernel
theorem d_Md_stop_49 : decode b_Md_stop 49 = .ok (.goto (-42), 3) := by decide +kernel
theorem d_Md_stop_52 : decode b_Md_stop 52 = .ok (.aload_n 0, 1) := by decide +kernel
theorem d_Md_stop_53 : decode b_Md_stop 53 = .ok (.dup, 1) := by decide +kernel
theorem d_Md_stop_54 : decode b_Md_stop 54 = .ok (.getfield 85, 3) := by decide +kernel
theorem d_Md_stop_57 : decode b_Md_stop 57 = .ok (.iconst 1, 1) := by decide +kernel
theorem d_Md_stop_58 : decode b_Md_stop 58 = .ok (.bipush 8, 2) := by decide +kernel
theorem d_Md_stop_60 : decode b_Md_stop 60 = .ok (.iload_n 1, 1) := by decide +kernel
theorem d_Md_stop_61 : decode b_Md_stop 61 = .ok (.iadd, 1) := by decide +kernel
theorem d_Md_stop_62 : decode b_Md_stop 62 = .ok (.ishl, 1) := by decide +kernel
theorem d_Md_stop_63 : decode b_Md_stop 63 = .ok (.iconst (-1), 1) := by decide +kernel
theorem d_Md_stop_64 : decode b_Md_stop 64 = .ok (.ixor, 1) := by decide +kernel
theorem d_Md_stop_65 : decode b_Md_stop 65 = .ok (.iand, 1) := by decide +kernel
theorem d_Md_stop_66 : decode b_Md_stop 66 = .ok (.putfield 85, 3) := by decide +kernel
theorem d_Md_stop_69 : decode b_Md_stop 69 = .ok (.return_, 1) := by decide +kernel
theorem d_Md_cancel_0 : decode b_Md_cancel 0 = .ok (.aload_n 0, 1) := by decide +kernel
theorem d_Md_cancel_1 : decode b_Md_cancel 1 = .ok (.getfield 89, 3) := by decide +kernel
theorem d_Md_cancel_4 : decode b_Md_cancel 4 = .ok (.ifCond .ne 5, 3) := by decide +kernel
theorem d_Md_cancel_7 : decode b_Md_cancel 7 = .ok (.iconst 0, 1) := by decide +kernel
theorem d_Md_cancel_8 : decode b_Md_cancel 8 = .ok (.ireturn, 1) := by decide +kernel
theorem d_Md_cancel_9 : decode b_Md_cancel 9 = .ok (.iconst 0, 1) := by decide +kernel
theorem d_Md_cancel_10 : decode b_Md_cancel 10 = .ok (.istore_n 1, 1) := by decide +kernel
theorem d_Md_cancel_11 : decode b_Md_cancel 11 = .ok (.iload_n 1, 1) := by decide +kernel
theorem d_Md_cancel_12 : decode b_Md_cancel 12 = .ok (.bipush 6, 2) := by decide +kernel
theorem d_Md_cancel_14 : decode b_Md_cancel 14 = .ok (.if_icmp .ge 22, 3) := by decide +kernel
theorem d_Md_cancel_17 : decode b_Md_cancel 17 = .ok (.aload_n 0, 1) := by decide +kernel
theorem d_Md_cancel_18 : decode b_Md_cancel 18 = .ok (.iload_n 1, 1) := by decide +kernel
theorem d_Md_cancel_19 : decode b_Md_cancel 19 = .ok (.invokevirtual 131, 3) := by decide +kernel
theorem d_Md_cancel_22 : decode b_Md_cancel 22 = .ok (.ifCond .eq 8, 3) := by decide +kernel
theorem d_Md_cancel_25 : decode b_Md_cancel 25 = .ok (.aload_n 0, 1) := by decide +kernel
theorem d_Md_cancel_26 : decode b_Md_cancel 26 = .ok (.iload_n 1, 1) := by decide +kernel
theorem d_Md_cancel_27 : decode b_Md_cancel 27 = .ok (.invokevirtual 134, 3) := by decide +kernel
theorem d_Md_cancel_30 : decode b_Md_cancel 30 = .ok (.iinc 1 1, 3) := by decide +kernel
theorem d_Md_cancel_33 : decode b_Md_cancel 33 = .ok (.goto (-22), 3) := by decide +kernel
theorem d_Md_cancel_36 : decode b_Md_cancel 36 = .ok (.aload_n 0, 1) := by decide +kernel
theorem d_Md_cancel_37 : decode b_Md_cancel 37 = .ok (.iconst 0, 1) := by decide +kernel
theorem d_Md_cancel_38 : decode b_Md_cancel 38 = .ok (.putfield 85, 3) := by decide +kernel
theorem d_Md_cancel_41 : decode b_Md_cancel 41 = .ok (.aload_n 0, 1) := by decide +kernel
theorem d_Md_cancel_42 : decode b_Md_cancel 42 = .ok (.iconst 0, 1) := by decide +kernel
theorem d_Md_cancel_43 : decode b_Md_cancel 43 = .ok (.putfield 89, 3) := by decide +kernel
theorem d_Md_cancel_46 : decode b_Md_cancel 46 = .ok (.iconst 1, 1) := by decide +kernel
theorem d_Md_cancel_47 : decode b_Md_cancel 47 = .ok (.ireturn, 1) := by decide +kernel
theorem d_Md_isLast_0 : decode b_Md_isLast 0 = .ok (.aload_n 0, 1) := by decide +kernel
theorem d_Md_isLast_1 : decode b_Md_isLast 1 = .ok (.getfield 20, 3) := by decide +kernel
theorem d_Md_isLast_4 : decode b_Md_isLast 4 = .ok (.iload_n 1, 1) := by decide +kernel
theorem d_Md_isLast_5 : decode b_Md_isLast 5 = .ok (.iaload, 1) := by decide +kernel
theorem d_Md_isLast_6 : decode b_Md_isLast 6 = .ok (.aload_n 0, 1) := by decide +kernel
theorem d_Md_isLast_7 : decode b_Md_isLast 7 = .ok (.getfield 85, 3) := by decide +kernel
theorem d_Md_isLast_10 : decode b_Md_isLast 10 = .ok (.iand, 1) := by decide +kernel
theorem d_Md_isLast_11 : decode b_Md_isLast 11 = .ok (.istore_n 2, 1) := by decide +kernel
theorem d_Md_isLast_12 : decode b_Md_isLast 12 = .ok (.iconst 0, 1) := by decide +kernel
theorem d_Md_isLast_13 : decode b_Md_isLast 13 = .ok (.istore_n 3, 1) := by decide +kernel
theorem d_Md_isLast_14 : decode b_Md_isLast 14 = .ok (.iload_n 3, 1) := by decide +kernel
theorem d_Md_isLast_15 : decode b_Md_isLast 15 = .ok (.iconst 3, 1) := by decide +kernel
theorem d_Md_isLast_16 : decode b_Md_isLast 16 = .ok (.if_icmp .ge 51, 3) := by decide +kernel
theorem d_Md_isLast_19 : decode b_Md_isLast 19 = .ok (.aload_n 0, 1) := by decide +kernel
theorem d_Md_isLast_20 : decode b_Md_isLast 20 = .ok (.getfield 26, 3) := by decide +kernel
theorem d_Md_isLast_23 : decode b_Md_isLast 23 = .ok (.iconst 3, 1) := by decide +kernel
theorem d_Md_isLast_24 : decode b_Md_isLast 24 = .ok (.iload_n 1, 1) := by decide +kernel
theorem d_Md_isLast_25 : decode b_Md_isLast 25 = .ok (.imul, 1) := by decide +kernel
theorem d_Md_isLast_26 : decode b_Md_isLast 26 = .ok (.iload_n 3, 1) := by decide +kernel
theorem d_Md_isLast_27 : decode b_Md_isLast 27 = .ok (.iadd, 1) := by decide +kernel
theorem d_Md_isLast_28 : decode b_Md_isLast 28 = .ok (.iaload, 1) := by decide +kernel
theorem d_Md_isLast_29 : decode b_Md_isLast 29 = .ok (.istore 4, 2) := by decide +kernel
theorem d_Md_isLast_31 : decode b_Md_isLast 31 = .ok (.iload 4, 2) := by decide +kernel
theorem d_Md_isLast_33 : decode b_Md_isLast 33 = .ok (.ifCond .eq 28, 3) := by decide +kernel
theorem d_Md_isLast_36 : decode b_Md_isLast 36 = .ok (.iload_n 2, 1) := by decide +kernel
theorem d_Md_isLast_37 : decode b_Md_isLast 37 = .ok (.iload 4, 2) := by decide +kernel
theorem d_Md_isLast_39 : decode b_Md_isLast 39 = .ok (.iand, 1) := by decide +kernel
theorem d_Md_isLast_40 : decode b_Md_isLast 40 = .ok (.ifCond .ne 21, 3) := by decide +kernel
theorem d_Md_isLast_43 : decode b_Md_isLast 43 = .ok (.aload_n 0, 1) := by decide +kernel
theorem d_Md_isLast_44 : decode b_Md_isLast 44 = .ok (.aload_n 0, 1) := by decide +kernel
theorem d_Md_isLast_45 : decode b_Md_isLast 45 = .ok (.getfield 85, 3) := by decide +kernel
theorem d_Md_isLast_48 : decode b_Md_isLast 48 = .ok (.iload_n 2, 1) := by decide +kernel
theorem d_Md_isLast_49 : decode b_Md_isLast 49 = .ok (.iload 4, 2) := by decide +kernel
theorem d_Md_isLast_51 : decode b_Md_isLast 51 = .ok (.ior, 1) := by decide +kernel
theorem d_Md_isLast_52 : decode b_Md_isLast 52 = .ok (.iload_n 1, 1) := by decide +kernel
theorem d_Md_isLast_53 : decode b_Md_isLast 53 = .ok (.invokevirtual 120, 3) := by decide +kernel
theorem d_Md_isLast_56 : decode b_Md_isLast 56 = .ok (.ifCond .eq 5, 3) := by decide +kernel
theorem d_Md_isLast_59 : decode b_Md_isLast 59 = .ok (.iconst 0, 1) := by decide +kernel
theorem d_Md_isLast_60 : decode b_Md_isLast 60 = .ok (.ireturn, 1) := by decide +kernel
theorem d_Md_isLast_61 : decode b_Md_isLast 61 = .ok (.iinc 3 1, 3) := by decide +kernel
theorem d_Md_isLast_64 : decode b_Md_isLast 64 = .ok (.goto (-50), 3) := by decide +kernel
theorem d_Md_isLast_67 : decode b_Md_isLast 67 = .ok (.iconst 1, 1) := by decide +kernel
theorem d_Md_isLast_68 : decode b_Md_isLast 68 = .ok (.ireturn, 1) := by decide +kernel
end
section
theorem d_Md_isEnabled_0 : decode b_Md_isEnabled 0 = .ok (.aload_n 0, 1) := by decide +kernel
theorem d_Md_isEnabled_1 : decode b_Md_isEnabled 1 = .ok (.getfield 89, 3) := by decide +kernel
theorem d_Md_isEnabled_4 : decode b_Md_isEnabled 4 = .ok (.ifCond .eq 20, 3) := by decide +kernel
theorem d_Md_isEnabled_7 : decode b_Md_isEnabled 7 = .ok (.aload_n 0, 1) := by decide +kernel
theorem d_Md_isEnabled_8 : decode b_Md_isEnabled 8 = .ok (.getfield 7, 3) := by decide +kernel
theorem d_Md_isEnabled_11 : decode b_Md_isEnabled 11 = .ok (.iload_n 1, 1) := by decide +kernel
theorem d_Md_isEnabled_12 : decode b_Md_isEnabled 12 = .ok (.baload, 1) := by decide +kernel
theorem d_Md_isEnabled_13 : decode b_Md_isEnabled 13 = .ok (.ifCond .eq 11, 3) := by decide +kernel
theorem d_Md_isEnabled_16 : decode b_Md_isEnabled 16 = .ok (.aload_n 0, 1) := by decide +kernel
theorem d_Md_isEnabled_17 : decode b_Md_isEnabled 17 = .ok (.iload_n 1, 1) := by decide +kernel
theorem d_Md_isEnabled_18 : decode b_Md_isEnabled 18 = .ok (.invokevirtual 131, 3) := by decide +kernel
theorem d_Md_isEnabled_21 : decode b_Md_isEnabled 21 = .ok (.ifCond .eq 5, 3) := by decide +kernel
theorem d_Md_isEnabled_24 : decode b_Md_isEnabled 24 = .ok (.iconst 0, 1) := by decide +kernel
theorem d_Md_isEnabled_25 : decode b_Md_isEnabled 25 = .ok (.ireturn, 1) := by decide +kernel
theorem d_Md_isEnabled_26 : decode b_Md_isEnabled 26 = .ok (.aload_n 0, 1) := by decide +kernel
theorem d_Md_isEnabled_27 : decode b_Md_isEnabled 27 = .ok (.getfield 20, 3) := by decide +kernel
theorem d_Md_isEnabled_30 : decode b_Md_isEnabled 30 = .ok (.iload_n 1, 1) := by decide +kernel
theorem d_Md_isEnabled_31 : decode b_Md_isEnabled 31 = .ok (.iaload, 1) := by decide +kernel
theorem d_Md_isEnabled_32 : decode b_Md_isEnabled 32 = .ok (.aload_n 0, 1) := by decide +kernel
theorem d_Md_isEnabled_33 : decode b_Md_isEnabled 33 = .ok (.getfield 85, 3) := by decide +kernel
theorem d_Md_isEnabled_36 : decode b_Md_isEnabled 36 = .ok (.iand, 1) := by decide +kernel
theorem d_Md_isEnabled_37 : decode b_Md_isEnabled 37 = .ok (.istore_n 2, 1) := by decide +kernel
theorem d_Md_isEnabled_38 : decode b_Md_isEnabled 38 = .ok (.aload_n 0, 1) := by decide +kernel
theorem d_Md_isEnabled_39 : decode b_Md_isEnabled 39 = .ok (.getfield 13, 3) := by decide +kernel
theorem d_Md_isEnabled_42 : decode b_Md_isEnabled 42 = .ok (.iload_n 1, 1) := by decide +kernel
theorem d_Md_isEnabled_43 : decode b_Md_isEnabled 43 = .ok (.iaload, 1) := by decide +kernel
theorem d_Md_isEnabled_44 : decode b_Md_isEnabled 44 = .ok (.ifCond .ne 19, 3) := by decide +kernel
theorem d_Md_isEnabled_47 : decode b_Md_isEnabled 47 = .ok (.iload_n 2, 1) := by decide +kernel
theorem d_Md_isEnabled_48 : decode b_Md_isEnabled 48 = .ok (.aload_n 0, 1) := by decide +kernel
theorem d_Md_isEnabled_49 : decode b_Md_isEnabled 49 = .ok (.getfield 20, 3) := by decide +kernel
theorem d_Md_isEnabled_52 : decode b_Md_isEnabled 52 = .ok (.iload_n 1, 1) := by decide +kernel
theorem d_Md_isEnabled_53 : decode b_Md_isEnabled 53 = .ok (.iaload, 1) := by decide +kernel
theorem d_Md_isEnabled_54 : decode b_Md_isEnabled 54 = .ok (.if_icmp .ne 7, 3) := by decide +kernel
theorem d_Md_isEnabled_57 : decode b_Md_isEnabled 57 = .ok (.iconst 1, 1) := by decide +kernel
theorem d_Md_isEnabled_58 : decode b_Md_isEnabled 58 = .ok (.goto 4, 3) := by decide +kernel
theorem d_Md_isEnabled_61 : decode b_Md_isEnabled 61 = .ok (.iconst 0, 1) := by decide +kernel
theorem d_Md_isEnabled_62 : decode b_Md_isEnabled 62 = .ok (.ireturn, 1) := by decide +kernel
theorem d_Md_isEnabled_63 : decode b_Md_isEnabled 63 = .ok (.iload_n 2, 1) := by decide +kernel
theorem d_Md_isEnabled_64 : decode b_Md_isEnabled 64 = .ok (.ifCond .eq 25, 3) := by decide +kernel
theorem d_Md_isEnabled_67 : decode b_Md_isEnabled 67 = .ok (.aload_n 0, 1) := by decide +kernel
theorem d_Md_isEnabled_68 : decode b_Md_isEnabled 68 = .ok (.getfield 13, 3) := by decide +kernel
theorem d_Md_isEnabled_71 : decode b_Md_isEnabled 71 = .ok (.iload_n 1, 1) := by decide +kernel
theorem d_Md_isEnabled_72 : decode b_Md_isEnabled 72 = .ok (.iaload, 1) := by decide +kernel
theorem d_Md_isEnabled_73 : decode b_Md_isEnabled 73 = .ok (.iconst 1, 1) := by decide +kernel
theorem d_Md_isEnabled_74 : decode b_Md_isEnabled 74 = .ok (.if_icmp .eq 11, 3) := by decide +kernel
theorem d_Md_isEnabled_77 : decode b_Md_isEnabled 77 = .ok (.aload_n 0, 1) := by decide +kernel
theorem d_Md_isEnabled_78 : decode b_Md_isEnabled 78 = .ok (.iload_n 1, 1) := by decide +kernel
theorem d_Md_isEnabled_79 : decode b_Md_isEnabled 79 = .ok (.invokevirtual 137, 3) := by decide +kernel
theorem d_Md_isEnabled_82 : decode b_Md_isEnabled 82 = .ok (.ifCond .eq 7, 3) := by decide +kernel
theorem d_Md_isEnabled_85 : decode b_Md_isEnabled 85 = .ok (.iconst 1, 1) := by decide +kernel
theorem d_Md_isEnabled_86 : decode b_Md_isEnabled 86 = .ok (.goto 4, 3) := by decide +kernel
theorem d_Md_isEnabled_89 : decode b_Md_isEnabled 89 = .ok (.iconst 0, 1) := by decide +kernel
theorem d_Md_isEnabled_90 : decode b_Md_isEnabled 90 = .ok (.ireturn, 1) := by decide +kernel
theorem d_Md_enabled_0 : decode b_Md_enabled 0 = .ok (.iconst 0, 1) := by decide +kernel
theorem d_Md_enabled_1 : decode b_Md_enabled 1 = .ok (.istore_n 1, 1) := by decide +kernel
theorem d_Md_enabled_2 : decode b_Md_enabled 2 = .ok (.iconst 0, 1) := by decide +kernel
theorem d_Md_enabled_3 : decode b_Md_enabled 3 = .ok (.istore_n 2, 1) := by decide +kernel
theorem d_Md_enabled_4 : decode b_Md_enabled 4 = .ok (.iload_n 2, 1) := by decide +kernel
theorem d_Md_enabled_5 : decode b_Md_enabled 5 = .ok (.bipush 6, 2) := by decide +kernel
theorem d_Md_enabled_7 : decode b_Md_enabled 7 = .ok (.if_icmp .ge 27, 3) := by decide +kernel
theorem d_Md_enabled_10 : decode b_Md_enabled 10 = .ok (.iload_n 1, 1) := by decide +kernel
theorem d_Md_enabled_11 : decode b_Md_enabled 11 = .ok (.aload_n 0, 1) := by decide +kernel
theorem d_Md_enabled_12 : decode b_Md_enabled 12 = .ok (.iload_n 2, 1) := by decide +kernel
theorem d_Md_enabled_13 : decode b_Md_enabled 13 = .ok (.invokevirtual 140, 3) := by decide +kernel
theorem d_Md_enabled_16 : decode b_Md_enabled 16 = .ok (.ifCond .eq 9, 3) := by decide +kernel
theorem d_Md_enabled_19 : decode b_Md_enabled 19 = .ok (.iconst 1, 1) := by decide +kernel
theorem d_Md_enabled_20 : decode b_Md_enabled 20 = .ok (.iload_n 2, 1) := by decide +kernel
theorem d_Md_enabled_21 : decode b_Md_enabled 21 = .ok (.ishl, 1) := by decide +kernel
theorem d_Md_enabled_22 : decode b_Md_enabled 22 = .ok (.goto 4, 3) := by decide +kernel
theorem d_Md_enabled_25 : decode b_Md_enabled 25 = .ok (.iconst 0, 1) := by decide +kernel
theorem d_Md_enabled_26 : decode b_Md_enabled 26 = .ok (.ior, 1) := by decide +kernel
theorem d_Md_enabled_27 : decode b_Md_enabled 27 = .ok (.istore_n 1, 1) := by decide +kernel
theorem d_Md_enabled_28 : decode b_Md_enabled 28 = .ok (.iinc 2 1, 3) := by decide +kernel
theorem d_Md_enabled_31 : decode b_Md_enabled 31 = .ok (.goto (-27), 3) := by decide +kernel
theorem d_Md_enabled_34 : decode b_Md_enabled 34 = .ok (.iload_n 1, 1) := by decide +kernel
theorem d_Md_enabled_35 : decode b_Md_enabled 35 = .ok (.ireturn, 1) := by decide +kernel
theorem d_Md_fire_0 : decode b_Md_fire 0 = .ok (.aload_n 0, 1) := by decide +kernel
theorem d_Md_fire_1 : decode b_Md_fire 1 = .ok (.iload_n 1, 1) := by decide +kernel
theorem d_Md_fire_2 : decode b_Md_fire 2 = .ok (.invokevirtual 99, 3) := by decide +kernel
theorem d_Md_fire_5 : decode b_Md_fire 5 = .ok (.ifCond .ne 5, 3) := by decide +kernel
theorem d_Md_fire_8 : decode b_Md_fire 8 = .ok (.iconst (-1), 1) := by decide +kernel
theorem d_Md_fire_9 : decode b_Md_fire 9 = .ok (.ireturn, 1) := by decide +kernel
theorem d_Md_fire_10 : decode b_Md_fire 10 = .ok (.aload_n 0, 1) := by decide +kernel
theorem d_Md_fire_11 : decode b_Md_fire 11 = .ok (.iload_n 1, 1) := by decide +kernel
theorem d_Md_fire_12 : decode b_Md_fire 12 = .ok (.invokevirtual 140, 3) := by decide +kernel
theorem d_Md_fire_15 : decode b_Md_fire 15 = .ok (.ifCond .ne 6, 3) := by decide +kernel
theorem d_Md_fire_18 : decode b_Md_fire 18 = .ok (.bipush (-2), 2) := by decide +kernel
theorem d_Md_fire_20 : decode b_Md_fire 20 = .ok (.ireturn, 1) := by decide +kernel
theorem d_Md_fire_21 : decode b_Md_fire 21 = .ok (.aload_n 0, 1) := by decide +kernel
theorem d_Md_fire_22 : decode b_Md_fire 22 = .ok (.getfield 128, 3) := by decide +kernel
theorem d_Md_fire_25 : decode b_Md_fire 25 = .ok (.aload_n 0, 1) := by decide +kernel
theorem d_Md_fire_26 : decode b_Md_fire 26 = .ok (.getfield 44, 3) := by decide +kernel
theorem d_Md_fire_29 : decode b_Md_fire 29 = .ok (.iload_n 1, 1) := by decide +kernel
theorem d_Md_fire_30 : decode b_Md_fire 30 = .ok (.iaload, 1) := by decide +kernel
theorem d_Md_fire_31 : decode b_Md_fire 31 = .ok (.iadd, 1) := by decide +kernel
theorem d_Md_fire_32 : decode b_Md_fire 32 = .ok (.bipush 60, 2) := by decide +kernel
theorem d_Md_fire_34 : decode b_Md_fire 34 = .ok (.if_icmp .le 6, 3) := by decide +kernel
theorem d_Md_fire_37 : decode b_Md_fire 37 = .ok (.bipush (-3), 2) := by decide +kernel
theorem d_Md_fire_39 : decode b_Md_fire 39 = .ok (.ireturn, 1) := by decide +kernel
theorem d_Md_fire_40 : decode b_Md_fire 40 = .ok (.aload_n 0, 1) := by decide +kernel
theorem d_Md_fire_41 : decode b_Md_fire 41 = .ok (.getfield 20, 3) := by decide +kernel
theorem d_Md_fire_44 : decode b_Md_fire 44 = .ok (.iload_n 1, 1) := by decide +kernel
theorem d_Md_fire_45 : decode b_Md_fire 45 = .ok (.iaload, 1) := by decide +kernel
theorem d_Md_fire_46 : decode b_Md_fire 46 = .ok (.aload_n 0, 1) := by decide +kernel
theorem d_Md_fire_47 : decode b_Md_fire 47 = .ok (.getfield 85, 3) := by decide +kernel
theorem d_Md_fire_50 : decode b_Md_fire 50 = .ok (.iand, 1) := by decide +kernel
theorem d_Md_fire_51 : decode b_Md_fire 51 = .ok (.istore_n 2, 1) := by decide +kernel
theorem d_Md_fire_52 : decode b_Md_fire 52 = .ok (.aload_n 0, 1) := by decide +kernel
theorem d_Md_fire_53 : decode b_Md_fire 53 = .ok (.dup, 1) := by decide +kernel
theorem d_Md_fire_54 : decode b_Md_fire 54 = .ok (.getfield 85, 3) := by decide +kernel
theorem d_Md_fire_57 : decode b_Md_fire 57 = .ok (.aload_n 0, 1) := by decide +kernel
theorem d_Md_fire_58 : decode b_Md_fire 58 = .ok (.getfield 13, 3) := by decide +kernel
theorem d_Md_fire_61 : decode b_Md_fire 61 = .ok (.iload_n 1, 1) := by decide +kernel
theorem d_Md_fire_62 : decode b_Md_fire 62 = .ok (.iaload, 1) := by decide +kernel
theorem d_Md_fire_63 : decode b_Md_fire 63 = .ok (.iconst 1, 1) := by decide +kernel
theorem d_Md_fire_64 : decode b_Md_fire 64 = .ok (.if_icmp .ne 10, 3) := by decide +kernel
theorem d_Md_fire_67 : decode b_Md_fire 67 = .ok (.iload_n 2, 1) := by decide +kernel
theorem d_Md_fire_68 : decode b_Md_fire 68 = .ok (.iload_n 2, 1) := by decide +kernel
theorem d_Md_fire_69 : decode b_Md_fire 69 = .ok (.ineg, 1) := by decide +kernel
theorem d_Md_fire_70 : decode b_Md_fire 70 = .ok (.iand, 1) := by decide +kernel
theorem d_Md_fire_71 : decode b_Md_fire 71 = .ok (.goto 4, 3) := by decide +kernel
theorem d_Md_fire_74 : decode b_Md_fire 74 = .ok (.iload_n 2, 1) := by decide +kernel
theorem d_Md_fire_75 : decode b_Md_fire 75 = .ok (.iconst (-1), 1) := by decide +kernel
theorem d_Md_fire_76 : decode b_Md_fire 76 = .ok (.ixor, 1) := by decide +kernel
theorem d_Md_fire_77 : decode b_Md_fire 77 = .ok (.iand, 1) := by decide +kernel
theorem d_Md_fire_78 : decode b_Md_fire 78 = .ok (.putfield 85, 3) := by decide +kernel
theorem d_Md_fire_81 : decode b_Md_fire 81 = .ok (.aload_n 0, 1) := by decide +kernel
theorem d_Md_fire_82 : decode b_Md_fire 82 = .ok (.dup, 1) := by decide +kernel
theorem d_Md_fire_83 : decode b_Md_fire 83 = .ok (.getfield 85, 3) := by decide +kernel
theorem d_Md_fire_86 : decode b_Md_fire 86 = .ok (.iconst 1, 1) := by decide +kernel
theorem d_Md_fire_87 : decode b_Md_fire 87 = .ok (.bipush 8, 2) := by decide +kernel
theorem d_Md_fire_89 : decode b_Md_fire 89 = .ok (.iload_n 1, 1) := by decide +kernel
theorem d_Md_fire_90 : decode b_Md_fire 90 = .ok (.iadd, 1) := by decide +kernel
theorem d_Md_fire_91 : decode b_Md_fire 91 = .ok (.ishl, 1) := by decide +kernel
theorem d_Md_fire_92 : decode b_Md_fire 92 = .ok (.ior, 1) := by decide +kernel
theorem d_Md_fire_93 : decode b_Md_fire 93 = .ok (.putfield 85, 3) := by decide +kernel
theorem d_Md_fire_96 : decode b_Md_fire 96 = .ok (.aload_n 0, 1) := by decide +kernel
theorem d_Md_fire_97 : decode b_Md_fire 97 = .ok (.getfield 68, 3) := by decide +kernel
theorem d_Md_fire_100 : decode b_Md_fire 100 = .ok (.iload_n 1, 1) := by decide +kernel
theorem d_Md_fire_101 : decode b_Md_fire 101 = .ok (.aload_n 0, 1) := by decide +kernel
theorem d_Md_fire_102 : decode b_Md_fire 102 = .ok (.getfield 128, 3) := by decide +kernel
theorem d_Md_fire_105 : decode b_Md_fire 105 = .ok (.iconst 1, 1) := by decide +kernel
theorem d_Md_fire_106 : decode b_Md_fire 106 = .ok (.iadd, 1) := by decide +kernel
theorem d_Md_fire_107 : decode b_Md_fire 107 = .ok (.iastore, 1) := by decide +kernel
theorem d_Md_fire_108 : decode b_Md_fire 108 = .ok (.iconst 0, 1) := by decide +kernel
theorem d_Md_fire_109 : decode b_Md_fire 109 = .ok (.istore_n 3, 1) := by decide +kernel
theorem d_Md_fire_110 : decode b_Md_fire 110 = .ok (.iload_n 3, 1) := by decide +kernel
theorem d_Md_fire_111 : decode b_Md_fire 111 = .ok (.aload_n 0, 1) := by decide +kernel
theorem d_Md_fire_112 : decode b_Md_fire 112 = .ok (.getfield 44, 3) := by decide +kernel
theorem d_Md_fire_115 : decode b_Md_fire 115 = .ok (.iload_n 1, 1) := by decide +kernel
theorem d_Md_fire_116 : decode b_Md_fire 116 = .ok (.iaload, 1) := by decide +kernel
theorem d_Md_fire_117 : decode b_Md_fire 117 = .ok (.if_icmp .ge 52, 3) := by decide +kernel
theorem d_Md_fire_120 : decode b_Md_fire 120 = .ok (.aload_n 0, 1) := by decide +kernel
theorem d_Md_fire_121 : decode b_Md_fire 121 = .ok (.dup, 1) := by decide +kernel
theorem d_Md_fire_122 : decode b_Md_fire 122 = .ok (.getfield 128, 3) := by decide +kernel
theorem d_Md_fire_125 : decode b_Md_fire 125 = .ok (.iconst 1, 1) := by decide +kernel
theorem d_Md_fire_126 : decode b_Md_fire 126 = .ok (.iadd, 1) := by decide +kernel
theorem d_Md_fire_127 : decode b_Md_fire 127 = .ok (.putfield 128, 3) := by decide +kernel
theorem d_Md_fire_130 : decode b_Md_fire 130 = .ok (.aload_n 0, 1) := by decide +kernel
theorem d_Md_fire_131 : decode b_Md_fire 131 = .ok (.getfield 59, 3) := by decide +kernel
theorem d_Md_fire_134 : decode b_Md_fire 134 = .ok (.aload_n 0, 1) := by decide +kernel
theorem d_Md_fire_135 : decode b_Md_fire 135 = .ok (.getfield 128, 3) := by decide +kernel
theorem d_Md_fire_138 : decode b_Md_fire 138 = .ok (.iload_n 1, 1) := by decide +kernel
theorem d_Md_fire_139 : decode b_Md_fire 139 = .ok (.iastore, 1) := by decide +kernel
theorem d_Md_fire_140 : decode b_Md_fire 140 = .ok (.aload_n 0, 1) := by decide +kernel
theorem d_Md_fire_141 : decode b_Md_fire 141 = .ok (.getfield 62, 3) := by decide +kernel
theorem d_Md_fire_144 : decode b_Md_fire 144 = .ok (.aload_n 0, 1) := by decide +kernel
theorem d_Md_fire_145 : decode b_Md_fire 145 = .ok (.getfield 128, 3) := by decide +kernel
theorem d_Md_fire_148 : decode b_Md_fire 148 = .ok (.iconst 1, 1) := by decide +kernel
theorem d_Md_fire_149 : decode b_Md_fire 149 = .ok (.iastore, 1) := by decide +kernel
theorem d_Md_fire_150 : decode b_Md_fire 150 = .ok (.aload_n 0, 1) := by decide +kernel
theorem d_Md_fire_151 : decode b_Md_fire 151 = .ok (.getfield 65, 3) := by decide +kernel
theorem d_Md_fire_154 : decode b_Md_fire 154 = .ok (.aload_n 0, 1) := by decide +kernel
theorem d_Md_fire_155 : decode b_Md_fire 155 = .ok (.getfield 128, 3) := by decide +kernel
theorem d_Md_fire_158 : decode b_Md_fire 158 = .ok (.aload_n 0, 1) := by decide +kernel
theorem d_Md_fire_159 : decode b_Md_fire 159 = .ok (.getfield 143, 3) := by decide +kernel
theorem d_Md_fire_162 : decode b_Md_fire 162 = .ok (.iastore, 1) := by decide +kernel
theorem d_Md_fire_163 : decode b_Md_fire 163 = .ok (.iinc 3 1, 3) := by decide +kernel
theorem d_Md_fire_166 : decode b_Md_fire 166 = .ok (.goto (-56), 3) := by decide +kernel
theorem d_Md_fire_169 : decode b_Md_fire 169 = .ok (.aload_n 0, 1) := by decide +kernel
theorem d_Md_fire_170 : decode b_Md_fire 170 = .ok (.getfield 68, 3) := by decide +kernel
theorem d_Md_fire_173 : decode b_Md_fire 173 = .ok (.iload_n 1, 1) := by decide +kernel
theorem d_Md_fire_174 : decode b_Md_fire 174 = .ok (.iaload, 1) := by decide +kernel
theorem d_Md_fire_175 : decode b_Md_fire 175 = .ok (.ireturn, 1) := by decide +kernel
theorem d_Md_isItem_0 : decode b_Md_isItem 0 = .ok (.iload_n 1, 1) := by decide +kernel
theorem d_Md_isItem_1 : decode b_Md_isItem 1 = .ok (.iconst 1, 1) := by decide +kernel
theorem d_Md_isItem_2 : decode b_Md_isItem 2 = .ok (.if_icmp .lt 15, 3) := by decide +kernel
theorem d_Md_isItem_5 : decode b_Md_isItem 5 = .ok (.iload_n 1, 1) := by decide +kernel
theorem d_Md_isItem_6 : decode b_Md_isItem 6 = .ok (.aload_n 0, 1) := by decide +kernel
theorem d_Md_isItem_7 : decode b_Md_isItem 7 = .ok (.getfield 128, 3) := by decide +kernel
theorem d_Md_isItem_10 : decode b_Md_isItem 10 = .ok (.if_icmp .gt 7, 3) := by decide +kernel
theorem d_Md_isItem_13 : decode b_Md_isItem 13 = .ok (.iconst 1, 1) := by decide +kernel
theorem d_Md_isItem_14 : decode b_Md_isItem 14 = .ok (.goto 4, 3) := by decide +kernel
theorem d_Md_isItem_17 : decode b_Md_isItem 17 = .ok (.iconst 0, 1) := by decide +kernel
theorem d_Md_isItem_18 : decode b_Md_isItem 18 = .ok (.ireturn, 1) := by decide +kernel
theorem d_Md_inState_0 : decode b_Md_inState 0 = .ok (.iconst 0, 1) := by decide +kernel
theorem d_Md_inState_1 : decode b_Md_inState 1 = .ok (.istore 4, 2) := by decide +kernel
theorem d_Md_inState_3 : decode b_Md_inState 3 = .ok (.aload_n 0, 1) := by decide +kernel
theorem d_Md_inState_4 : decode b_Md_inState 4 = .ok (.getfield 68, 3) := by decide +kernel
theorem d_Md_inState_7 : decode b_Md_inState 7 = .ok (.iload_n 1, 1) := by decide +kernel
theorem d_Md_inState_8 : decode b_Md_inState 8 = .ok (.iaload, 1) := by decide +kernel
theorem d_Md_inState_9 : decode b_Md_inState 9 = .ok (.istore 5, 2) := by decide +kernel
theorem d_Md_inState_11 : decode b_Md_inState 11 = .ok (.iload 5, 2) := by decide +kernel
theorem d_Md_inState_13 : decode b_Md_inState 13 = .ok (.aload_n 0, 1) := by decide +kernel
theorem d_Md_inState_14 : decode b_Md_inState 14 = .ok (.getfield 128, 3) := by decide +kernel
theorem d_Md_inState_17 : decode b_Md_inState 17 = .ok (.if_icmp .gt 52, 3) := by decide +kernel
theorem d_Md_inState_20 : decode b_Md_inState 20 = .ok (.iload 4, 2) := by decide +kernel
theorem d_Md_inState_22 : decode b_Md_inState 22 = .ok (.aload_n 0, 1) := by decide +kernel
theorem d_Md_inState_23 : decode b_Md_inState 23 = .ok (.getfield 59, 3) := by decide +kernel
theorem d_Md_inState_26 : decode b_Md_inState 26 = .ok (.iload 5, 2) := by decide +kernel
theorem d_Md_inState_28 : decode b_Md_inState 28 = .ok (.iaload, 1) := by decide +kernel
theorem d_Md_inState_29 : decode b_Md_inState 29 = .ok (.iload_n 1, 1) := by decide +kernel
theorem d_Md_inState_30 : decode b_Md_inState 30 = .ok (.if_icmp .ne 29, 3) := by decide +kernel
theorem d_Md_inState_33 : decode b_Md_inState 33 = .ok (.aload_n 0, 1) := by decide +kernel
theorem d_Md_inState_34 : decode b_Md_inState 34 = .ok (.getfield 62, 3) := by decide +kernel
theorem d_Md_inState_37 : decode b_Md_inState 37 = .ok (.iload 5, 2) := by decide +kernel
theorem d_Md_inState_39 : decode b_Md_inState 39 = .ok (.iaload, 1) := by decide +kernel
theorem d_Md_inState_40 : decode b_Md_inState 40 = .ok (.iload_n 2, 1) := by decide +kernel
theorem d_Md_inState_41 : decode b_Md_inState 41 = .ok (.if_icmp .lt 18, 3) := by decide +kernel
theorem d_Md_inState_44 : decode b_Md_inState 44 = .ok (.aload_n 0, 1) := by decide +kernel
theorem d_Md_inState_45 : decode b_Md_inState 45 = .ok (.getfield 62, 3) := by decide +kernel
theorem d_Md_inState_48 : decode b_Md_inState 48 = .ok (.iload 5, 2) := by decide +kernel
theorem d_Md_inState_50 : decode b_Md_inState 50 = .ok (.iaload, 1) := by decide +kernel
theorem d_Md_inState_51 : decode b_Md_inState 51 = .ok (.iload_n 3, 1) := by decide +kernel
theorem d_Md_inState_52 : decode b_Md_inState 52 = .ok (.if_icmp .gt 7, 3) := by decide +kernel
theorem d_Md_inState_55 : decode b_Md_inState 55 = .ok (.iconst 1, 1) := by decide +kernel
theorem d_Md_inState_56 : decode b_Md_inState 56 = .ok (.goto 4, 3) := by decide +kernel
theorem d_Md_inState_59 : decode b_Md_inState 59 = .ok (.iconst 0, 1) := by decide +kernel
theorem d_Md_inState_60 : decode b_Md_inState 60 = .ok (.iadd, 1) := by decide +kernel
theorem d_Md_inState_61 : decode b_Md_inState 61 = .ok (.istore 4, 2) := by decide +kernel
theorem d_Md_inState_63 : decode b_Md_inState 63 = .ok (.iinc 5 1, 3) := by decide +kernel
theorem d_Md_inState_66 : decode b_Md_inState 66 = .ok (.goto (-55), 3) := by decide +kernel
theorem d_Md_inState_69 : decode b_Md_inState 69 = .ok (.iload 4, 2) := by decide +kernel
theorem d_Md_inState_71 : decode b_Md_inState 71 = .ok (.ireturn, 1) := by decide +kernel
theorem d_Md_end_0 : decode b_Md_end 0 = .ok (.aload_n 0, 1) := by decide +kernel
theorem d_Md_end_1 : decode b_Md_end 1 = .ok (.iload_n 1, 1) := by decide +kernel
theorem d_Md_end_2 : decode b_Md_end 2 = .ok (.invokevirtual 134, 3) := by decide +kernel
theorem d_Md_end_5 : decode b_Md_end 5 = .ok (.iconst 0, 1) := by decide +kernel
theorem d_Md_end_6 : decode b_Md_end 6 = .ok (.istore_n 2, 1) := by decide +kernel
theorem d_Md_end_7 : decode b_Md_end 7 = .ok (.iload_n 2, 1) := by decide +kernel
theorem d_Md_end_8 : decode b_Md_end 8 = .ok (.bipush 6, 2) := by decide +kernel
theorem d_Md_end_10 : decode b_Md_end 10 = .ok (.if_icmp .ge 39, 3) := by decide +kernel
theorem d_Md_end_13 : decode b_Md_end 13 = .ok (.aload_n 0, 1) := by decide +kernel
theorem d_Md_end_14 : decode b_Md_end 14 = .ok (.getfield 32, 3) := by decide +kernel
theorem d_Md_end_17 : decode b_Md_end 17 = .ok (.iload_n 1, 1) := by decide +kernel
theorem d_Md_end_18 : decode b_Md_end 18 = .ok (.iaload, 1) := by decide +kernel
theorem d_Md_end_19 : decode b_Md_end 19 = .ok (.bipush 8, 2) := by decide +kernel
theorem d_Md_end_21 : decode b_Md_end 21 = .ok (.iload_n 2, 1) := by decide +kernel
theorem d_Md_end_22 : decode b_Md_end 22 = .ok (.iadd, 1) := by decide +kernel
theorem d_Md_end_23 : decode b_Md_end 23 = .ok (.ishr, 1) := by decide +kernel
theorem d_Md_end_24 : decode b_Md_end 24 = .ok (.iconst 1, 1) := by decide +kernel
theorem d_Md_end_25 : decode b_Md_end 25 = .ok (.iand, 1) := by decide +kernel
theorem d_Md_end_26 : decode b_Md_end 26 = .ok (.iconst 1, 1) := by decide +kernel
theorem d_Md_end_27 : decode b_Md_end 27 = .ok (.if_icmp .ne 16, 3) := by decide +kernel
theorem d_Md_end_30 : decode b_Md_end 30 = .ok (.aload_n 0, 1) := by decide +kernel
theorem d_Md_end_31 : decode b_Md_end 31 = .ok (.iload_n 2, 1) := by decide +kernel
theorem d_Md_end_32 : decode b_Md_end 32 = .ok (.invokevirtual 131, 3) := by decide +kernel
theorem d_Md_end_35 : decode b_Md_end 35 = .ok (.ifCond .eq 8, 3) := by decide +kernel
theorem d_Md_end_38 : decode b_Md_end 38 = .ok (.aload_n 0, 1) := by decide +kernel
theorem d_Md_end_39 : decode b_Md_end 39 = .ok (.iload_n 2, 1) := by decide +kernel
theorem d_Md_end_40 : decode b_Md_end 40 = .ok (.invokevirtual 134, 3) := by decide +kernel
theorem d_Md_end_43 : decode b_Md_end 43 = .ok (.iinc 2 1, 3) := by decide +kernel
theorem d_Md_end_46 : decode b_Md_end 46 = .ok (.goto (-39), 3) := by decide +kernel
theorem d_Md_end_49 : decode b_Md_end 49 = .ok (.aload_n 0, 1) := by decide +kernel
theorem d_Md_end_50 : decode b_Md_end 50 = .ok (.dup, 1) := by decide +kernel
theorem d_Md_end_51 : decode b_Md_end 51 = .ok (.getfield 85, 3) := by decide +kernel
theorem d_Md_end_54 : decode b_Md_end 54 = .ok (.aload_n 0, 1) := by decide +kernel
theorem d_Md_end_55 : decode b_Md_end 55 = .ok (.getfield 32, 3) := by decide +kernel
theorem d_Md_end_58 : decode b_Md_end 58 = .ok (.iload_n 1, 1) := by decide +kernel
theorem d_Md_end_59 : decode b_Md_end 59 = .ok (.iaload, 1) := by decide +kernel
theorem d_Md_end_60 : decode b_Md_end 60 = .ok (.sipush 255, 3) := by decide +kernel
theorem d_Md_end_63 : decode b_Md_end 63 = .ok (.iand, 1) := by decide +kernel
theorem d_Md_end_64 : decode b_Md_end 64 = .ok (.iconst (-1), 1) := by decide +kernel
theorem d_Md_end_65 : decode b_Md_end 65 = .ok (.ixor, 1) := by decide +kernel
theorem d_Md_end_66 : decode b_Md_end 66 = .ok (.iand, 1) := by decide +kernel
theorem d_Md_end_67 : decode b_Md_end 67 = .ok (.putfield 85, 3) := by decide +kernel
theorem d_Md_end_70 : decode b_Md_end 70 = .ok (.iconst 0, 1) := by decide +kernel
theorem d_Md_end_71 : decode b_Md_end 71 = .ok (.istore_n 2, 1) := by decide +kernel
theorem d_Md_end_72 : decode b_Md_end 72 = .ok (.iconst 0, 1) := by decide +kernel
theorem d_Md_end_73 : decode b_Md_end 73 = .ok (.istore_n 3, 1) := by decide +kernel
theorem d_Md_end_74 : decode b_Md_end 74 = .ok (.iload_n 3, 1) := by decide +kernel
theorem d_Md_end_75 : decode b_Md_end 75 = .ok (.bipush 8, 2) := by decide +kernel
theorem d_Md_end_77 : decode b_Md_end 77 = .ok (.if_icmp .ge 95, 3) := by decide +kernel
theorem d_Md_end_80 : decode b_Md_end 80 = .ok (.aload_n 0, 1) := by decide +kernel
theorem d_Md_end_81 : decode b_Md_end 81 = .ok (.getfield 56, 3) := by decide +kernel
theorem d_Md_end_84 : decode b_Md_end 84 = .ok (.aload_n 0, 1) := by decide +kernel
theorem d_Md_end_85 : decode b_Md_end 85 = .ok (.getfield 35, 3) := by decide +kernel
theorem d_Md_end_88 : decode b_Md_end 88 = .ok (.bipush 8, 2) := by decide +kernel
theorem d_Md_end_90 : decode b_Md_end 90 = .ok (.iload_n 1, 1) := by decide +kernel
theorem d_Md_end_91 : decode b_Md_end 91 = .ok (.imul, 1) := by decide +kernel
theorem d_Md_end_92 : decode b_Md_end 92 = .ok (.iload_n 3, 1) := by decide +kernel
theorem d_Md_end_93 : decode b_Md_end 93 = .ok (.iadd, 1) := by decide +kernel
theorem d_Md_end_94 : decode b_Md_end 94 = .ok (.iaload, 1) := by decide +kernel
theorem d_Md_end_95 : decode b_Md_end 95 = .ok (.iaload, 1) := by decide +kernel
theorem d_Md_end_96 : decode b_Md_end 96 = .ok (.istore 4, 2) := by decide +kernel
theorem d_Md_end_98 : decode b_Md_end 98 = .ok (.aload_n 0, 1) := by decide +kernel
theorem d_Md_end_99 : decode b_Md_end 99 = .ok (.getfield 23, 3) := by decide +kernel
theorem d_Md_end_102 : decode b_Md_end 102 = .ok (.iload_n 1, 1) := by decide +kernel
theorem d_Md_end_103 : decode b_Md_end 103 = .ok (.iaload, 1) := by decide +kernel
theorem d_Md_end_104 : decode b_Md_end 104 = .ok (.iload_n 3, 1) := by decide +kernel
theorem d_Md_end_105 : decode b_Md_end 105 = .ok (.ishr, 1) := by decide +kernel
theorem d_Md_end_106 : decode b_Md_end 106 = .ok (.iconst 1, 1) := by decide +kernel
theorem d_Md_end_107 : decode b_Md_end 107 = .ok (.iand, 1) := by decide +kernel
theorem d_Md_end_108 : decode b_Md_end 108 = .ok (.iconst 1, 1) := by decide +kernel
theorem d_Md_end_109 : decode b_Md_end 109 = .ok (.if_icmp .ne 39, 3) := by decide +kernel
theorem d_Md_end_112 : decode b_Md_end 112 = .ok (.iload 4, 2) := by decide +kernel
theorem d_Md_end_114 : decode b_Md_end 114 = .ok (.aload_n 0, 1) := by decide +kernel
theorem d_Md_end_115 : decode b_Md_end 115 = .ok (.getfield 38, 3) := by decide +kernel
theorem d_Md_end_118 : decode b_Md_end 118 = .ok (.bipush 8, 2) := by decide +kernel
theorem d_Md_end_120 : decode b_Md_end 120 = .ok (.iload_n 1, 1) := by decide +kernel
theorem d_Md_end_121 : decode b_Md_end 121 = .ok (.imul, 1) := by decide +kernel
theorem d_Md_end_122 : decode b_Md_end 122 = .ok (.iload_n 3, 1) := by decide +kernel
theorem d_Md_end_123 : decode b_Md_end 123 = .ok (.iadd, 1) := by decide +kernel
theorem d_Md_end_124 : decode b_Md_end 124 = .ok (.iaload, 1) := by decide +kernel
theorem d_Md_end_125 : decode b_Md_end 125 = .ok (.if_icmp .lt 23, 3) := by decide +kernel
theorem d_Md_end_128 : decode b_Md_end 128 = .ok (.iload 4, 2) := by decide +kernel
theorem d_Md_end_130 : decode b_Md_end 130 = .ok (.aload_n 0, 1) := by decide +kernel
theorem d_Md_end_131 : decode b_Md_end 131 = .ok (.getfield 41, 3) := by decide +kernel
theorem d_Md_end_134 : decode b_Md_end 134 = .ok (.bipush 8, 2) := by decide +kernel
theorem d_Md_end_136 : decode b_Md_end 136 = .ok (.iload_n 1, 1) := by decide +kernel
theorem d_Md_end_137 : decode b_Md_end 137 = .ok (.imul, 1) := by decide +kernel
theorem d_Md_end_138 : decode b_Md_end 138 = .ok (.iload_n 3, 1) := by decide +kernel
theorem d_Md_end_139 : decode b_Md_end 139 = .ok (.iadd, 1) := by decide +kernel
theorem d_Md_end_140 : decode b_Md_end 140 = .ok (.iaload, 1) := by decide +kernel
theorem d_Md_end_141 : decode b_Md_end 141 = .ok (.if_icmp .gt 7, 3) := by decide +kernel
theorem d_Md_end_144 : decode b_Md_end 144 = .ok (.iconst 1, 1) := by decide +kernel
theorem d_Md_end_145 : decode b_Md_end 145 = .ok (.goto 4, 3) := by decide +kernel
theorem d_Md_end_148 : decode b_Md_end 148 = .ok (.iconst 0, 1) := by decide +kernel
theorem d_Md_end_149 : decode b_Md_end 149 = .ok (.istore 5, 2) := by decide +kernel
theorem d_Md_end_151 : decode b_Md_end 151 = .ok (.iload_n 2, 1) := by decide +kernel
theorem d_Md_end_152 : decode b_Md_end 152 = .ok (.iload 5, 2) := by decide +kernel
theorem d_Md_end_154 : decode b_Md_end 154 = .ok (.ifCond .eq 9, 3) := by decide +kernel
theorem d_Md_end_157 : decode b_Md_end 157 = .ok (.iconst 1, 1) := by decide +kernel
theorem d_Md_end_158 : decode b_Md_end 158 = .ok (.iload_n 3, 1) := by decide +kernel
theorem d_Md_end_159 : decode b_Md_end 159 = .ok (.ishl, 1) := by decide +kernel
theorem d_Md_end_160 : decode b_Md_end 160 = .ok (.goto 4, 3) := by decide +kernel
theorem d_Md_end_163 : decode b_Md_end 163 = .ok (.iconst 0, 1) := by decide +kernel
theorem d_Md_end_164 : decode b_Md_end 164 = .ok (.ior, 1) := by decide +kernel
theorem d_Md_end_165 : decode b_Md_end 165 = .ok (.istore_n 2, 1) := by decide +kernel
theorem d_Md_end_166 : decode b_Md_end 166 = .ok (.iinc 3 1, 3) := by decide +kernel
theorem d_Md_end_169 : decode b_Md_end 169 = .ok (.goto (-95), 3) := by decide +kernel
theorem d_Md_end_172 : decode b_Md_end 172 = .ok (.iconst 0, 1) := by decide +kernel
theorem d_Md_end_173 : decode b_Md_end 173 = .ok (.istore_n 3, 1) := by decide +kernel
theorem d_Md_end_174 : decode b_Md_end 174 = .ok (.iconst 0, 1) := by decide +kernel
theorem d_Md_end_175 : decode b_Md_end 175 = .ok (.istore 4, 2) := by decide +kernel
theorem d_Md_end_177 : decode b_Md_end 177 = .ok (.iload 4, 2) := by decide +kernel
theorem d_Md_end_179 : decode b_Md_end 179 = .ok (.iconst 3, 1) := by decide +kernel
theorem d_Md_end_180 : decode b_Md_end 180 = .ok (.if_icmp .ge 39, 3) := by decide +kernel
theorem d_Md_end_183 : decode b_Md_end 183 = .ok (.aload_n 0, 1) := by decide +kernel
theorem d_Md_end_184 : decode b_Md_end 184 = .ok (.getfield 29, 3) := by decide +kernel
theorem d_Md_end_187 : decode b_Md_end 187 = .ok (.iconst 3, 1) := by decide +kernel
theorem d_Md_end_188 : decode b_Md_end 188 = .ok (.iload_n 1, 1) := by decide +kernel
theorem d_Md_end_189 : decode b_Md_end 189 = .ok (.imul, 1) := by decide +kernel
theorem d_Md_end_190 : decode b_Md_end 190 = .ok (.iload 4, 2) := by decide +kernel
theorem d_Md_end_192 : decode b_Md_end 192 = .ok (.iadd, 1) := by decide +kernel
theorem d_Md_end_193 : decode b_Md_end 193 = .ok (.iaload, 1) := by decide +kernel
theorem d_Md_end_194 : decode b_Md_end 194 = .ok (.ifCond .eq 17, 3) := by decide +kernel
theorem d_Md_end_197 : decode b_Md_end 197 = .ok (.aload_n 0, 1) := by decide +kernel
theorem d_Md_end_198 : decode b_Md_end 198 = .ok (.getfield 29, 3) := by decide +kernel
theorem d_Md_end_201 : decode b_Md_end 201 = .ok (.iconst 3, 1) := by decide +kernel
theorem d_Md_end_202 : decode b_Md_end 202 = .ok (.iload_n 1, 1) := by decide +kernel
theorem d_Md_end_203 : decode b_Md_end 203 = .ok (.imul, 1) := by decide +kernel
theorem d_Md_end_204 : decode b_Md_end 204 = .ok (.iload 4, 2) := by decide +kernel
theorem d_Md_end_206 : decode b_Md_end 206 = .ok (.iadd, 1) := by decide +kernel
theorem d_Md_end_207 : decode b_Md_end 207 = .ok (.iaload, 1) := by decide +kernel
theorem d_Md_end_208 : decode b_Md_end 208 = .ok (.goto 4, 3) := by decide +kernel
theorem d_Md_end_211 : decode b_Md_end 211 = .ok (.iload_n 3, 1) := by decide +kernel
theorem d_Md_end_212 : decode b_Md_end 212 = .ok (.istore_n 3, 1) := by decide +kernel
theorem d_Md_end_213 : decode b_Md_end 213 = .ok (.iinc 4 1, 3) := by decide +kernel
theorem d_Md_end_216 : decode b_Md_end 216 = .ok (.goto (-39), 3) := by decide +kernel
theorem d_Md_end_219 : decode b_Md_end 219 = .ok (.aload_n 0, 1) := by decide +kernel
theorem d_Md_end_220 : decode b_Md_end 220 = .ok (.getfield 17, 3) := by decide +kernel
theorem d_Md_end_223 : decode b_Md_end 223 = .ok (.iload_n 1, 1) := by decide +kernel
theorem d_Md_end_224 : decode b_Md_end 224 = .ok (.iaload, 1) := by decide +kernel
theorem d_Md_end_225 : decode b_Md_end 225 = .ok (.ifCond .ne 12, 3) := by decide +kernel
theorem d_Md_end_228 : decode b_Md_end 228 = .ok (.aload_n 0, 1) := by decide +kernel
theorem d_Md_end_229 : decode b_Md_end 229 = .ok (.getfield 23, 3) := by decide +kernel
theorem d_Md_end_232 : decode b_Md_end 232 = .ok (.iload_n 1, 1) := by decide +kernel
theorem d_Md_end_233 : decode b_Md_end 233 = .ok (.iaload, 1) := by decide +kernel
theorem d_Md_end_234 : decode b_Md_end 234 = .ok (.goto 29, 3) := by decide +kernel
theorem d_Md_end_237 : decode b_Md_end 237 = .ok (.iload_n 2, 1) := by decide +kernel
theorem d_Md_end_238 : decode b_Md_end 238 = .ok (.ifCond .ne 7, 3) := by decide +kernel
theorem d_Md_end_241 : decode b_Md_end 241 = .ok (.iload_n 3, 1) := by decide +kernel
theorem d_Md_end_242 : decode b_Md_end 242 = .ok (.goto 21, 3) := by decide +kernel
theorem d_Md_end_245 : decode b_Md_end 245 = .ok (.aload_n 0, 1) := by decide +kernel
theorem d_Md_end_246 : decode b_Md_end 246 = .ok (.getfield 17, 3) := by decide +kernel
theorem d_Md_end_249 : decode b_Md_end 249 = .ok (.iload_n 1, 1) := by decide +kernel
theorem d_Md_end_250 : decode b_Md_end 250 = .ok (.iaload, 1) := by decide +kernel
theorem d_Md_end_251 : decode b_Md_end 251 = .ok (.iconst 1, 1) := by decide +kernel
theorem d_Md_end_252 : decode b_Md_end 252 = .ok (.if_icmp .ne 10, 3) := by decide +kernel
theorem d_Md_end_255 : decode b_Md_end 255 = .ok (.iload_n 2, 1) := by decide +kernel
theorem d_Md_end_256 : decode b_Md_end 256 = .ok (.iload_n 2, 1) := by decide +kernel
theorem d_Md_end_257 : decode b_Md_end 257 = .ok (.ineg, 1) := by decide +kernel
theorem d_Md_end_258 : decode b_Md_end 258 = .ok (.iand, 1) := by decide +kernel
theorem d_Md_end_259 : decode b_Md_end 259 = .ok (.goto 4, 3) := by decide +kernel
theorem d_Md_end_262 : decode b_Md_end 262 = .ok (.iload_n 2, 1) := by decide +kernel
theorem d_Md_end_263 : decode b_Md_end 263 = .ok (.istore 4, 2) := by decide +kernel
theorem d_Md_end_265 : decode b_Md_end 265 = .ok (.aload_n 0, 1) := by decide +kernel
theorem d_Md_end_266 : decode b_Md_end 266 = .ok (.dup, 1) := by decide +kernel
theorem d_Md_end_267 : decode b_Md_end 267 = .ok (.getfield 85, 3) := by decide +kernel
theorem d_Md_end_270 : decode b_Md_end 270 = .ok (.iload 4, 2) := by decide +kernel
theorem d_Md_end_272 : decode b_Md_end 272 = .ok (.ior, 1) := by decide +kernel
theorem d_Md_end_273 : decode b_Md_end 273 = .ok (.putfield 85, 3) := by decide +kernel
theorem d_Md_end_276 : decode b_Md_end 276 = .ok (.return_, 1) := by decide +kernel
end
section
theorem d_Md_start_0 : decode b_Md_start 0 = .ok (.aload_n 0, 1) := by decide +kernel
theorem d_Md_start_1 : decode b_Md_start 1 = .ok (.iload_n 1, 1) := by decide +kernel
theorem d_Md_start_2 : decode b_Md_start 2 = .ok (.invokevirtual 146, 3) := by decide +kernel
theorem d_Md_start_5 : decode b_Md_start 5 = .ok (.ifCond .ne 5, 3) := by decide +kernel
theorem d_Md_start_8 : decode b_Md_start 8 = .ok (.iconst (-1), 1) := by decide +kernel
theorem d_Md_start_9 : decode b_Md_start 9 = .ok (.ireturn, 1) := by decide +kernel
theorem d_Md_start_10 : decode b_Md_start 10 = .ok (.aload_n 0, 1) := by decide +kernel
theorem d_Md_start_11 : decode b_Md_start 11 = .ok (.getfield 62, 3) := by decide +kernel
theorem d_Md_start_14 : decode b_Md_start 14 = .ok (.iload_n 1, 1) := by decide +kernel
theorem d_Md_start_15 : decode b_Md_start 15 = .ok (.iaload, 1) := by decide +kernel
theorem d_Md_start_16 : decode b_Md_start 16 = .ok (.iconst 1, 1) := by decide +kernel
theorem d_Md_start_17 : decode b_Md_start 17 = .ok (.if_icmp .eq 6, 3) := by decide +kernel
theorem d_Md_start_20 : decode b_Md_start 20 = .ok (.bipush (-2), 2) := by decide +kernel
theorem d_Md_start_22 : decode b_Md_start 22 = .ok (.ireturn, 1) := by decide +kernel
theorem d_Md_start_23 : decode b_Md_start 23 = .ok (.aload_n 0, 1) := by decide +kernel
theorem d_Md_start_24 : decode b_Md_start 24 = .ok (.getfield 62, 3) := by decide +kernel
theorem d_Md_start_27 : decode b_Md_start 27 = .ok (.iload_n 1, 1) := by decide +kernel
theorem d_Md_start_28 : decode b_Md_start 28 = .ok (.iconst 2, 1) := by decide +kernel
theorem d_Md_start_29 : decode b_Md_start 29 = .ok (.iastore, 1) := by decide +kernel
theorem d_Md_start_30 : decode b_Md_start 30 = .ok (.iconst 0, 1) := by decide +kernel
theorem d_Md_start_31 : decode b_Md_start 31 = .ok (.ireturn, 1) := by decide +kernel
theorem d_Md_finish_0 : decode b_Md_finish 0 = .ok (.aload_n 0, 1) := by decide +kernel
theorem d_Md_finish_1 : decode b_Md_finish 1 = .ok (.iload_n 1, 1) := by decide +kernel
theorem d_Md_finish_2 : decode b_Md_finish 2 = .ok (.invokevirtual 146, 3) := by decide +kernel
theorem d_Md_finish_5 : decode b_Md_finish 5 = .ok (.ifCond .ne 5, 3) := by decide +kernel
theorem d_Md_finish_8 : decode b_Md_finish 8 = .ok (.iconst (-1), 1) := by decide +kernel
theorem d_Md_finish_9 : decode b_Md_finish 9 = .ok (.ireturn, 1) := by decide +kernel
theorem d_Md_finish_10 : decode b_Md_finish 10 = .ok (.aload_n 0, 1) := by decide +kernel
theorem d_Md_finish_11 : decode b_Md_finish 11 = .ok (.getfield 62, 3) := by decide +kernel
theorem d_Md_finish_14 : decode b_Md_finish 14 = .ok (.iload_n 1, 1) := by decide +kernel
theorem d_Md_finish_15 : decode b_Md_finish 15 = .ok (.iaload, 1) := by decide +kernel
theorem d_Md_finish_16 : decode b_Md_finish 16 = .ok (.iconst 2, 1) := by decide +kernel
theorem d_Md_finish_17 : decode b_Md_finish 17 = .ok (.if_icmp .eq 6, 3) := by decide +kernel
theorem d_Md_finish_20 : decode b_Md_finish 20 = .ok (.bipush (-2), 2) := by decide +kernel
theorem d_Md_finish_22 : decode b_Md_finish 22 = .ok (.ireturn, 1) := by decide +kernel
theorem d_Md_finish_23 : decode b_Md_finish 23 = .ok (.aload_n 0, 1) := by decide +kernel
theorem d_Md_finish_24 : decode b_Md_finish 24 = .ok (.getfield 59, 3) := by decide +kernel
theorem d_Md_finish_27 : decode b_Md_finish 27 = .ok (.iload_n 1, 1) := by decide +kernel
theorem d_Md_finish_28 : decode b_Md_finish 28 = .ok (.iaload, 1) := by decide +kernel
theorem d_Md_finish_29 : decode b_Md_finish 29 = .ok (.istore_n 3, 1) := by decide +kernel
theorem d_Md_finish_30 : decode b_Md_finish 30 = .ok (.aload_n 0, 1) := by decide +kernel
theorem d_Md_finish_31 : decode b_Md_finish 31 = .ok (.getfield 62, 3) := by decide +kernel
theorem d_Md_finish_34 : decode b_Md_finish 34 = .ok (.iload_n 1, 1) := by decide +kernel
theorem d_Md_finish_35 : decode b_Md_finish 35 = .ok (.iconst 3, 1) := by decide +kernel
theorem d_Md_finish_36 : decode b_Md_finish 36 = .ok (.iastore, 1) := by decide +kernel
theorem d_Md_finish_37 : decode b_Md_finish 37 = .ok (.aload_n 0, 1) := by decide +kernel
theorem d_Md_finish_38 : decode b_Md_finish 38 = .ok (.getfield 56, 3) := by decide +kernel
theorem d_Md_finish_41 : decode b_Md_finish 41 = .ok (.aload_n 0, 1) := by decide +kernel
theorem d_Md_finish_42 : decode b_Md_finish 42 = .ok (.getfield 50, 3) := by decide +kernel
theorem d_Md_finish_45 : decode b_Md_finish 45 = .ok (.iload_n 3, 1) := by decide +kernel
theorem d_Md_finish_46 : decode b_Md_finish 46 = .ok (.iaload, 1) := by decide +kernel
theorem d_Md_finish_47 : decode b_Md_finish 47 = .ok (.iload_n 2, 1) := by decide +kernel
theorem d_Md_finish_48 : decode b_Md_finish 48 = .ok (.iastore, 1) := by decide +kernel
theorem d_Md_finish_49 : decode b_Md_finish 49 = .ok (.aload_n 0, 1) := by decide +kernel
theorem d_Md_finish_50 : decode b_Md_finish 50 = .ok (.iload_n 3, 1) := by decide +kernel
theorem d_Md_finish_51 : decode b_Md_finish 51 = .ok (.iconst 3, 1) := by decide +kernel
theorem d_Md_finish_52 : decode b_Md_finish 52 = .ok (.iconst 3, 1) := by decide +kernel
theorem d_Md_finish_53 : decode b_Md_finish 53 = .ok (.invokevirtual 149, 3) := by decide +kernel
theorem d_Md_finish_56 : decode b_Md_finish 56 = .ok (.aload_n 0, 1) := by decide +kernel
theorem d_Md_finish_57 : decode b_Md_finish 57 = .ok (.getfield 47, 3) := by decide +kernel
theorem d_Md_finish_60 : decode b_Md_finish 60 = .ok (.iload_n 3, 1) := by decide +kernel
theorem d_Md_finish_61 : decode b_Md_finish 61 = .ok (.iaload, 1) := by decide +kernel
theorem d_Md_finish_62 : decode b_Md_finish 62 = .ok (.if_icmp .ne 10, 3) := by decide +kernel
theorem d_Md_finish_65 : decode b_Md_finish 65 = .ok (.aload_n 0, 1) := by decide +kernel
theorem d_Md_finish_66 : decode b_Md_finish 66 = .ok (.iload_n 3, 1) := by decide +kernel
theorem d_Md_finish_67 : decode b_Md_finish 67 = .ok (.invokevirtual 152, 3) := by decide +kernel
theorem d_Md_finish_70 : decode b_Md_finish 70 = .ok (.iconst 1, 1) := by decide +kernel
theorem d_Md_finish_71 : decode b_Md_finish 71 = .ok (.ireturn, 1) := by decide +kernel
theorem d_Md_finish_72 : decode b_Md_finish 72 = .ok (.aload_n 0, 1) := by decide +kernel
theorem d_Md_finish_73 : decode b_Md_finish 73 = .ok (.iload_n 3, 1) := by decide +kernel
theorem d_Md_finish_74 : decode b_Md_finish 74 = .ok (.iconst 1, 1) := by decide +kernel
theorem d_Md_finish_75 : decode b_Md_finish 75 = .ok (.iconst 2, 1) := by decide +kernel
theorem d_Md_finish_76 : decode b_Md_finish 76 = .ok (.invokevirtual 149, 3) := by decide +kernel
theorem d_Md_finish_79 : decode b_Md_finish 79 = .ok (.ifCond .ne 8, 3) := by decide +kernel
theorem d_Md_finish_82 : decode b_Md_finish 82 = .ok (.aload_n 0, 1) := by decide +kernel
theorem d_Md_finish_83 : decode b_Md_finish 83 = .ok (.iload_n 3, 1) := by decide +kernel
theorem d_Md_finish_84 : decode b_Md_finish 84 = .ok (.invokevirtual 134, 3) := by decide +kernel
theorem d_Md_finish_87 : decode b_Md_finish 87 = .ok (.iconst 0, 1) := by decide +kernel
theorem d_Md_finish_88 : decode b_Md_finish 88 = .ok (.ireturn, 1) := by decide +kernel
theorem d_Md_failed_0 : decode b_Md_failed 0 = .ok (.aload_n 0, 1) := by decide +kernel
theorem d_Md_failed_1 : decode b_Md_failed 1 = .ok (.getfield 59, 3) := by decide +kernel
theorem d_Md_failed_4 : decode b_Md_failed 4 = .ok (.iload_n 1, 1) := by decide +kernel
theorem d_Md_failed_5 : decode b_Md_failed 5 = .ok (.iaload, 1) := by decide +kernel
theorem d_Md_failed_6 : decode b_Md_failed 6 = .ok (.istore_n 2, 1) := by decide +kernel
theorem d_Md_failed_7 : decode b_Md_failed 7 = .ok (.aload_n 0, 1) := by decide +kernel
theorem d_Md_failed_8 : decode b_Md_failed 8 = .ok (.getfield 62, 3) := by decide +kernel
theorem d_Md_failed_11 : decode b_Md_failed 11 = .ok (.iload_n 1, 1) := by decide +kernel
theorem d_Md_failed_12 : decode b_Md_failed 12 = .ok (.iconst 4, 1) := by decide +kernel
theorem d_Md_failed_13 : decode b_Md_failed 13 = .ok (.iastore, 1) := by decide +kernel
theorem d_Md_failed_14 : decode b_Md_failed 14 = .ok (.aload_n 0, 1) := by decide +kernel
theorem d_Md_failed_15 : decode b_Md_failed 15 = .ok (.iload_n 2, 1) := by decide +kernel
theorem d_Md_failed_16 : decode b_Md_failed 16 = .ok (.iconst 1, 1) := by decide +kernel
theorem d_Md_failed_17 : decode b_Md_failed 17 = .ok (.iconst 2, 1) := by decide +kernel
theorem d_Md_failed_18 : decode b_Md_failed 18 = .ok (.invokevirtual 149, 3) := by decide +kernel
theorem d_Md_failed_21 : decode b_Md_failed 21 = .ok (.ifCond .le 5, 3) := by decide +kernel
theorem d_Md_failed_24 : decode b_Md_failed 24 = .ok (.iconst 0, 1) := by decide +kernel
theorem d_Md_failed_25 : decode b_Md_failed 25 = .ok (.ireturn, 1) := by decide +kernel
theorem d_Md_failed_26 : decode b_Md_failed 26 = .ok (.aload_n 0, 1) := by decide +kernel
theorem d_Md_failed_27 : decode b_Md_failed 27 = .ok (.iload_n 2, 1) := by decide +kernel
theorem d_Md_failed_28 : decode b_Md_failed 28 = .ok (.invokevirtual 134, 3) := by decide +kernel
theorem d_Md_failed_31 : decode b_Md_failed 31 = .ok (.iconst 1, 1) := by decide +kernel
theorem d_Md_failed_32 : decode b_Md_failed 32 = .ok (.ireturn, 1) := by decide +kernel
theorem d_Md_fail_0 : decode b_Md_fail 0 = .ok (.aload_n 0, 1) := by decide +kernel
theorem d_Md_fail_1 : decode b_Md_fail 1 = .ok (.iload_n 1, 1) := by decide +kernel
theorem d_Md_fail_2 : decode b_Md_fail 2 = .ok (.invokevirtual 146, 3) := by decide +kernel
theorem d_Md_fail_5 : decode b_Md_fail 5 = .ok (.ifCond .ne 5, 3) := by decide +kernel
theorem d_Md_fail_8 : decode b_Md_fail 8 = .ok (.iconst (-1), 1) := by decide +kernel
theorem d_Md_fail_9 : decode b_Md_fail 9 = .ok (.ireturn, 1) := by decide +kernel
theorem d_Md_fail_10 : decode b_Md_fail 10 = .ok (.aload_n 0, 1) := by decide +kernel
theorem d_Md_fail_11 : decode b_Md_fail 11 = .ok (.getfield 62, 3) := by decide +kernel
theorem d_Md_fail_14 : decode b_Md_fail 14 = .ok (.iload_n 1, 1) := by decide +kernel
theorem d_Md_fail_15 : decode b_Md_fail 15 = .ok (.iaload, 1) := by decide +kernel
theorem d_Md_fail_16 : decode b_Md_fail 16 = .ok (.iconst 2, 1) := by decide +kernel
theorem d_Md_fail_17 : decode b_Md_fail 17 = .ok (.if_icmp .le 8, 3) := by decide +kernel
theorem d_Md_fail_20 : decode b_Md_fail 20 = .ok (.bipush (-2), 2) := by decide +kernel
theorem d_Md_fail_22 : decode b_Md_fail 22 = .ok (.goto 8, 3) := by decide +kernel
theorem d_Md_fail_25 : decode b_Md_fail 25 = .ok (.aload_n 0, 1) := by decide +kernel
theorem d_Md_fail_26 : decode b_Md_fail 26 = .ok (.iload_n 1, 1) := by decide +kernel
theorem d_Md_fail_27 : decode b_Md_fail 27 = .ok (.invokevirtual 155, 3) := by decide +kernel
theorem d_Md_fail_30 : decode b_Md_fail 30 = .ok (.ireturn, 1) := by decide +kernel
theorem d_Md_tick_0 : decode b_Md_tick 0 = .ok (.aload_n 0, 1) := by decide +kernel
theorem d_Md_tick_1 : decode b_Md_tick 1 = .ok (.dup, 1) := by decide +kernel
theorem d_Md_tick_2 : decode b_Md_tick 2 = .ok (.getfield 143, 3) := by decide +kernel
theorem d_Md_tick_5 : decode b_Md_tick 5 = .ok (.iload_n 1, 1) := by decide +kernel
theorem d_Md_tick_6 : decode b_Md_tick 6 = .ok (.ifCond .lt 13, 3) := by decide +kernel
theorem d_Md_tick_9 : decode b_Md_tick 9 = .ok (.iload_n 1, 1) := by decide +kernel
theorem d_Md_tick_10 : decode b_Md_tick 10 = .ok (.bipush 100, 2) := by decide +kernel
theorem d_Md_tick_12 : decode b_Md_tick 12 = .ok (.if_icmp .gt 7, 3) := by decide +kernel
theorem d_Md_tick_15 : decode b_Md_tick 15 = .ok (.iload_n 1, 1) := by decide +kernel
theorem d_Md_tick_16 : decode b_Md_tick 16 = .ok (.goto 4, 3) := by decide +kernel
theorem d_Md_tick_19 : decode b_Md_tick 19 = .ok (.iconst 0, 1) := by decide +kernel
theorem d_Md_tick_20 : decode b_Md_tick 20 = .ok (.iadd, 1) := by decide +kernel
theorem d_Md_tick_21 : decode b_Md_tick 21 = .ok (.putfield 143, 3) := by decide +kernel
theorem d_Md_tick_24 : decode b_Md_tick 24 = .ok (.iconst 1, 1) := by decide +kernel
theorem d_Md_tick_25 : decode b_Md_tick 25 = .ok (.istore_n 2, 1) := by decide +kernel
theorem d_Md_tick_26 : decode b_Md_tick 26 = .ok (.iload_n 2, 1) := by decide +kernel
theorem d_Md_tick_27 : decode b_Md_tick 27 = .ok (.aload_n 0, 1) := by decide +kernel
theorem d_Md_tick_28 : decode b_Md_tick 28 = .ok (.getfield 128, 3) := by decide +kernel
theorem d_Md_tick_31 : decode b_Md_tick 31 = .ok (.if_icmp .gt 56, 3) := by decide +kernel
theorem d_Md_tick_34 : decode b_Md_tick 34 = .ok (.aload_n 0, 1) := by decide +kernel
theorem d_Md_tick_35 : decode b_Md_tick 35 = .ok (.getfield 53, 3) := by decide +kernel
theorem d_Md_tick_38 : decode b_Md_tick 38 = .ok (.aload_n 0, 1) := by decide +kernel
theorem d_Md_tick_39 : decode b_Md_tick 39 = .ok (.getfield 59, 3) := by decide +kernel
theorem d_Md_tick_42 : decode b_Md_tick 42 = .ok (.iload_n 2, 1) := by decide +kernel
theorem d_Md_tick_43 : decode b_Md_tick 43 = .ok (.iaload, 1) := by decide +kernel
theorem d_Md_tick_44 : decode b_Md_tick 44 = .ok (.iaload, 1) := by decide +kernel
theorem d_Md_tick_45 : decode b_Md_tick 45 = .ok (.istore_n 3, 1) := by decide +kernel
theorem d_Md_tick_46 : decode b_Md_tick 46 = .ok (.aload_n 0, 1) := by decide +kernel
theorem d_Md_tick_47 : decode b_Md_tick 47 = .ok (.getfield 62, 3) := by decide +kernel
theorem d_Md_tick_50 : decode b_Md_tick 50 = .ok (.iload_n 2, 1) := by decide +kernel
theorem d_Md_tick_51 : decode b_Md_tick 51 = .ok (.iaload, 1) := by decide +kernel
theorem d_Md_tick_52 : decode b_Md_tick 52 = .ok (.iconst 2, 1) := by decide +kernel
theorem d_Md_tick_53 : decode b_Md_tick 53 = .ok (.if_icmp .gt 28, 3) := by decide +kernel
theorem d_Md_tick_56 : decode b_Md_tick 56 = .ok (.iload_n 3, 1) := by decide +kernel
theorem d_Md_tick_57 : decode b_Md_tick 57 = .ok (.ifCond .le 24, 3) := by decide +kernel
theorem d_Md_tick_60 : decode b_Md_tick 60 = .ok (.aload_n 0, 1) := by decide +kernel
theorem d_Md_tick_61 : decode b_Md_tick 61 = .ok (.getfield 143, 3) := by decide +kernel
theorem d_Md_tick_64 : decode b_Md_tick 64 = .ok (.aload_n 0, 1) := by decide +kernel
theorem d_Md_tick_65 : decode b_Md_tick 65 = .ok (.getfield 65, 3) := by decide +kernel
theorem d_Md_tick_68 : decode b_Md_tick 68 = .ok (.iload_n 2, 1) := by decide +kernel
theorem d_Md_tick_69 : decode b_Md_tick 69 = .ok (.iaload, 1) := by decide +kernel
theorem d_Md_tick_70 : decode b_Md_tick 70 = .ok (.isub, 1) := by decide +kernel
theorem d_Md_tick_71 : decode b_Md_tick 71 = .ok (.iload_n 3, 1) := by decide +kernel
theorem d_Md_tick_72 : decode b_Md_tick 72 = .ok (.if_icmp .lt 9, 3) := by decide +kernel
theorem d_Md_tick_75 : decode b_Md_tick 75 = .ok (.aload_n 0, 1) := by decide +kernel
theorem d_Md_tick_76 : decode b_Md_tick 76 = .ok (.iload_n 2, 1) := by decide +kernel
theorem d_Md_tick_77 : decode b_Md_tick 77 = .ok (.invokevirtual 155, 3) := by decide +kernel
theorem d_Md_tick_80 : decode b_Md_tick 80 = .ok (.pop, 1) := by decide +kernel
theorem d_Md_tick_81 : decode b_Md_tick 81 = .ok (.iinc 2 1, 3) := by decide +kernel
theorem d_Md_tick_84 : decode b_Md_tick 84 = .ok (.goto (-58), 3) := by decide +kernel
theorem d_Md_tick_87 : decode b_Md_tick 87 = .ok (.aload_n 0, 1) := by decide +kernel
theorem d_Md_tick_88 : decode b_Md_tick 88 = .ok (.getfield 143, 3) := by decide +kernel
theorem d_Md_tick_91 : decode b_Md_tick 91 = .ok (.ireturn, 1) := by decide +kernel
theorem d_Md_set_0 : decode b_Md_set 0 = .ok (.iload_n 1, 1) := by decide +kernel
theorem d_Md_set_1 : decode b_Md_set 1 = .ok (.ifCond .lt 8, 3) := by decide +kernel
theorem d_Md_set_4 : decode b_Md_set 4 = .ok (.iload_n 1, 1) := by decide +kernel
theorem d_Md_set_5 : decode b_Md_set 5 = .ok (.iconst 3, 1) := by decide +kernel
theorem d_Md_set_6 : decode b_Md_set 6 = .ok (.if_icmp .le 5, 3) := by decide +kernel
theorem d_Md_set_9 : decode b_Md_set 9 = .ok (.iconst 0, 1) := by decide +kernel
theorem d_Md_set_10 : decode b_Md_set 10 = .ok (.ireturn, 1) := by decide +kernel
theorem d_Md_set_11 : decode b_Md_set 11 = .ok (.aload_n 0, 1) := by decide +kernel
theorem d_Md_set_12 : decode b_Md_set 12 = .ok (.getfield 56, 3) := by decide +kernel
theorem d_Md_set_15 : decode b_Md_set 15 = .ok (.iload_n 1, 1) := by decide +kernel
theorem d_Md_set_16 : decode b_Md_set 16 = .ok (.iload_n 2, 1) := by decide +kernel
theorem d_Md_set_17 : decode b_Md_set 17 = .ok (.iastore, 1) := by decide +kernel
theorem d_Md_set_18 : decode b_Md_set 18 = .ok (.iconst 1, 1) := by decide +kernel
theorem d_Md_set_19 : decode b_Md_set 19 = .ok (.ireturn, 1) := by decide +kernel
theorem d_Md_variable_0 : decode b_Md_variable 0 = .ok (.iload_n 1, 1) := by decide +kernel
theorem d_Md_variable_1 : decode b_Md_variable 1 = .ok (.ifCond .lt 17, 3) := by decide +kernel
theorem d_Md_variable_4 : decode b_Md_variable 4 = .ok (.iload_n 1, 1) := by decide +kernel
theorem d_Md_variable_5 : decode b_Md_variable 5 = .ok (.iconst 3, 1) := by decide +kernel
theorem d_Md_variable_6 : decode b_Md_variable 6 = .ok (.if_icmp .gt 12, 3) := by decide +kernel
theorem d_Md_variable_9 : decode b_Md_variable 9 = .ok (.aload_n 0, 1) := by decide +kernel
theorem d_Md_variable_10 : decode b_Md_variable 10 = .ok (.getfield 56, 3) := by decide +kernel
theorem d_Md_variable_13 : decode b_Md_variable 13 = .ok (.iload_n 1, 1) := by decide +kernel
theorem d_Md_variable_14 : decode b_Md_variable 14 = .ok (.iaload, 1) := by decide +kernel
theorem d_Md_variable_15 : decode b_Md_variable 15 = .ok (.goto 4, 3) := by decide +kernel
theorem d_Md_variable_18 : decode b_Md_variable 18 = .ok (.iconst 0, 1) := by decide +kernel
theorem d_Md_variable_19 : decode b_Md_variable 19 = .ok (.ireturn, 1) := by decide +kernel
theorem d_Md_marking_0 : decode b_Md_marking 0 = .ok (.aload_n 0, 1) := by decide +kernel
theorem d_Md_marking_1 : decode b_Md_marking 1 = .ok (.getfield 85, 3) := by decide +kernel
theorem d_Md_marking_4 : decode b_Md_marking 4 = .ok (.ireturn, 1) := by decide +kernel
theorem d_Md_item_0 : decode b_Md_item 0 = .ok (.aload_n 0, 1) := by decide +kernel
theorem d_Md_item_1 : decode b_Md_item 1 = .ok (.iload_n 1, 1) := by decide +kernel
theorem d_Md_item_2 : decode b_Md_item 2 = .ok (.invokevirtual 146, 3) := by decide +kernel
theorem d_Md_item_5 : decode b_Md_item 5 = .ok (.ifCond .eq 12, 3) := by decide +kernel
theorem d_Md_item_8 : decode b_Md_item 8 = .ok (.iload_n 2, 1) := by decide +kernel
theorem d_Md_item_9 : decode b_Md_item 9 = .ok (.ifCond .lt 8, 3) := by decide +kernel
theorem d_Md_item_12 : decode b_Md_item 12 = .ok (.iload_n 2, 1) := by decide +kernel
theorem d_Md_item_13 : decode b_Md_item 13 = .ok (.iconst 2, 1) := by decide +kernel
theorem d_Md_item_14 : decode b_Md_item 14 = .ok (.if_icmp .le 5, 3) := by decide +kernel
theorem d_Md_item_17 : decode b_Md_item 17 = .ok (.iconst (-1), 1) := by decide +kernel
theorem d_Md_item_18 : decode b_Md_item 18 = .ok (.ireturn, 1) := by decide +kernel
theorem d_Md_item_19 : decode b_Md_item 19 = .ok (.iload_n 2, 1) := by decide +kernel
theorem d_Md_item_20 : decode b_Md_item 20 = .ok (.ifCond .ne 12, 3) := by decide +kernel
theorem d_Md_item_23 : decode b_Md_item 23 = .ok (.aload_n 0, 1) := by decide +kernel
theorem d_Md_item_24 : decode b_Md_item 24 = .ok (.getfield 59, 3) := by decide +kernel
theorem d_Md_item_27 : decode b_Md_item 27 = .ok (.iload_n 1, 1) := by decide +kernel
theorem d_Md_item_28 : decode b_Md_item 28 = .ok (.iaload, 1) := by decide +kernel
theorem d_Md_item_29 : decode b_Md_item 29 = .ok (.goto 23, 3) := by decide +kernel
theorem d_Md_item_32 : decode b_Md_item 32 = .ok (.iload_n 2, 1) := by decide +kernel
theorem d_Md_item_33 : decode b_Md_item 33 = .ok (.iconst 1, 1) := by decide +kernel
theorem d_Md_item_34 : decode b_Md_item 34 = .ok (.if_icmp .ne 12, 3) := by decide +kernel
theorem d_Md_item_37 : decode b_Md_item 37 = .ok (.aload_n 0, 1) := by decide +kernel
theorem d_Md_item_38 : decode b_Md_item 38 = .ok (.getfield 62, 3) := by decide +kernel
theorem d_Md_item_41 : decode b_Md_item 41 = .ok (.iload_n 1, 1) := by decide +kernel
theorem d_Md_item_42 : decode b_Md_item 42 = .ok (.iaload, 1) := by decide +kernel
theorem d_Md_item_43 : decode b_Md_item 43 = .ok (.goto 9, 3) := by decide +kernel
theorem d_Md_item_46 : decode b_Md_item 46 = .ok (.aload_n 0, 1) := by decide +kernel
theorem d_Md_item_47 : decode b_Md_item 47 = .ok (.getfield 65, 3) := by decide +kernel
theorem d_Md_item_50 : decode b_Md_item 50 = .ok (.iload_n 1, 1) := by decide +kernel
theorem d_Md_item_51 : decode b_Md_item 51 = .ok (.iaload, 1) := by decide +kernel
theorem d_Md_item_52 : decode b_Md_item 52 = .ok (.ireturn, 1) := by decide +kernel
theorem d_Md_isGood_0 : decode b_Md_isGood 0 = .ok (.aload_n 0, 1) := by decide +kernel
theorem d_Md_isGood_1 : decode b_Md_isGood 1 = .ok (.getfield 78, 3) := by decide +kernel
theorem d_Md_isGood_4 : decode b_Md_isGood 4 = .ok (.iload_n 1, 1) := by decide +kernel
theorem d_Md_isGood_5 : decode b_Md_isGood 5 = .ok (.bipush 6, 2) := by decide +kernel
theorem d_Md_isGood_7 : decode b_Md_isGood 7 = .ok (.ishr, 1) := by decide +kernel
theorem d_Md_isGood_8 : decode b_Md_isGood 8 = .ok (.laload, 1) := by decide +kernel
theorem d_Md_isGood_9 : decode b_Md_isGood 9 = .ok (.iload_n 1, 1) := by decide +kernel
theorem d_Md_isGood_10 : decode b_Md_isGood 10 = .ok (.bipush 63, 2) := by decide +kernel
theorem d_Md_isGood_12 : decode b_Md_isGood 12 = .ok (.iand, 1) := by decide +kernel
theorem d_Md_isGood_13 : decode b_Md_isGood 13 = .ok (.lshr, 1) := by decide +kernel
theorem d_Md_isGood_14 : decode b_Md_isGood 14 = .ok (.lconst 1, 1) := by decide +kernel
theorem d_Md_isGood_15 : decode b_Md_isGood 15 = .ok (.land, 1) := by decide +kernel
theorem d_Md_isGood_16 : decode b_Md_isGood 16 = .ok (.lconst 0, 1) := by decide +kernel
theorem d_Md_isGood_17 : decode b_Md_isGood 17 = .ok (.lcmp, 1) := by decide +kernel
theorem d_Md_isGood_18 : decode b_Md_isGood 18 = .ok (.ifCond .eq 7, 3) := by decide +kernel
theorem d_Md_isGood_21 : decode b_Md_isGood 21 = .ok (.iconst 1, 1) := by decide +kernel
theorem d_Md_isGood_22 : decode b_Md_isGood 22 = .ok (.goto 4, 3) := by decide +kernel
theorem d_Md_isGood_25 : decode b_Md_isGood 25 = .ok (.iconst 0, 1) := by decide +kernel
theorem d_Md_isGood_26 : decode b_Md_isGood 26 = .ok (.ireturn, 1) := by decide +kernel
theorem d_Md_leads_0 : decode b_Md_leads 0 = .ok (.iconst 0, 1) := by decide +kernel
theorem d_Md_leads_1 : decode b_Md_leads 1 = .ok (.istore_n 2, 1) := by decide +kernel
theorem d_Md_leads_2 : decode b_Md_leads 2 = .ok (.iload_n 2, 1) := by decide +kernel
theorem d_Md_leads_3 : decode b_Md_leads 3 = .ok (.bipush 6, 2) := by decide +kernel
theorem d_Md_leads_5 : decode b_Md_leads 5 = .ok (.if_icmp .ge 57, 3) := by decide +kernel
theorem d_Md_leads_8 : decode b_Md_leads 8 = .ok (.iconst 0, 1) := by decide +kernel
theorem d_Md_leads_9 : decode b_Md_leads 9 = .ok (.istore_n 3, 1) := by decide +kernel
theorem d_Md_leads_10 : decode b_Md_leads 10 = .ok (.iload_n 3, 1) := by decide +kernel
theorem d_Md_leads_11 : decode b_Md_leads 11 = .ok (.bipush 10, 2) := by decide +kernel
theorem d_Md_leads_13 : decode b_Md_leads 13 = .ok (.if_icmp .ge 43, 3) := by decide +kernel
theorem d_Md_leads_16 : decode b_Md_leads 16 = .ok (.aload_n 0, 1) := by decide +kernel
theorem d_Md_leads_17 : decode b_Md_leads 17 = .ok (.getfield 7, 3) := by decide +kernel
theorem d_Md_leads_20 : decode b_Md_leads 20 = .ok (.iload_n 2, 1) := by decide +kernel
theorem d_Md_leads_21 : decode b_Md_leads 21 = .ok (.baload, 1) := by decide +kernel
theorem d_Md_leads_22 : decode b_Md_leads 22 = .ok (.ifCond .eq 34, 3) := by decide +kernel
theorem d_Md_leads_25 : decode b_Md_leads 25 = .ok (.aload_n 0, 1) := by decide +kernel
theorem d_Md_leads_26 : decode b_Md_leads 26 = .ok (.iload_n 1, 1) := by decide +kernel
theorem d_Md_leads_27 : decode b_Md_leads 27 = .ok (.iload_n 2, 1) := by decide +kernel
theorem d_Md_leads_28 : decode b_Md_leads 28 = .ok (.iload_n 3, 1) := by decide +kernel
theorem d_Md_leads_29 : decode b_Md_leads 29 = .ok (.invokevirtual 116, 3) := by decide +kernel
theorem d_Md_leads_32 : decode b_Md_leads 32 = .ok (.istore 4, 2) := by decide +kernel
theorem d_Md_leads_34 : decode b_Md_leads 34 = .ok (.iload 4, 2) := by decide +kernel
theorem d_Md_leads_36 : decode b_Md_leads 36 = .ok (.ifCond .lt 14, 3) := by decide +kernel
theorem d_Md_leads_39 : decode b_Md_leads 39 = .ok (.aload_n 0, 1) := by decide +kernel
theorem d_Md_leads_40 : decode b_Md_leads 40 = .ok (.iload 4, 2) := by decide +kernel
theorem d_Md_leads_42 : decode b_Md_leads 42 = .ok (.invokevirtual 158, 3) := by decide +kernel
theorem d_Md_leads_45 : decode b_Md_leads 45 = .ok (.ifCond .eq 5, 3) := by decide +kernel
theorem d_Md_leads_48 : decode b_Md_leads 48 = .ok (.iconst 1, 1) := by decide +kernel
theorem d_Md_leads_49 : decode b_Md_leads 49 = .ok (.ireturn, 1) := by decide +kernel
theorem d_Md_leads_50 : decode b_Md_leads 50 = .ok (.iinc 3 1, 3) := by decide +kernel
theorem d_Md_leads_53 : decode b_Md_leads 53 = .ok (.goto (-43), 3) := by decide +kernel
theorem d_Md_leads_56 : decode b_Md_leads 56 = .ok (.iinc 2 1, 3) := by decide +kernel
theorem d_Md_leads_59 : decode b_Md_leads 59 = .ok (.goto (-57), 3) := by decide +kernel
theorem d_Md_leads_62 : decode b_Md_leads 62 = .ok (.iconst 0, 1) := by decide +kernel
theorem d_Md_leads_63 : decode b_Md_leads 63 = .ok (.ireturn, 1) := by decide +kernel
theorem d_Md_allEnd_0 : decode b_Md_allEnd 0 = .ok (.iconst 0, 1) := by decide +kernel
theorem d_Md_allEnd_1 : decode b_Md_allEnd 1 = .ok (.istore_n 1, 1) := by decide +kernel
theorem d_Md_allEnd_2 : decode b_Md_allEnd 2 = .ok (.iload_n 1, 1) := by decide +kernel
theorem d_Md_allEnd_3 : decode b_Md_allEnd 3 = .ok (.sipush 256, 3) := by decide +kernel
theorem d_Md_allEnd_6 : decode b_Md_allEnd 6 = .ok (.if_icmp .ge 16, 3) := by decide +kernel
theorem d_Md_allEnd_9 : decode b_Md_allEnd 9 = .ok (.aload_n 0, 1) := by decide +kernel
theorem d_Md_allEnd_10 : decode b_Md_allEnd 10 = .ok (.getfield 78, 3) := by decide +kernel
theorem d_Md_allEnd_13 : decode b_Md_allEnd 13 = .ok (.iload_n 1, 1) := by decide +kernel
theorem d_Md_allEnd_14 : decode b_Md_allEnd 14 = .ok (.lconst 0, 1) := by decide +kernel
theorem d_Md_allEnd_15 : decode b_Md_allEnd 15 = .ok (.lastore, 1) := by decide +kernel
theorem d_Md_allEnd_16 : decode b_Md_allEnd 16 = .ok (.iinc 1 1, 3) := by decide +kernel
theorem d_Md_allEnd_19 : decode b_Md_allEnd 19 = .ok (.goto (-17), 3) := by decide +kernel
theorem d_Md_allEnd_22 : decode b_Md_allEnd 22 = .ok (.aload_n 0, 1) := by decide +kernel
theorem d_Md_allEnd_23 : decode b_Md_allEnd 23 = .ok (.getfield 109, 3) := by decide +kernel
theorem d_Md_allEnd_26 : decode b_Md_allEnd 26 = .ok (.istore_n 1, 1) := by decide +kernel
theorem d_Md_allEnd_27 : decode b_Md_allEnd 27 = .ok (.iconst 1, 1) := by decide +kernel
theorem d_Md_allEnd_28 : decode b_Md_allEnd 28 = .ok (.istore_n 2, 1) := by decide +kernel
theorem d_Md_allEnd_29 : decode b_Md_allEnd 29 = .ok (.iload_n 2, 1) := by decide +kernel
theorem d_Md_allEnd_30 : decode b_Md_allEnd 30 = .ok (.ifCond .eq 83, 3) := by decide +kernel
theorem d_Md_allEnd_33 : decode b_Md_allEnd 33 = .ok (.iconst 0, 1) := by decide +kernel
theorem d_Md_allEnd_34 : decode b_Md_allEnd 34 = .ok (.istore_n 2, 1) := by decide +kernel
theorem d_Md_allEnd_35 : decode b_Md_allEnd 35 = .ok (.aload_n 0, 1) := by decide +kernel
theorem d_Md_allEnd_36 : decode b_Md_allEnd 36 = .ok (.getfield 109, 3) := by decide +kernel
theorem d_Md_allEnd_39 : decode b_Md_allEnd 39 = .ok (.iconst 1, 1) := by decide +kernel
theorem d_Md_allEnd_40 : decode b_Md_allEnd 40 = .ok (.isub, 1) := by decide +kernel
theorem d_Md_allEnd_41 : decode b_Md_allEnd 41 = .ok (.istore_n 3, 1) := by decide +kernel
theorem d_Md_allEnd_42 : decode b_Md_allEnd 42 = .ok (.iload_n 3, 1) := by decide +kernel
theorem d_Md_allEnd_43 : decode b_Md_allEnd 43 = .ok (.ifCond .lt 67, 3) := by decide +kernel
theorem d_Md_allEnd_46 : decode b_Md_allEnd 46 = .ok (.aload_n 0, 1) := by decide +kernel
theorem d_Md_allEnd_47 : decode b_Md_allEnd 47 = .ok (.getfield 75, 3) := by decide +kernel
theorem d_Md_allEnd_50 : decode b_Md_allEnd 50 = .ok (.iload_n 3, 1) := by decide +kernel
theorem d_Md_allEnd_51 : decode b_Md_allEnd 51 = .ok (.iaload, 1) := by decide +kernel
theorem d_Md_allEnd_52 : decode b_Md_allEnd 52 = .ok (.istore 4, 2) := by decide +kernel
theorem d_Md_allEnd_54 : decode b_Md_allEnd 54 = .ok (.aload_n 0, 1) := by decide +kernel
theorem d_Md_allEnd_55 : decode b_Md_allEnd 55 = .ok (.iload 4, 2) := by decide +kernel
theorem d_Md_allEnd_57 : decode b_Md_allEnd 57 = .ok (.invokevirtual 158, 3) := by decide +kernel
theorem d_Md_allEnd_60 : decode b_Md_allEnd 60 = .ok (.ifCond .ne 44, 3) := by decide +kernel
theorem d_Md_allEnd_63 : decode b_Md_allEnd 63 = .ok (.iload 4, 2) := by decide +kernel
theorem d_Md_allEnd_65 : decode b_Md_allEnd 65 = .ok (.iconst 2, 1) := by decide +kernel
theorem d_Md_allEnd_66 : decode b_Md_allEnd 66 = .ok (.iand, 1) := by decide +kernel
theorem d_Md_allEnd_67 : decode b_Md_allEnd 67 = .ok (.ifCond .ne 12, 3) := by decide +kernel
theorem d_Md_allEnd_70 : decode b_Md_allEnd 70 = .ok (.aload_n 0, 1) := by decide +kernel
theorem d_Md_allEnd_71 : decode b_Md_allEnd 71 = .ok (.iload 4, 2) := by decide +kernel
theorem d_Md_allEnd_73 : decode b_Md_allEnd 73 = .ok (.invokevirtual 161, 3) := by decide +kernel
theorem d_Md_allEnd_76 : decode b_Md_allEnd 76 = .ok (.ifCond .eq 28, 3) := by decide +kernel
theorem d_Md_allEnd_79 : decode b_Md_allEnd 79 = .ok (.aload_n 0, 1) := by decide +kernel
theorem d_Md_allEnd_80 : decode b_Md_allEnd 80 = .ok (.getfield 78, 3) := by decide +kernel
theorem d_Md_allEnd_83 : decode b_Md_allEnd 83 = .ok (.iload 4, 2) := by decide +kernel
theorem d_Md_allEnd_85 : decode b_Md_allEnd 85 = .ok (.bipush 6, 2) := by decide +kernel
theorem d_Md_allEnd_87 : decode b_Md_allEnd 87 = .ok (.ishr, 1) := by decide +kernel
theorem d_Md_allEnd_88 : decode b_Md_allEnd 88 = .ok (.dup2, 1) := by decide +kernel
theorem d_Md_allEnd_89 : decode b_Md_allEnd 89 = .ok (.laload, 1) := by decide +kernel
theorem d_Md_allEnd_90 : decode b_Md_allEnd 90 = .ok (.lconst 1, 1) := by decide +kernel
theorem d_Md_allEnd_91 : decode b_Md_allEnd 91 = .ok (.iload 4, 2) := by decide +kernel
theorem d_Md_allEnd_93 : decode b_Md_allEnd 93 = .ok (.bipush 63, 2) := by decide +kernel
theorem d_Md_allEnd_95 : decode b_Md_allEnd 95 = .ok (.iand, 1) := by decide +kernel
theorem d_Md_allEnd_96 : decode b_Md_allEnd 96 = .ok (.lshl, 1) := by decide +kernel
theorem d_Md_allEnd_97 : decode b_Md_allEnd 97 = .ok (.lor, 1) := by decide +kernel
theorem d_Md_allEnd_98 : decode b_Md_allEnd 98 = .ok (.lastore, 1) := by decide +kernel
theorem d_Md_allEnd_99 : decode b_Md_allEnd 99 = .ok (.iinc 1 (-1), 3) := by decide +kernel
theorem d_Md_allEnd_102 : decode b_Md_allEnd 102 = .ok (.iconst 1, 1) := by decide +kernel
theorem d_Md_allEnd_103 : decode b_Md_allEnd 103 = .ok (.istore_n 2, 1) := by decide +kernel
theorem d_Md_allEnd_104 : decode b_Md_allEnd 104 = .ok (.iinc 3 (-1), 3) := by decide +kernel
theorem d_Md_allEnd_107 : decode b_Md_allEnd 107 = .ok (.goto (-65), 3) := by decide +kernel
theorem d_Md_allEnd_110 : decode b_Md_allEnd 110 = .ok (.goto (-81), 3) := by decide +kernel
theorem d_Md_allEnd_113 : decode b_Md_allEnd 113 = .ok (.iload_n 1, 1) := by decide +kernel
theorem d_Md_allEnd_114 : decode b_Md_allEnd 114 = .ok (.ifCond .ne 7, 3) := by decide +kernel
theorem d_Md_allEnd_117 : decode b_Md_allEnd 117 = .ok (.iconst 1, 1) := by decide +kernel
theorem d_Md_allEnd_118 : decode b_Md_allEnd 118 = .ok (.goto 4, 3) := by decide +kernel
theorem d_Md_allEnd_121 : decode b_Md_allEnd 121 = .ok (.iconst 0, 1) := by decide +kernel
theorem d_Md_allEnd_122 : decode b_Md_allEnd 122 = .ok (.ireturn, 1) := by decide +kernel
theorem d_Md_canBegin_0 : decode b_Md_canBegin 0 = .ok (.iconst 0, 1) := by decide +kernel
theorem d_Md_canBegin_1 : decode b_Md_canBegin 1 = .ok (.istore_n 2, 1) := by decide +kernel
theorem d_Md_canBegin_2 : decode b_Md_canBegin 2 = .ok (.iload_n 2, 1) := by decide +kernel
theorem d_Md_canBegin_3 : decode b_Md_canBegin 3 = .ok (.aload_n 0, 1) := by decide +kernel
theorem d_Md_canBegin_4 : decode b_Md_canBegin 4 = .ok (.getfield 109, 3) := by decide +kernel
theorem d_Md_canBegin_7 : decode b_Md_canBegin 7 = .ok (.if_icmp .ge 73, 3) := by decide +kernel
theorem d_Md_canBegin_10 : decode b_Md_canBegin 10 = .ok (.iconst 0, 1) := by decide +kernel
theorem d_Md_canBegin_11 : decode b_Md_canBegin 11 = .ok (.istore_n 3, 1) := by decide +kernel
theorem d_Md_canBegin_12 : decode b_Md_canBegin 12 = .ok (.iload_n 3, 1) := by decide +kernel
theorem d_Md_canBegin_13 : decode b_Md_canBegin 13 = .ok (.iconst 3, 1) := by decide +kernel
theorem d_Md_canBegin_14 : decode b_Md_canBegin 14 = .ok (.if_icmp .ge 60, 3) := by decide +kernel
theorem d_Md_canBegin_17 : decode b_Md_canBegin 17 = .ok (.aload_n 0, 1) := by decide +kernel
theorem d_Md_canBegin_18 : decode b_Md_canBegin 18 = .ok (.getfield 13, 3) := by decide +kernel
theorem d_Md_canBegin_21 : decode b_Md_canBegin 21 = .ok (.iload_n 1, 1) := by decide +kernel
theorem d_Md_canBegin_22 : decode b_Md_canBegin 22 = .ok (.iaload, 1) := by decide +kernel
theorem d_Md_canBegin_23 : decode b_Md_canBegin 23 = .ok (.ifCond .ne 12, 3) := by decide +kernel
theorem d_Md_canBegin_26 : decode b_Md_canBegin 26 = .ok (.aload_n 0, 1) := by decide +kernel
theorem d_Md_canBegin_27 : decode b_Md_canBegin 27 = .ok (.getfield 20, 3) := by decide +kernel
theorem d_Md_canBegin_30 : decode b_Md_canBegin 30 = .ok (.iload_n 1, 1) := by decide +kernel
theorem d_Md_canBegin_31 : decode b_Md_canBegin 31 = .ok (.iaload, 1) := by decide +kernel
theorem d_Md_canBegin_32 : decode b_Md_canBegin 32 = .ok (.goto 13, 3) := by decide +kernel
theorem d_Md_canBegin_35 : decode b_Md_canBegin 35 = .ok (.aload_n 0, 1) := by decide +kernel
theorem d_Md_canBegin_36 : decode b_Md_canBegin 36 = .ok (.getfield 26, 3) := by decide +kernel
theorem d_Md_canBegin_39 : decode b_Md_canBegin 39 = .ok (.iconst 3, 1) := by decide +kernel
theorem d_Md_canBegin_40 : decode b_Md_canBegin 40 = .ok (.iload_n 1, 1) := by decide +kernel
theorem d_Md_canBegin_41 : decode b_Md_canBegin 41 = .ok (.imul, 1) := by decide +kernel
theorem d_Md_canBegin_42 : decode b_Md_canBegin 42 = .ok (.iload_n 3, 1) := by decide +kernel
theorem d_Md_canBegin_43 : decode b_Md_canBegin 43 = .ok (.iadd, 1) := by decide +kernel
theorem d_Md_canBegin_44 : decode b_Md_canBegin 44 = .ok (.iaload, 1) := by decide +kernel
theorem d_Md_canBegin_45 : decode b_Md_canBegin 45 = .ok (.istore 4, 2) := by decide +kernel
theorem d_Md_canBegin_47 : decode b_Md_canBegin 47 = .ok (.iload 4, 2) := by decide +kernel
theorem d_Md_canBegin_49 : decode b_Md_canBegin 49 = .ok (.ifCond .eq 19, 3) := by decide +kernel
theorem d_Md_canBegin_52 : decode b_Md_canBegin 52 = .ok (.aload_n 0, 1) := by decide +kernel
theorem d_Md_canBegin_53 : decode b_Md_canBegin 53 = .ok (.getfield 75, 3) := by decide +kernel
theorem d_Md_canBegin_56 : decode b_Md_canBegin 56 = .ok (.iload_n 2, 1) := by decide +kernel
theorem d_Md_canBegin_57 : decode b_Md_canBegin 57 = .ok (.iaload, 1) := by decide +kernel
theorem d_Md_canBegin_58 : decode b_Md_canBegin 58 = .ok (.iload 4, 2) := by decide +kernel
theorem d_Md_canBegin_60 : decode b_Md_canBegin 60 = .ok (.iand, 1) := by decide +kernel
theorem d_Md_canBegin_61 : decode b_Md_canBegin 61 = .ok (.iload 4, 2) := by decide +kernel
theorem d_Md_canBegin_63 : decode b_Md_canBegin 63 = .ok (.if_icmp .ne 5, 3) := by decide +kernel
theorem d_Md_canBegin_66 : decode b_Md_canBegin 66 = .ok (.iconst 1, 1) := by decide +kernel
theorem d_Md_canBegin_67 : decode b_Md_canBegin 67 = .ok (.ireturn, 1) := by decide +kernel
theorem d_Md_canBegin_68 : decode b_Md_canBegin 68 = .ok (.iinc 3 1, 3) := by decide +kernel
theorem d_Md_canBegin_71 : decode b_Md_canBegin 71 = .ok (.goto (-59), 3) := by decide +kernel
theorem d_Md_canBegin_74 : decode b_Md_canBegin 74 = .ok (.iinc 2 1, 3) := by decide +kernel
theorem d_Md_canBegin_77 : decode b_Md_canBegin 77 = .ok (.goto (-75), 3) := by decide +kernel
theorem d_Md_canBegin_80 : decode b_Md_canBegin 80 = .ok (.iconst 0, 1) := by decide +kernel
theorem d_Md_canBegin_81 : decode b_Md_canBegin 81 = .ok (.ireturn, 1) := by decide +kernel
end
section
def sp_CN_isBetween (a1 : Int32) (a2 : Int32) (a3 : Int32) (u : St) : Option (Int32 × St) :=
  if a1 < a2 then (some ((0 : Int32), u)) else (if a3 < a1 then (some ((0 : Int32), u)) else (some ((1 : Int32), u)))
def sp_Integer_bitCount (a1 : Int32) (u : St) : Option (Int32 × St) :=
  nm_k (a1 - (((a1.toUInt32 >>> ((1 : Int32).toUInt32 &&& Int32.toUInt32 31)).toInt32) &&& (1431655765 : Int32))) (fun v0_1 => (nm_k ((v0_1 &&& (858993459 : Int32)) + (((v0_1.toUInt32 >>> ((2 : Int32).toUInt32 &&& Int32.toUInt32 31)).toInt32) &&& (858993459 : Int32))) (fun v0_2 => (nm_k ((v0_2 + ((v0_2.toUInt32 >>> ((4 : Int32).toUInt32 &&& Int32.toUInt32 31)).toInt32)) &&& (252645135 : Int32)) (fun v0_3 => (nm_k (v0_3 + ((v0_3.toUInt32 >>> ((8 : Int32).toUInt32 &&& Int32.toUInt32 31)).toInt32)) (fun v0_4 => (nm_k (v0_4 + ((v0_4.toUInt32 >>> ((16 : Int32).toUInt32 &&& Int32.toUInt32 31)).toInt32)) (fun v0_5 => (some ((v0_5 &&& (63 : Int32)), u)))))))))))
def sp_CN_isOneToThreeConditions (a1 : Int32) (u : St) : Option (Int32 × St) :=
  if ((a1.toUInt32 >>> ((8 : Int32).toUInt32 &&& Int32.toUInt32 31)).toInt32) = 0 then (cl_k (sp_Integer_bitCount a1 u) (fun r1 u2 => (cl_k (sp_CN_isBetween r1 (1 : Int32) (3 : Int32) u2) (fun r4 u5 => (if r4 = 0 then (some ((0 : Int32), u5)) else (some ((1 : Int32), u5))))))) else (some ((0 : Int32), u))
def sp_Task_putWork (t : Nat) (a1 : Int32) (a2 : Int32) (a3 : Int32) (a4 : Int32) (u : St) : Option (Int32 × St) :=
  nm_k (ly_pi u (9 + 6 * t) 7 a1) (fun u1 => (nm_k (ly_pi u1 (9 + 6 * t) 8 a2) (fun u2 => (nm_k (ly_pi u2 (9 + 6 * t) 9 a3) (fun u3 => (nm_k (ly_pi u3 (9 + 6 * t) 10 a4) (fun u4 => (some ((0 : Int32), u4)))))))))
def sp_Task_putGuard (t : Nat) (a1 : Int32) (a2 : Int32) (a3 : Int32) (a4 : Int32) (u : St) : Option (Int32 × St) :=
  if ib a1 8 = true then (nm_k (ly_pi u (9 + 6 * t + 3) a1.toNatClampNeg a2) (fun u2 => (if ib a1 8 = true then (nm_k (ly_pi u2 (9 + 6 * t + 4) a1.toNatClampNeg a3) (fun u4 => (if ib a1 8 = true then (nm_k (ly_pi u4 (9 + 6 * t + 5) a1.toNatClampNeg a4) (fun u6 => (some ((0 : Int32), u6)))) else none))) else none))) else none
def sp_Task_isMoveOf (a1 : Int32) (a2 : Int32) (a3 : Int32) (u : St) : Option (Int32 × St) :=
  if a1 = (0 : Int32) then (if a2 = a3 then (some ((1 : Int32), u)) else (some ((0 : Int32), u))) else (if a1 = (1 : Int32) then (cl_k (sp_Integer_bitCount a2 u) (fun r2 u3 => (if r2 = (1 : Int32) then (some ((1 : Int32), u3)) else (some ((0 : Int32), u3))))) else (some ((1 : Int32), u)))
def lp_Task_listTakes_7 (F : Nat) (t0 : Nat) (k7 : Int32 → St → Option (Int32 × St)) : Nat → Int32 → St → Option (Int32 × St)
  | 0, _, _ => none
  | n + 1, v1, u => if (u.1 (9 + 6 * t0) 4) < v1 then (k7 v1 u) else (if (v1 &&& ((u.1 (9 + 6 * t0) 4) ^^^ (-1 : Int32))) = 0 then (if (u.1 (9 + 6 * t0) 2) = 0 then (cl_k (sp_Task_isMoveOf (0 : Int32) v1 (u.1 (9 + 6 * t0) 4) u) (fun r8 u9 => (if r8 = 0 then (lp_Task_listTakes_7 F t0 k7 n (v1 + (1 : Int32)) u9) else (if ib (u9.1 (9 + 6 * t0) 14) 3 = true then (nm_k (ly_pi u9 (9 + 6 * t0 + 1) (u9.1 (9 + 6 * t0) 14).toNatClampNeg v1) (fun u12 => (nm_k (ly_pi u12 (9 + 6 * t0) 14 ((u12.1 (9 + 6 * t0) 14) + (1 : Int32))) (fun u13 => (lp_Task_listTakes_7 F t0 k7 n (v1 + (1 : Int32)) u13))))) else none)))) else (cl_k (sp_Task_isMoveOf (1 : Int32) v1 (u.1 (9 + 6 * t0) 4) u) (fun r2 u3 => (if r2 = 0 then (lp_Task_listTakes_7 F t0 k7 n (v1 + (1 : Int32)) u3) else (if ib (u3.1 (9 + 6 * t0) 14) 3 = true then (nm_k (ly_pi u3 (9 + 6 * t0 + 1) (u3.1 (9 + 6 * t0) 14).toNatClampNeg v1) (fun u6 => (nm_k (ly_pi u6 (9 + 6 * t0) 14 ((u6.1 (9 + 6 * t0) 14) + (1 : Int32))) (fun u7 => (lp_Task_listTakes_7 F t0 k7 n (v1 + (1 : Int32)) u7))))) else none))))) else (lp_Task_listTakes_7 F t0 k7 n (v1 + (1 : Int32)) u))
def sp_Task_listTakes (F : Nat) (t : Nat) (u : St) : Option (Int32 × St) :=
  nm_k (ly_pi u (9 + 6 * t) 14 (0 : Int32)) (fun u1 => (lp_Task_listTakes_7 F t (fun (v1_14 : Int32) (u15 : St) => (some ((0 : Int32), u15))) F (1 : Int32) u1))
def lp_Task_listPuts_7 (F : Nat) (t0 : Nat) (k7 : Int32 → St → Option (Int32 × St)) : Nat → Int32 → St → Option (Int32 × St)
  | 0, _, _ => none
  | n + 1, v1, u => if (u.1 (9 + 6 * t0) 5) < v1 then (k7 v1 u) else (if (v1 &&& ((u.1 (9 + 6 * t0) 5) ^^^ (-1 : Int32))) = 0 then (cl_k (sp_Task_isMoveOf (u.1 (9 + 6 * t0) 3) v1 (u.1 (9 + 6 * t0) 5) u) (fun r2 u3 => (if r2 = 0 then (lp_Task_listPuts_7 F t0 k7 n (v1 + (1 : Int32)) u3) else (if ib (u3.1 (9 + 6 * t0) 15) 7 = true then (nm_k (ly_pi u3 (9 + 6 * t0 + 2) (u3.1 (9 + 6 * t0) 15).toNatClampNeg v1) (fun u6 => (nm_k (ly_pi u6 (9 + 6 * t0) 15 ((u6.1 (9 + 6 * t0) 15) + (1 : Int32))) (fun u7 => (lp_Task_listPuts_7 F t0 k7 n (v1 + (1 : Int32)) u7))))) else none)))) else (lp_Task_listPuts_7 F t0 k7 n (v1 + (1 : Int32)) u))
def sp_Task_listPuts (F : Nat) (t : Nat) (u : St) : Option (Int32 × St) :=
  nm_k (ly_pi u (9 + 6 * t) 15 (0 : Int32)) (fun u1 => (lp_Task_listPuts_7 F t (fun (v1_8 : Int32) (u9 : St) => (some ((0 : Int32), u9))) F (1 : Int32) u1))
def lp_Task_define_42 (F : Nat) (t0 : Nat) (v1 : Int32) (v2 : Int32) (v3 : Int32) (v4 : Int32) (k42 : Int32 → St → Option (Int32 × St)) : Nat → Int32 → St → Option (Int32 × St)
  | 0, _, _ => none
  | n + 1, v5, u => if (8 : Int32) ≤ v5 then (k42 v5 u) else (cl_k (sp_Task_putGuard t0 v5 (0 : Int32) (-2147483648 : Int32) (2147483647 : Int32) u) (fun r10 u11 => (lp_Task_define_42 F t0 v1 v2 v3 v4 k42 n (v5 + (1 : Int32)) u11)))
def sp_Task_define (F : Nat) (t : Nat) (a1 : Int32) (a2 : Int32) (a3 : Int32) (a4 : Int32) (u : St) : Option (Int32 × St) :=
  nm_k (ly_pi u (9 + 6 * t) 1 (1 : Int32)) (fun u1 => (nm_k (ly_pi u1 (9 + 6 * t) 2 a1) (fun u2 => (nm_k (ly_pi u2 (9 + 6 * t) 3 a2) (fun u3 => (nm_k (ly_pi u3 (9 + 6 * t) 4 a3) (fun u4 => (nm_k (ly_pi u4 (9 + 6 * t) 5 a4) (fun u5 => (nm_k (ly_pi u5 (9 + 6 * t) 6 (0 : Int32)) (fun u6 => (cl_k (sp_Task_putWork t (1 : Int32) (1 : Int32) (0 : Int32) (0 : Int32) u6) (fun r7 u8 => (lp_Task_define_42 F t a1 a2 a3 a4 (fun (v5_13 : Int32) (u14 : St) => (cl_k (sp_Task_listTakes F t u14) (fun r15 u16 => (cl_k (sp_Task_listPuts F t u16) (fun r18 u19 => (some ((0 : Int32), u19))))))) F (0 : Int32) u8))))))))))))))
def sp_CN_task (F : Nat) (a1 : Int32) (a2 : Int32) (a3 : Int32) (a4 : Int32) (a5 : Int32) (u : St) : Option (Int32 × St) :=
  if (u.1 (0) 3) = 0 then (cl_k (sp_CN_isBetween a1 (0 : Int32) (5 : Int32) u) (fun r1 u2 => (if r1 = 0 then (some ((0 : Int32), u2)) else (cl_k (sp_CN_isBetween a2 (0 : Int32) (2 : Int32) u2) (fun r4 u5 => (if r4 = 0 then (some ((0 : Int32), u5)) else (cl_k (sp_CN_isBetween a3 (0 : Int32) (2 : Int32) u5) (fun r7 u8 => (if r7 = 0 then (some ((0 : Int32), u8)) else (cl_k (sp_CN_isOneToThreeConditions a4 u8) (fun r10 u11 => (if r10 = 0 then (some ((0 : Int32), u11)) else (cl_k (sp_CN_isOneToThreeConditions a5 u11) (fun r13 u14 => (if r13 = 0 then (some ((0 : Int32), u14)) else (if ib a1 6 = true then (cl_k (sp_Task_define F a1.toNatClampNeg a2 a3 a4 a5 u14) (fun r18 u19 => (some ((1 : Int32), u19)))) else none)))))))))))))))) else (some ((0 : Int32), u))
def sp_Net_isDefined (a1 : Int32) (u : St) : Option (Int32 × St) :=
  cl_k (sp_CN_isBetween a1 (0 : Int32) (5 : Int32) u) (fun r1 u2 => (if r1 = 0 then (some ((0 : Int32), u2)) else (if ib a1 6 = true then (if (u2.1 (9 + 6 * a1.toNatClampNeg) 1) = 0 then (some ((0 : Int32), u2)) else (some ((1 : Int32), u2))) else none)))
def sp_CN_isMaskOfPlaces (a1 : Int32) (u : St) : Option (Int32 × St) :=
  if ((a1.toUInt32 >>> ((14 : Int32).toUInt32 &&& Int32.toUInt32 31)).toInt32) = 0 then (some ((1 : Int32), u)) else (some ((0 : Int32), u))
def sp_CN_region (a1 : Int32) (a2 : Int32) (u : St) : Option (Int32 × St) :=
  if (u.1 (0) 3) = 0 then (cl_k (sp_Net_isDefined a1 u) (fun r1 u2 => (if r1 = 0 then (some ((0 : Int32), u2)) else (cl_k (sp_CN_isMaskOfPlaces a2 u2) (fun r4 u5 => (if r4 = 0 then (some ((0 : Int32), u5)) else (if ib a1 6 = true then (nm_k (ly_pi u5 (9 + 6 * a1.toNatClampNeg) 6 a2) (fun u9 => (some ((1 : Int32), u9)))) else none))))))) else (some ((0 : Int32), u))
def sp_CN_isVariable (a1 : Int32) (u : St) : Option (Int32 × St) :=
  cl_k (sp_CN_isBetween a1 (0 : Int32) (3 : Int32) u) (fun r1 u2 => (if r1 = 0 ∨ r1 = 1 then some (r1, u2) else none))
def sp_CN_guard (a1 : Int32) (a2 : Int32) (a3 : Int32) (a4 : Int32) (a5 : Int32) (u : St) : Option (Int32 × St) :=
  if (u.1 (0) 3) = 0 then (cl_k (sp_Net_isDefined a1 u) (fun r1 u2 => (if r1 = 0 then (some ((0 : Int32), u2)) else (cl_k (sp_CN_isVariable a3 u2) (fun r4 u5 => (if r4 = 0 then (some ((0 : Int32), u5)) else (cl_k (sp_CN_isBetween a2 (0 : Int32) (7 : Int32) u5) (fun r7 u8 => (if r7 = 0 then (some ((0 : Int32), u8)) else (if ib a1 6 = true then (if ((u8.1 (9 + 6 * a1.toNatClampNeg) 5) &&& ((1 : Int32) <<< (a2 &&& 31))) = 0 then (some ((0 : Int32), u8)) else (if ib a1 6 = true then (cl_k (sp_Task_putGuard a1.toNatClampNeg a2 a3 a4 a5 u8) (fun r14 u15 => (some ((1 : Int32), u15)))) else none)) else none)))))))))) else (some ((0 : Int32), u))
def sp_CN_items (a1 : Int32) (a2 : Int32) (a3 : Int32) (a4 : Int32) (a5 : Int32) (u : St) : Option (Int32 × St) :=
  if (u.1 (0) 3) = 0 then (cl_k (sp_Net_isDefined a1 u) (fun r1 u2 => (if r1 = 0 then (some ((0 : Int32), u2)) else (cl_k (sp_CN_isVariable a4 u2) (fun r4 u5 => (if r4 = 0 then (some ((0 : Int32), u5)) else (cl_k (sp_CN_isBetween a2 (1 : Int32) (4 : Int32) u5) (fun r7 u8 => (if r7 = 0 then (some ((0 : Int32), u8)) else (cl_k (sp_CN_isBetween a3 (1 : Int32) a2 u8) (fun r10 u11 => (if r10 = 0 then (some ((0 : Int32), u11)) else (cl_k (sp_CN_isBetween a5 (0 : Int32) (100 : Int32) u11) (fun r13 u14 => (if r13 = 0 then (some ((0 : Int32), u14)) else (if ib a1 6 = true then (cl_k (sp_Task_putWork a1.toNatClampNeg a2 a3 a4 a5 u14) (fun r18 u19 => (some ((1 : Int32), u19)))) else none)))))))))))))))) else (some ((0 : Int32), u))
def lp_Net_definedTasks_4 (F : Nat) (k4 : Int32 → Int32 → St → Option (Int32 × St)) : Nat → Int32 → Int32 → St → Option (Int32 × St)
  | 0, _, _, _ => none
  | n + 1, v1, v2, u => if (6 : Int32) ≤ v2 then (k4 v1 v2 u) else (if ib v2 6 = true then (if (u.1 (9 + 6 * v2.toNatClampNeg) 1) = 0 then (nm_k (v1 ||| (0 : Int32)) (fun v1_3 => (lp_Net_definedTasks_4 F k4 n v1_3 (v2 + (1 : Int32)) u))) else (nm_k (v1 ||| ((1 : Int32) <<< (v2 &&& 31))) (fun v1_4 => (lp_Net_definedTasks_4 F k4 n v1_4 (v2 + (1 : Int32)) u)))) else none)
def sp_Net_definedTasks (F : Nat) (u : St) : Option (Int32 × St) :=
  lp_Net_definedTasks_4 F (fun (v1_5 : Int32) (v2_6 : Int32) (u7 : St) => (some (v1_5, u7))) F (0 : Int32) (0 : Int32) u
def sp_CN_launch (F : Nat) (u : St) : Option (Int32 × St) :=
  if (u.1 (0) 3) = 0 then (cl_k (sp_Net_definedTasks F u) (fun r1 u2 => (if r1 = 0 then (some ((0 : Int32), u2)) else (nm_k (ly_pi u2 (0) 3 (1 : Int32)) (fun u4 => (nm_k (ly_pi u4 (0) 4 (1 : Int32)) (fun u5 => (some ((1 : Int32), u5))))))))) else (some ((0 : Int32), u))
def sp_Work_isOpen (a1 : Int32) (u : St) : Option (Int32 × St) :=
  if ib a1 61 = true then (if (u.1 (47) a1.toNatClampNeg) = (1 : Int32) then (some ((1 : Int32), u)) else (if ib a1 61 = true then (if (u.1 (47) a1.toNatClampNeg) = (2 : Int32) then (some ((1 : Int32), u)) else (some ((0 : Int32), u))) else none)) else none
def lp_Work_withdrawOpen_2 (F : Nat) (v1 : Int32) (v2 : Int32) (k2 : Int32 → St → Option (Int32 × St)) : Nat → Int32 → St → Option (Int32 × St)
  | 0, _, _ => none
  | n + 1, v3, u => if (v1 + v2) ≤ v3 then (k2 v3 u) else (cl_k (sp_Work_isOpen v3 u) (fun r1 u2 => (if r1 = 0 then (lp_Work_withdrawOpen_2 F v1 v2 k2 n (v3 + (1 : Int32)) u2) else (if ib v3 61 = true then (nm_k (ly_pi u2 (47) v3.toNatClampNeg (5 : Int32)) (fun u5 => (lp_Work_withdrawOpen_2 F v1 v2 k2 n (v3 + (1 : Int32)) u5))) else none))))
def sp_Work_withdrawOpen (F : Nat) (a1 : Int32) (a2 : Int32) (u : St) : Option (Int32 × St) :=
  lp_Work_withdrawOpen_2 F a1 a2 (fun (v3_6 : Int32) (u7 : St) => (some ((0 : Int32), u7))) F a1 u
def sp_CN_stop (F : Nat) (t : Nat) (u : St) : Option (Int32 × St) :=
  cl_k (sp_Work_withdrawOpen F (u.1 (9 + 6 * t) 11) (u.1 (9 + 6 * t) 7) u) (fun r1 u2 => (nm_k (ly_pi u2 (0) 4 ((u2.1 (0) 4) &&& ((u2.1 (9 + 6 * t) 0) ^^^ (-1 : Int32)))) (fun u4 => (some ((0 : Int32), u4)))))
def lp_CN_stopTasksAmong_2 (F : Nat) (v1 : Int32) (k2 : Int32 → St → Option (Int32 × St)) : Nat → Int32 → St → Option (Int32 × St)
  | 0, _, _ => none
  | n + 1, v2, u => if (6 : Int32) ≤ v2 then (k2 v2 u) else (if ib v2 6 = true then (if (((u.1 (0) 4) &&& v1) &&& (u.1 (9 + 6 * v2.toNatClampNeg) 0)) = 0 then (lp_CN_stopTasksAmong_2 F v1 k2 n (v2 + (1 : Int32)) u) else (cl_k (sp_CN_stop F v2.toNatClampNeg u) (fun r3 u4 => (lp_CN_stopTasksAmong_2 F v1 k2 n (v2 + (1 : Int32)) u4)))) else none)
def sp_CN_stopTasksAmong (F : Nat) (a1 : Int32) (u : St) : Option (Int32 × St) :=
  lp_CN_stopTasksAmong_2 F a1 (fun (v2_6 : Int32) (u7 : St) => (some ((0 : Int32), u7))) F (0 : Int32) u
def sp_CN_cancel (F : Nat) (u : St) : Option (Int32 × St) :=
  if (u.1 (0) 3) = 0 then (some ((0 : Int32), u)) else (cl_k (sp_CN_stopTasksAmong F (u.1 (0) 4) u) (fun r1 u2 => (nm_k (ly_pi u2 (0) 4 (0 : Int32)) (fun u4 => (nm_k (ly_pi u4 (0) 3 (0 : Int32)) (fun u5 => (some ((1 : Int32), u5))))))))
def lp_Arrays_fill_6 (F : Nat) (q0 : Nat) (v1 : Int64) (v4 : Int32) (k6 : Int32 → St → Option (Int32 × St)) : Nat → Int32 → St → Option (Int32 × St)
  | 0, _, _ => none
  | n + 1, v3, u => if v4 ≤ v3 then (k6 v3 u) else (if ib v3 256 = true then (nm_k (ly_pl u (q0 + 1) v3.toNatClampNeg v1) (fun u2 => (lp_Arrays_fill_6 F q0 v1 v4 k6 n (v3 + (1 : Int32)) u2))) else none)
def sp_Arrays_fill (F : Nat) (q : Nat) (a2 : Int64) (u : St) : Option (Int32 × St) :=
  lp_Arrays_fill_6 F q a2 (256 : Int32) (fun (v3_3 : Int32) (u4 : St) => (some ((0 : Int32), u4))) F (0 : Int32) u
def sp_MS_clear (F : Nat) (q : Nat) (u : St) : Option (Int32 × St) :=
  cl_k (sp_Arrays_fill F q (0 : Int64) u) (fun r1 u2 => (nm_k (ly_pi u2 (q) 1 (256 : Int32)) (fun u4 => (some ((0 : Int32), u4)))))
def sp_MS_has (q : Nat) (a1 : Int32) (u : St) : Option (Int32 × St) :=
  if ib (a1 >>> ((6 : Int32) &&& 31)) 256 = true then (if (lg_cmp ((((u.2 (q + 1) (a1 >>> ((6 : Int32) &&& 31)).toNatClampNeg).toUInt64 >>> ((a1 &&& (63 : Int32)).toInt64.toUInt64 &&& Int64.toUInt64 63)).toInt64) &&& (1 : Int64)) (0 : Int64)) = 0 then (some ((0 : Int32), u)) else (some ((1 : Int32), u))) else none
def lp_MS_addAllAbove_7 (F : Nat) (q0 : Nat) (v1 : Int32) (k7 : Int64 → Int32 → St → Option (Int32 × St)) : Nat → Int64 → Int32 → St → Option (Int32 × St)
  | 0, _, _, _ => none
  | n + 1, v2, v4, u => if (6 : Int32) ≤ v4 then (k7 v2 v4 u) else (if (v1 &&& ((1 : Int32) <<< (v4 &&& 31))) = 0 then (lp_MS_addAllAbove_7 F q0 v1 k7 n v2 (v4 + (1 : Int32)) u) else (if ib v4 6 = true then (nm_k (v2 &&& (hv_T v4.toNatClampNeg)) (fun v2_3 => (lp_MS_addAllAbove_7 F q0 v1 k7 n v2_3 (v4 + (1 : Int32)) u))) else none))
def lp_MS_addAllAbove_48 (F : Nat) (q0 : Nat) (v1 : Int32) (v2 : Int64) (v4 : Int32) (k48 : Int32 → St → Option (Int32 × St)) : Nat → Int32 → St → Option (Int32 × St)
  | 0, _, _ => none
  | n + 1, v5, u => if (256 : Int32) ≤ v5 then (k48 v5 u) else (if ib v5 256 = true then (if ib v5 256 = true then (nm_k (ly_pl u (q0 + 1) v5.toNatClampNeg ((u.2 (q0 + 1) v5.toNatClampNeg) ||| v2)) (fun u10 => (nm_k ((v5 + (1 : Int32)) ||| v4) (fun v5_11 => (lp_MS_addAllAbove_48 F q0 v1 v2 v4 k48 n v5_11 u10))))) else none) else none)
def sp_MS_addAllAbove (F : Nat) (q : Nat) (a1 : Int32) (u : St) : Option (Int32 × St) :=
  nm_k (-1 : Int64) (fun v2_1 => (lp_MS_addAllAbove_7 F q a1 (fun (v2_4 : Int64) (v4_5 : Int32) (u6 : St) => (nm_k (a1 >>> ((6 : Int32) &&& 31)) (fun v4_7 => (lp_MS_addAllAbove_48 F q a1 v2_4 v4_7 (fun (v5_12 : Int32) (u13 : St) => (if (u13.1 (q) 1) ≤ v4_7 then (nm_k (ly_pi u13 (q) 1 (u13.1 (q) 1)) (fun u14 => (some ((0 : Int32), u14)))) else (nm_k (ly_pi u13 (q) 1 v4_7) (fun u15 => (some ((0 : Int32), u15)))))) F v4_7 u6)))) F v2_1 (0 : Int32) u))
def sp_MS_add (q : Nat) (a1 : Int32) (u : St) : Option (Int32 × St) :=
  nm_k (a1 >>> ((6 : Int32) &&& 31)) (fun v2_1 => (if ib v2_1 256 = true then (if ib v2_1 256 = true then (nm_k (ly_pl u (q + 1) v2_1.toNatClampNeg ((u.2 (q + 1) v2_1.toNatClampNeg) ||| (((1 : Int64) <<< ((a1 &&& (63 : Int32)).toInt64 &&& 63))))) (fun u4 => (if (u4.1 (q) 1) ≤ v2_1 then (nm_k (ly_pi u4 (q) 1 (u4.1 (q) 1)) (fun u5 => (some ((0 : Int32), u5)))) else (nm_k (ly_pi u4 (q) 1 v2_1) (fun u6 => (some ((0 : Int32), u6))))))) else none) else none))
def sp_Net_addNeed (F : Nat) (a1 : Int32) (u : St) : Option (Int32 × St) :=
  cl_k (sp_MS_has 7 a1 u) (fun r1 u2 => (if r1 = 0 then (cl_k (sp_MS_addAllAbove F 7 a1 u2) (fun r4 u5 => (cl_k (sp_MS_add 3 a1 u5) (fun r7 u8 => (some ((0 : Int32), u8)))))) else (some ((0 : Int32), u2))))
def sp_Long_bitCount (a1 : Int64) (u : St) : Option (Int32 × St) :=
  nm_k (a1 - (((a1.toUInt64 >>> ((1 : Int32).toInt64.toUInt64 &&& Int64.toUInt64 63)).toInt64) &&& (6148914691236517205 : Int64))) (fun v0_1 => (nm_k ((v0_1 &&& (3689348814741910323 : Int64)) + (((v0_1.toUInt64 >>> ((2 : Int32).toInt64.toUInt64 &&& Int64.toUInt64 63)).toInt64) &&& (3689348814741910323 : Int64))) (fun v0_2 => (nm_k ((v0_2 + ((v0_2.toUInt64 >>> ((4 : Int32).toInt64.toUInt64 &&& Int64.toUInt64 63)).toInt64)) &&& (1085102592571150095 : Int64)) (fun v0_3 => (nm_k (v0_3 + ((v0_3.toUInt64 >>> ((8 : Int32).toInt64.toUInt64 &&& Int64.toUInt64 63)).toInt64)) (fun v0_4 => (nm_k (v0_4 + ((v0_4.toUInt64 >>> ((16 : Int32).toInt64.toUInt64 &&& Int64.toUInt64 63)).toInt64)) (fun v0_5 => (nm_k (v0_5 + ((v0_5.toUInt64 >>> ((32 : Int32).toInt64.toUInt64 &&& Int64.toUInt64 63)).toInt64)) (fun v0_6 => (some ((v0_6.toInt32 &&& (127 : Int32)), u)))))))))))))
def lp_MS_draw_0 (F : Nat) (q0 : Nat) (k0 : St → Option (Int32 × St)) : Nat → St → Option (Int32 × St)
  | 0, _ => none
  | n + 1, u => if (256 : Int32) ≤ (u.1 (q0) 1) then (k0 u) else (if ib (u.1 (q0) 1) 256 = true then (nm_k (u.2 (q0 + 1) (u.1 (q0) 1).toNatClampNeg) (fun v1_2 => (if (lg_cmp v1_2 (0 : Int64)) = 0 then (nm_k (ly_pi u (q0) 1 ((u.1 (q0) 1) + (1 : Int32))) (fun u3 => (lp_MS_draw_0 F q0 k0 n u3))) else (nm_k (v1_2 &&& (-v1_2)) (fun v3_4 => (if ib (u.1 (q0) 1) 256 = true then (nm_k (ly_pl u (q0 + 1) (u.1 (q0) 1).toNatClampNeg (v1_2 ^^^ v3_4)) (fun u6 => (cl_k (sp_Long_bitCount (v3_4 - (1 : Int64)) u6) (fun r7 u8 => (some ((((u6.1 (q0) 1) <<< ((6 : Int32) &&& 31)) + r7), u8)))))) else none)))))) else none)
def sp_MS_draw (F : Nat) (q : Nat) (u : St) : Option (Int32 × St) :=
  lp_MS_draw_0 F q (fun (u10 : St) => (some ((-1 : Int32), u10))) F u
def lp_Net_goBackBeforeEnd_13 (F : Nat) (t1 : Nat) (v2 : Int32) (v3 : Int32) (k13 : Int32 → St → Option (Int32 × St)) : Nat → Int32 → St → Option (Int32 × St)
  | 0, _, _ => none
  | n + 1, v4, u => if (u.1 (9 + 6 * t1) 15) ≤ v4 then (k13 v4 u) else (if ib v4 7 = true then (nm_k (v2 &&& ((u.1 (9 + 6 * t1 + 2) v4.toNatClampNeg) ^^^ (-1 : Int32))) (fun v5_3 => (if v5_3 = v2 then (lp_Net_goBackBeforeEnd_13 F t1 v2 v3 k13 n (v4 + (1 : Int32)) u) else (if (v5_3 &&& v3) = 0 then (cl_k (sp_Net_addNeed F (v5_3 ||| (u.1 (9 + 6 * t1) 0)) u) (fun r4 u5 => (lp_Net_goBackBeforeEnd_13 F t1 v2 v3 k13 n (v4 + (1 : Int32)) u5))) else (lp_Net_goBackBeforeEnd_13 F t1 v2 v3 k13 n (v4 + (1 : Int32)) u))))) else none)
def sp_Net_goBackBeforeEnd (F : Nat) (t : Nat) (a2 : Int32) (u : St) : Option (Int32 × St) :=
  nm_k ((u.1 (9 + 6 * t) 6) ||| (u.1 (9 + 6 * t) 0)) (fun v3_1 => (lp_Net_goBackBeforeEnd_13 F t a2 v3_1 (fun (v4_7 : Int32) (u8 : St) => (some ((0 : Int32), u8))) F (0 : Int32) u))
def lp_Net_goBackBeforeBegin_18 (F : Nat) (t1 : Nat) (v2 : Int32) (v3 : Int32) (k18 : Int32 → St → Option (Int32 × St)) : Nat → Int32 → St → Option (Int32 × St)
  | 0, _, _ => none
  | n + 1, v4, u => if (u.1 (9 + 6 * t1) 14) ≤ v4 then (k18 v4 u) else (if ib v4 3 = true then (if (v3 &&& (u.1 (9 + 6 * t1 + 1) v4.toNatClampNeg)) = 0 then (if ib v4 3 = true then (cl_k (sp_Net_addNeed F (v3 ||| (u.1 (9 + 6 * t1 + 1) v4.toNatClampNeg)) u) (fun r4 u5 => (lp_Net_goBackBeforeBegin_18 F t1 v2 v3 k18 n (v4 + (1 : Int32)) u5))) else none) else (lp_Net_goBackBeforeBegin_18 F t1 v2 v3 k18 n (v4 + (1 : Int32)) u)) else none)
def sp_Net_goBackBeforeBegin (F : Nat) (t : Nat) (a2 : Int32) (u : St) : Option (Int32 × St) :=
  nm_k (a2 &&& ((u.1 (9 + 6 * t) 0) ^^^ (-1 : Int32))) (fun v3_1 => (if v3_1 = a2 then (some ((0 : Int32), u)) else (lp_Net_goBackBeforeBegin_18 F t a2 v3_1 (fun (v4_7 : Int32) (u8 : St) => (some ((0 : Int32), u8))) F (0 : Int32) u)))
def lp_Net_findCovering_60 (F : Nat) (v1 : Int32) (v2 : Int32) (v3 : Int32) (v4 : Int32) (v5 : Int32) (k60 : Int32 → St → Option (Int32 × St)) : Nat → Int32 → St → Option (Int32 × St)
  | 0, _, _ => none
  | n + 1, v6, u => if (6 : Int32) ≤ v6 then (k60 v6 u) else (if v6 = v3 then (lp_Net_findCovering_60 F v1 v2 v3 v4 v5 k60 n (v6 + (1 : Int32)) u) else (if ib v6 6 = true then (if (u.1 (9 + 6 * v6.toNatClampNeg) 1) = 0 then (lp_Net_findCovering_60 F v1 v2 v3 v4 v5 k60 n (v6 + (1 : Int32)) u) else (if ib v6 6 = true then (cl_k (sp_Net_goBackBeforeEnd F v6.toNatClampNeg v5 u) (fun r20 u21 => (if ib v6 6 = true then (cl_k (sp_Net_goBackBeforeBegin F v6.toNatClampNeg v5 u21) (fun r25 u26 => (lp_Net_findCovering_60 F v1 v2 v3 v4 v5 k60 n (v6 + (1 : Int32)) u26))) else none))) else none)) else none))
def lp_Net_findCovering_24 (F : Nat) (v1 : Int32) (v2 : Int32) (v3 : Int32) (k24 : Int32 → St → Option (Int32 × St)) : Nat → Int32 → St → Option (Int32 × St)
  | 0, _, _ => none
  | n + 1, v4, u => if v4 ≤ 0 then (k24 v4 u) else (cl_k (sp_MS_has 7 v2 u) (fun r10 u11 => (if r10 = 0 then (cl_k (sp_MS_draw F 3 u11) (fun r13 u14 => (if r13 = (-1 : Int32) then (some ((0 : Int32), u14)) else (lp_Net_findCovering_60 F v1 v2 v3 v4 r13 (fun (v6_28 : Int32) (u29 : St) => (lp_Net_findCovering_24 F v1 v2 v3 k24 n (v4 + (-1 : Int32)) u29)) F (0 : Int32) u14)))) else (k24 v4 u11))))
def sp_Net_findCovering (F : Nat) (a1 : Int32) (a2 : Int32) (a3 : Int32) (u : St) : Option (Int32 × St) :=
  cl_k (sp_MS_clear F 7 u) (fun r1 u2 => (cl_k (sp_MS_clear F 3 u2) (fun r4 u5 => (cl_k (sp_Net_addNeed F a1 u5) (fun r7 u8 => (lp_Net_findCovering_24 F a1 a2 a3 (fun (v4_30 : Int32) (u31 : St) => (cl_k (sp_MS_has 7 a2 u31) (fun r32 u33 => (if r32 = 0 ∨ r32 = 1 then some (r32, u33) else none)))) F (16384 : Int32) u8))))))
def lp_CN_canMoreInputsCome_15 (F : Nat) (v1 : Int32) (v2 : Int32) (k15 : Int32 → St → Option (Int32 × St)) : Nat → Int32 → St → Option (Int32 × St)
  | 0, _, _ => none
  | n + 1, v3, u => if (8 : Int32) ≤ v3 then (k15 v3 u) else (nm_k ((v2 &&& ((u.1 (0) 4) ^^^ (-1 : Int32))) &&& ((1 : Int32) <<< (v3 &&& 31))) (fun v4_4 => (if v4_4 = 0 then (lp_CN_canMoreInputsCome_15 F v1 v2 k15 n (v3 + (1 : Int32)) u) else (cl_k (sp_Net_findCovering F (((u.1 (0) 4) &&& v2) ||| v4_4) (u.1 (0) 4) v1 u) (fun r5 u6 => (if r5 = 0 then (lp_CN_canMoreInputsCome_15 F v1 v2 k15 n (v3 + (1 : Int32)) u6) else (some ((1 : Int32), u6))))))))
def sp_CN_canMoreInputsCome (F : Nat) (a1 : Int32) (u : St) : Option (Int32 × St) :=
  if ib a1 6 = true then (nm_k (u.1 (9 + 6 * a1.toNatClampNeg) 4) (fun v2_3 => (lp_CN_canMoreInputsCome_15 F a1 v2_3 (fun (v3_8 : Int32) (u9 : St) => (some ((0 : Int32), u9))) F (0 : Int32) u))) else none
def sp_CN_canFire (F : Nat) (a1 : Int32) (u : St) : Option (Int32 × St) :=
  if (u.1 (0) 3) = 0 then (some ((0 : Int32), u)) else (cl_k (sp_Net_isDefined a1 u) (fun r1 u2 => (if r1 = 0 then (some ((0 : Int32), u2)) else (if ib a1 6 = true then (nm_k ((u2.1 (0) 4) &&& (u2.1 (9 + 6 * a1.toNatClampNeg) 4)) (fun v3_6 => (if ((u2.1 (0) 4) &&& (u2.1 (9 + 6 * a1.toNatClampNeg) 0)) = 0 then (if v3_6 = 0 then (some ((0 : Int32), u2)) else (if (u2.1 (9 + 6 * a1.toNatClampNeg) 2) = (0 : Int32) then (if v3_6 = (u2.1 (9 + 6 * a1.toNatClampNeg) 4) then (some ((1 : Int32), u2)) else (some ((0 : Int32), u2))) else (if (u2.1 (9 + 6 * a1.toNatClampNeg) 2) = (1 : Int32) then (some ((1 : Int32), u2)) else (cl_k (sp_CN_canMoreInputsCome F a1 u2) (fun r9 u10 => (if r9 = 0 then (some ((1 : Int32), u10)) else (some ((0 : Int32), u10)))))))) else (some ((0 : Int32), u2))))) else none))))
def lp_CN_enabled_4 (F : Nat) (k4 : Int32 → Int32 → St → Option (Int32 × St)) : Nat → Int32 → Int32 → St → Option (Int32 × St)
  | 0, _, _, _ => none
  | n + 1, v1, v2, u => if (6 : Int32) ≤ v2 then (k4 v1 v2 u) else (cl_k (sp_CN_canFire F v2 u) (fun r1 u2 => (if r1 = 0 then (lp_CN_enabled_4 F k4 n v1 (v2 + (1 : Int32)) u2) else (nm_k (v1 ||| ((1 : Int32) <<< (v2 &&& 31))) (fun v1_4 => (lp_CN_enabled_4 F k4 n v1_4 (v2 + (1 : Int32)) u2))))))
def sp_CN_enabled (F : Nat) (u : St) : Option (Int32 × St) :=
  lp_CN_enabled_4 F (fun (v1_5 : Int32) (v2_6 : Int32) (u7 : St) => (some (v1_5, u7))) F (0 : Int32) (0 : Int32) u
def sp_Work_hasRoomFor (a1 : Int32) (u : St) : Option (Int32 × St) :=
  if (60 : Int32) < ((u.1 (45) 3) + a1) then (some ((0 : Int32), u)) else (some ((1 : Int32), u))
def sp_Task_inputsUsed (t : Nat) (a1 : Int32) (u : St) : Option (Int32 × St) :=
  nm_k (a1 &&& (u.1 (9 + 6 * t) 4)) (fun v2_1 => (if (u.1 (9 + 6 * t) 2) = (1 : Int32) then (some ((v2_1 &&& (-v2_1)), u)) else (some (v2_1, u))))
def lp_Work_offer_12 (F : Nat) (v1 : Int32) (v2 : Int32) (v3 : Int32) (v4 : Int32) (k12 : Int32 → St → Option (Int32 × St)) : Nat → Int32 → St → Option (Int32 × St)
  | 0, _, _ => none
  | n + 1, v5, u => if (v4 + v2) ≤ v5 then (k12 v5 u) else (if ib v5 61 = true then (nm_k (ly_pi u (46) v5.toNatClampNeg v1) (fun u3 => (if ib v5 61 = true then (nm_k (ly_pi u3 (47) v5.toNatClampNeg (1 : Int32)) (fun u5 => (if ib v5 61 = true then (nm_k (ly_pi u5 (48) v5.toNatClampNeg v3) (fun u7 => (lp_Work_offer_12 F v1 v2 v3 v4 k12 n (v5 + (1 : Int32)) u7))) else none))) else none))) else none)
def sp_Work_offer (F : Nat) (a1 : Int32) (a2 : Int32) (a3 : Int32) (u : St) : Option (Int32 × St) :=
  nm_k ((u.1 (45) 3) + (1 : Int32)) (fun v4_1 => (lp_Work_offer_12 F a1 a2 a3 v4_1 (fun (v5_8 : Int32) (u9 : St) => (nm_k (ly_pi u9 (45) 3 ((u9.1 (45) 3) + a2)) (fun u10 => (some (v4_1, u10))))) F v4_1 u))
def sp_CN_fire (F : Nat) (a1 : Int32) (u : St) : Option (Int32 × St) :=
  cl_k (sp_Net_isDefined a1 u) (fun r1 u2 => (if r1 = 0 then (some ((-1 : Int32), u2)) else (cl_k (sp_CN_canFire F a1 u2) (fun r4 u5 => (if r4 = 0 then (some ((-2 : Int32), u5)) else (if ib a1 6 = true then (cl_k (sp_Work_hasRoomFor (u5.1 (9 + 6 * a1.toNatClampNeg) 7) u5) (fun r9 u10 => (if r9 = 0 then (some ((-3 : Int32), u10)) else (cl_k (sp_Task_inputsUsed a1.toNatClampNeg (u10.1 (0) 4) u10) (fun r12 u13 => (nm_k (ly_pi u13 (0) 4 (((u10.1 (0) 4) &&& (r12 ^^^ (-1 : Int32))) ||| (u13.1 (9 + 6 * a1.toNatClampNeg) 0))) (fun u15 => (cl_k (sp_Work_offer F a1 (u15.1 (9 + 6 * a1.toNatClampNeg) 7) (u15.1 (0) 5) u15) (fun r16 u17 => (nm_k (ly_pi u17 (9 + 6 * a1.toNatClampNeg) 11 r16) (fun u19 => (some ((u19.1 (9 + 6 * a1.toNatClampNeg) 11), u19))))))))))))) else none))))))
def sp_Work_has (a1 : Int32) (u : St) : Option (Int32 × St) :=
  if a1 < (1 : Int32) then (some ((0 : Int32), u)) else (if (u.1 (45) 3) < a1 then (some ((0 : Int32), u)) else (some ((1 : Int32), u)))
def sp_CN_start (a1 : Int32) (u : St) : Option (Int32 × St) :=
  cl_k (sp_Work_has a1 u) (fun r1 u2 => (if r1 = 0 then (some ((-1 : Int32), u2)) else (if ib a1 61 = true then (if (u2.1 (47) a1.toNatClampNeg) = (1 : Int32) then (if ib a1 61 = true then (nm_k (ly_pi u2 (47) a1.toNatClampNeg (2 : Int32)) (fun u6 => (some ((0 : Int32), u6)))) else none) else (some ((-2 : Int32), u2))) else none)))
def lp_Work_countCompleted_5 (F : Nat) (v1 : Int32) (v2 : Int32) (k5 : Int32 → Int32 → St → Option (Int32 × St)) : Nat → Int32 → Int32 → St → Option (Int32 × St)
  | 0, _, _, _ => none
  | n + 1, v3, v4, u => if (v1 + v2) ≤ v4 then (k5 v3 v4 u) else (if ib v4 61 = true then (if (u.1 (47) v4.toNatClampNeg) = (3 : Int32) then (lp_Work_countCompleted_5 F v1 v2 k5 n (v3 + (1 : Int32)) (v4 + (1 : Int32)) u) else (lp_Work_countCompleted_5 F v1 v2 k5 n v3 (v4 + (1 : Int32)) u)) else none)
def sp_Work_countCompleted (F : Nat) (a1 : Int32) (a2 : Int32) (u : St) : Option (Int32 × St) :=
  lp_Work_countCompleted_5 F a1 a2 (fun (v3_2 : Int32) (v4_3 : Int32) (u4 : St) => (some (v3_2, u4))) F (0 : Int32) a1 u
def sp_Task_guardHolds (t : Nat) (a1 : Int32) (u : St) : Option (Int32 × St) :=
  if ib a1 8 = true then (if ib (u.1 (9 + 6 * t + 3) a1.toNatClampNeg) 4 = true then (nm_k (u.1 (49) (u.1 (9 + 6 * t + 3) a1.toNatClampNeg).toNatClampNeg) (fun v3_3 => (if ib a1 8 = true then (if v3_3 < (u.1 (9 + 6 * t + 4) a1.toNatClampNeg) then (some ((0 : Int32), u)) else (if ib a1 8 = true then (if (u.1 (9 + 6 * t + 5) a1.toNatClampNeg) < v3_3 then (some ((0 : Int32), u)) else (some ((1 : Int32), u))) else none)) else none))) else none) else none
def lp_Task_chosenOutputs_19 (F : Nat) (t0 : Nat) (k19 : Int32 → Int32 → Int32 → St → Option (Int32 × St)) : Nat → Int32 → Int32 → Int32 → St → Option (Int32 × St)
  | 0, _, _, _, _ => none
  | n + 1, v2, v3, v4, u => if (8 : Int32) ≤ v4 then (k19 v2 v3 v4 u) else (if ((u.1 (9 + 6 * t0) 5) &&& ((1 : Int32) <<< (v4 &&& 31))) = 0 then (lp_Task_chosenOutputs_19 F t0 k19 n v2 v3 (v4 + (1 : Int32)) u) else (nm_k ((1 : Int32) <<< (v4 &&& 31)) (fun v3_1 => (cl_k (sp_Task_guardHolds t0 v4 u) (fun r2 u3 => (if r2 = 0 then (nm_k (v2 ||| (0 : Int32)) (fun v2_5 => (lp_Task_chosenOutputs_19 F t0 k19 n v2_5 v3_1 (v4 + (1 : Int32)) u3))) else (nm_k (v2 ||| v3_1) (fun v2_6 => (lp_Task_chosenOutputs_19 F t0 k19 n v2_6 v3_1 (v4 + (1 : Int32)) u3)))))))))
def sp_Task_chosenOutputs (F : Nat) (t : Nat) (u : St) : Option (Int32 × St) :=
  if (u.1 (9 + 6 * t) 3) = 0 then (some ((u.1 (9 + 6 * t) 5), u)) else (lp_Task_chosenOutputs_19 F t (fun (v2_7 : Int32) (v3_8 : Int32) (v4_9 : Int32) (u10 : St) => (if v2_7 = 0 then (some (v3_8, u10)) else (if (u10.1 (9 + 6 * t) 3) = (1 : Int32) then (some ((v2_7 &&& (-v2_7)), u10)) else (some (v2_7, u10))))) F (0 : Int32) (0 : Int32) (0 : Int32) u)
def sp_CN_end (F : Nat) (t : Nat) (u : St) : Option (Int32 × St) :=
  cl_k (sp_CN_stop F t u) (fun r1 u2 => (cl_k (sp_CN_stopTasksAmong F (u2.1 (9 + 6 * t) 6) u2) (fun r4 u5 => (cl_k (sp_Task_chosenOutputs F t u5) (fun r7 u8 => (nm_k (ly_pi u8 (0) 4 (((u5.1 (0) 4) &&& ((u5.1 (9 + 6 * t) 6) ^^^ (-1 : Int32))) ||| r7)) (fun u10 => (some ((0 : Int32), u10)))))))))
def lp_Work_isAnyOpen_2 (F : Nat) (v1 : Int32) (v2 : Int32) (k2 : Int32 → St → Option (Int32 × St)) : Nat → Int32 → St → Option (Int32 × St)
  | 0, _, _ => none
  | n + 1, v3, u => if (v1 + v2) ≤ v3 then (k2 v3 u) else (cl_k (sp_Work_isOpen v3 u) (fun r1 u2 => (if r1 = 0 then (lp_Work_isAnyOpen_2 F v1 v2 k2 n (v3 + (1 : Int32)) u2) else (some ((1 : Int32), u2)))))
def sp_Work_isAnyOpen (F : Nat) (a1 : Int32) (a2 : Int32) (u : St) : Option (Int32 × St) :=
  lp_Work_isAnyOpen_2 F a1 a2 (fun (v3_4 : Int32) (u5 : St) => (some ((0 : Int32), u5))) F a1 u
def sp_CN_stopIfNoneIsOpen (F : Nat) (t : Nat) (u : St) : Option (Int32 × St) :=
  cl_k (sp_Work_isAnyOpen F (u.1 (9 + 6 * t) 11) (u.1 (9 + 6 * t) 7) u) (fun r1 u2 => (if r1 = 0 then (cl_k (sp_CN_stop F t u2) (fun r4 u5 => (some ((1 : Int32), u5)))) else (some ((0 : Int32), u2))))
def sp_CN_finish (F : Nat) (a1 : Int32) (a2 : Int32) (u : St) : Option (Int32 × St) :=
  cl_k (sp_Work_has a1 u) (fun r1 u2 => (if r1 = 0 then (some ((-1 : Int32), u2)) else (if ib a1 61 = true then (if (u2.1 (47) a1.toNatClampNeg) = (2 : Int32) then (if ib a1 61 = true then (if ib (u2.1 (46) a1.toNatClampNeg) 6 = true then (if ib a1 61 = true then (nm_k (ly_pi u2 (47) a1.toNatClampNeg (3 : Int32)) (fun u9 => (if ib (u9.1 (9 + 6 * ((u2.1 (46) a1.toNatClampNeg).toNatClampNeg)) 9) 4 = true then (nm_k (ly_pi u9 (49) (u9.1 (9 + 6 * ((u2.1 (46) a1.toNatClampNeg).toNatClampNeg)) 9).toNatClampNeg a2) (fun u11 => (cl_k (sp_Work_countCompleted F (u11.1 (9 + 6 * ((u2.1 (46) a1.toNatClampNeg).toNatClampNeg)) 11) (u11.1 (9 + 6 * ((u2.1 (46) a1.toNatClampNeg).toNatClampNeg)) 7) u11) (fun r12 u13 => (if r12 < (u13.1 (9 + 6 * ((u2.1 (46) a1.toNatClampNeg).toNatClampNeg)) 8) then (cl_k (sp_CN_stopIfNoneIsOpen F ((u2.1 (46) a1.toNatClampNeg).toNatClampNeg) u13) (fun r15 u16 => (some ((0 : Int32), u16)))) else (cl_k (sp_CN_end F ((u2.1 (46) a1.toNatClampNeg).toNatClampNeg) u13) (fun r18 u19 => (some ((1 : Int32), u19))))))))) else none))) else none) else none) else none) else (some ((-2 : Int32), u2))) else none)))
def sp_CN_failOpen (F : Nat) (a1 : Int32) (u : St) : Option (Int32 × St) :=
  if ib a1 61 = true then (nm_k (ly_pi u (47) a1.toNatClampNeg (4 : Int32)) (fun u2 => (if ib a1 61 = true then (if ib (u2.1 (46) a1.toNatClampNeg) 6 = true then (cl_k (sp_CN_stopIfNoneIsOpen F ((u2.1 (46) a1.toNatClampNeg).toNatClampNeg) u2) (fun r6 u7 => (if r6 = 0 ∨ r6 = 1 then some (r6, u7) else none))) else none) else none))) else none
def sp_CN_fail (F : Nat) (a1 : Int32) (u : St) : Option (Int32 × St) :=
  cl_k (sp_Work_has a1 u) (fun r1 u2 => (if r1 = 0 then (some ((-1 : Int32), u2)) else (cl_k (sp_Work_isOpen a1 u2) (fun r4 u5 => (if r4 = 0 then (some ((-2 : Int32), u5)) else (cl_k (sp_CN_failOpen F a1 u5) (fun r7 u8 => (if r7 = 0 then (some ((0 : Int32), u8)) else (some ((1 : Int32), u8))))))))))
def sp_CN_isOverdue (a1 : Int32) (u : St) : Option (Int32 × St) :=
  if ib a1 61 = true then (if ib (u.1 (46) a1.toNatClampNeg) 6 = true then (nm_k (u.1 (9 + 6 * ((u.1 (46) a1.toNatClampNeg).toNatClampNeg)) 10) (fun v2_4 => (if v2_4 ≤ 0 then (some ((0 : Int32), u)) else (if ib a1 61 = true then (if ((u.1 (0) 5) - (u.1 (48) a1.toNatClampNeg)) < v2_4 then (some ((0 : Int32), u)) else (some ((1 : Int32), u))) else none)))) else none) else none
def lp_CN_tick_22 (F : Nat) (v1 : Int32) (k22 : Int32 → St → Option (Int32 × St)) : Nat → Int32 → St → Option (Int32 × St)
  | 0, _, _ => none
  | n + 1, v2, u => if (u.1 (45) 3) < v2 then (k22 v2 u) else (cl_k (sp_Work_isOpen v2 u) (fun r4 u5 => (if r4 = 0 then (lp_CN_tick_22 F v1 k22 n (v2 + (1 : Int32)) u5) else (cl_k (sp_CN_isOverdue v2 u5) (fun r7 u8 => (if r7 = 0 then (lp_CN_tick_22 F v1 k22 n (v2 + (1 : Int32)) u8) else (cl_k (sp_CN_failOpen F v2 u8) (fun r10 u11 => (lp_CN_tick_22 F v1 k22 n (v2 + (1 : Int32)) u11)))))))))
def sp_CN_tick (F : Nat) (a1 : Int32) (u : St) : Option (Int32 × St) :=
  cl_k (sp_CN_isBetween a1 (0 : Int32) (100 : Int32) u) (fun r1 u2 => (if r1 = 0 then (lp_CN_tick_22 F a1 (fun (v2_13 : Int32) (u14 : St) => (some ((u14.1 (0) 5), u14))) F (1 : Int32) u2) else (nm_k (ly_pi u2 (0) 5 ((u2.1 (0) 5) + a1)) (fun u15 => (lp_CN_tick_22 F a1 (fun (v2_16 : Int32) (u17 : St) => (some ((u17.1 (0) 5), u17))) F (1 : Int32) u15)))))
def sp_CN_set (a1 : Int32) (a2 : Int32) (u : St) : Option (Int32 × St) :=
  cl_k (sp_CN_isVariable a1 u) (fun r1 u2 => (if r1 = 0 then (some ((0 : Int32), u2)) else (if ib a1 4 = true then (nm_k (ly_pi u2 (49) a1.toNatClampNeg a2) (fun u5 => (some ((1 : Int32), u5)))) else none)))
def sp_CN_variable (a1 : Int32) (u : St) : Option (Int32 × St) :=
  cl_k (sp_CN_isVariable a1 u) (fun r1 u2 => (if r1 = 0 then (some ((0 : Int32), u2)) else (if ib a1 4 = true then (some ((u2.1 (49) a1.toNatClampNeg), u2)) else none)))
def sp_CN_marking (u : St) : Option (Int32 × St) :=
  some ((u.1 (0) 4), u)
def sp_CN_item (a1 : Int32) (a2 : Int32) (u : St) : Option (Int32 × St) :=
  cl_k (sp_Work_has a1 u) (fun r1 u2 => (if r1 = 0 then (some ((-1 : Int32), u2)) else (if a2 = (0 : Int32) then (if ib a1 61 = true then (some ((u2.1 (46) a1.toNatClampNeg), u2)) else none) else (if a2 = (1 : Int32) then (if ib a1 61 = true then (some ((u2.1 (47) a1.toNatClampNeg), u2)) else none) else (if a2 = (2 : Int32) then (if ib a1 61 = true then (some ((u2.1 (48) a1.toNatClampNeg), u2)) else none) else (some ((-1 : Int32), u2)))))))
def sp_CN_covers (F : Nat) (a1 : Int32) (a2 : Int32) (a3 : Int32) (u : St) : Option (Int32 × St) :=
  cl_k (sp_CN_isMaskOfPlaces a1 u) (fun r1 u2 => (if r1 = 0 then (some ((-1 : Int32), u2)) else (cl_k (sp_CN_isMaskOfPlaces a2 u2) (fun r4 u5 => (if r4 = 0 then (some ((-1 : Int32), u5)) else (cl_k (sp_CN_isBetween a3 (-1 : Int32) (5 : Int32) u5) (fun r7 u8 => (if r7 = 0 then (some ((-1 : Int32), u8)) else (cl_k (sp_Net_findCovering F a2 a1 a3 u8) (fun r10 u11 => (if r10 = 0 then (some ((0 : Int32), u11)) else (some ((1 : Int32), u11)))))))))))))
def lp_Net_hasJoinSome_2 (F : Nat) (k2 : Int32 → St → Option (Int32 × St)) : Nat → Int32 → St → Option (Int32 × St)
  | 0, _, _ => none
  | n + 1, v1, u => if (6 : Int32) ≤ v1 then (k2 v1 u) else (if ib v1 6 = true then (if (u.1 (9 + 6 * v1.toNatClampNeg) 1) = 0 then (lp_Net_hasJoinSome_2 F k2 n (v1 + (1 : Int32)) u) else (if ib v1 6 = true then (if (u.1 (9 + 6 * v1.toNatClampNeg) 2) = (2 : Int32) then (some ((1 : Int32), u)) else (lp_Net_hasJoinSome_2 F k2 n (v1 + (1 : Int32)) u)) else none)) else none)
def sp_Net_hasJoinSome (F : Nat) (u : St) : Option (Int32 × St) :=
  lp_Net_hasJoinSome_2 F (fun (v1_5 : Int32) (u6 : St) => (some ((0 : Int32), u6))) F (0 : Int32) u
def sp_Net_addReached (a1 : Int32) (u : St) : Option (Int32 × St) :=
  cl_k (sp_MS_has 5 a1 u) (fun r1 u2 => (if r1 = 0 then (cl_k (sp_MS_add 5 a1 u2) (fun r4 u5 => (cl_k (sp_MS_add 3 a1 u5) (fun r7 u8 => (some ((0 : Int32), u8)))))) else (some ((0 : Int32), u2))))
def lp_Net_goOnByBegin_10 (F : Nat) (v1 : Int32) (v2 : Int32) (t3 : Nat) (k10 : Int32 → St → Option (Int32 × St)) : Nat → Int32 → St → Option (Int32 × St)
  | 0, _, _ => none
  | n + 1, v4, u => if (u.1 (9 + 6 * t3) 14) ≤ v4 then (k10 v4 u) else (if ib v4 3 = true then (nm_k (u.1 (9 + 6 * t3 + 1) v4.toNatClampNeg) (fun v5_4 => (if (v2 &&& v5_4) = v5_4 then (nm_k (ly_pi u (1) 4 ((u.1 (1) 4) ||| ((1 : Int32) <<< (v1 &&& 31)))) (fun u5 => (cl_k (sp_Net_addReached ((v2 &&& (v5_4 ^^^ (-1 : Int32))) ||| (u5.1 (9 + 6 * t3) 0)) u5) (fun r6 u7 => (lp_Net_goOnByBegin_10 F v1 v2 t3 k10 n (v4 + (1 : Int32)) u7))))) else (lp_Net_goOnByBegin_10 F v1 v2 t3 k10 n (v4 + (1 : Int32)) u)))) else none)
def sp_Net_goOnByBegin (F : Nat) (a1 : Int32) (a2 : Int32) (u : St) : Option (Int32 × St) :=
  if ib a1 6 = true then (lp_Net_goOnByBegin_10 F a1 a2 a1.toNatClampNeg (fun (v4_9 : Int32) (u10 : St) => (some ((0 : Int32), u10))) F (0 : Int32) u) else none
def lp_Net_goOnByEnd_27 (F : Nat) (t1 : Nat) (v2 : Int32) (v3 : Int32) (k27 : Int32 → St → Option (Int32 × St)) : Nat → Int32 → St → Option (Int32 × St)
  | 0, _, _ => none
  | n + 1, v4, u => if (u.1 (9 + 6 * t1) 15) ≤ v4 then (k27 v4 u) else (if ib v4 7 = true then (cl_k (sp_Net_addReached (v3 ||| (u.1 (9 + 6 * t1 + 2) v4.toNatClampNeg)) u) (fun r3 u4 => (lp_Net_goOnByEnd_27 F t1 v2 v3 k27 n (v4 + (1 : Int32)) u4))) else none)
def sp_Net_goOnByEnd (F : Nat) (t : Nat) (a2 : Int32) (u : St) : Option (Int32 × St) :=
  if (a2 &&& (u.1 (9 + 6 * t) 0)) = 0 then (some ((0 : Int32), u)) else (nm_k (a2 &&& (((u.1 (9 + 6 * t) 6) ||| (u.1 (9 + 6 * t) 0)) ^^^ (-1 : Int32))) (fun v3_1 => (lp_Net_goOnByEnd_27 F t a2 v3_1 (fun (v4_6 : Int32) (u7 : St) => (some ((0 : Int32), u7))) F (0 : Int32) u)))
def lp_Net_reachFromStart_69 (F : Nat) (v1 : Int32) (v2 : Int32) (k69 : Int32 → St → Option (Int32 × St)) : Nat → Int32 → St → Option (Int32 × St)
  | 0, _, _ => none
  | n + 1, v3, u => if (6 : Int32) ≤ v3 then (k69 v3 u) else (if ib v3 6 = true then (if (u.1 (9 + 6 * v3.toNatClampNeg) 1) = 0 then (lp_Net_reachFromStart_69 F v1 v2 k69 n (v3 + (1 : Int32)) u) else (cl_k (sp_Net_goOnByBegin F v3 v2 u) (fun r17 u18 => (if ib v3 6 = true then (cl_k (sp_Net_goOnByEnd F v3.toNatClampNeg v2 u18) (fun r22 u23 => (lp_Net_reachFromStart_69 F v1 v2 k69 n (v3 + (1 : Int32)) u23))) else none)))) else none)
def lp_Net_reachFromStart_33 (F : Nat) (k33 : Int32 → St → Option (Int32 × St)) : Nat → Int32 → St → Option (Int32 × St)
  | 0, _, _ => none
  | n + 1, v1, u => if v1 ≤ 0 then (k33 v1 u) else (cl_k (sp_MS_draw F 3 u) (fun r12 u13 => (if r12 = (-1 : Int32) then (some ((0 : Int32), u13)) else (if (r12 &&& (2 : Int32)) = 0 then (lp_Net_reachFromStart_69 F v1 r12 (fun (v3_25 : Int32) (u26 : St) => (lp_Net_reachFromStart_33 F k33 n (v1 + (-1 : Int32)) u26)) F (0 : Int32) u13) else (if r12 = (2 : Int32) then (lp_Net_reachFromStart_69 F v1 r12 (fun (v3_27 : Int32) (u28 : St) => (lp_Net_reachFromStart_33 F k33 n (v1 + (-1 : Int32)) u28)) F (0 : Int32) u13) else (nm_k (ly_pi u13 (1) 5 (0 : Int32)) (fun u29 => (lp_Net_reachFromStart_69 F v1 r12 (fun (v3_30 : Int32) (u31 : St) => (lp_Net_reachFromStart_33 F k33 n (v1 + (-1 : Int32)) u31)) F (0 : Int32) u29))))))))
def sp_Net_reachFromStart (F : Nat) (u : St) : Option (Int32 × St) :=
  cl_k (sp_MS_clear F 5 u) (fun r1 u2 => (cl_k (sp_MS_clear F 3 u2) (fun r4 u5 => (nm_k (ly_pi u5 (1) 4 (0 : Int32)) (fun u7 => (nm_k (ly_pi u7 (1) 5 (1 : Int32)) (fun u8 => (cl_k (sp_Net_addReached (1 : Int32) u8) (fun r9 u10 => (lp_Net_reachFromStart_33 F (fun (v1_32 : Int32) (u33 : St) => (some ((0 : Int32), u33))) F (16384 : Int32) u10))))))))))
def lp_MS_isWithin_2 (F : Nat) (q0 : Nat) (q1 : Nat) (k2 : Int32 → St → Option (Int32 × St)) : Nat → Int32 → St → Option (Int32 × St)
  | 0, _, _ => none
  | n + 1, v2, u => if (256 : Int32) ≤ v2 then (k2 v2 u) else (if ib v2 256 = true then (if ib v2 256 = true then (if (lg_cmp ((u.2 (q0 + 1) v2.toNatClampNeg) &&& ((u.2 (q1 + 1) v2.toNatClampNeg) ^^^ (-1 : Int64))) (0 : Int64)) = 0 then (lp_MS_isWithin_2 F q0 q1 k2 n (v2 + (1 : Int32)) u) else (some ((0 : Int32), u))) else none) else none)
def sp_MS_isWithin (F : Nat) (q : Nat) (q2 : Nat) (u : St) : Option (Int32 × St) :=
  lp_MS_isWithin_2 F q q2 (fun (v2_3 : Int32) (u4 : St) => (some ((1 : Int32), u4))) F (0 : Int32) u
def sp_Net_judge (F : Nat) (u : St) : Option (Int32 × St) :=
  cl_k (sp_Net_definedTasks F u) (fun r1 u2 => (if r1 = 0 then (some ((-1 : Int32), u2)) else (cl_k (sp_Net_hasJoinSome F u2) (fun r4 u5 => (if r4 = 0 then (cl_k (sp_Net_reachFromStart F u5) (fun r7 u8 => (cl_k (sp_Net_findCovering F (2 : Int32) (0 : Int32) (-1 : Int32) u8) (fun r10 u11 => (cl_k (sp_MS_isWithin F 5 7 u11) (fun r13 u14 => (if r13 = 0 then (if (u14.1 (1) 5) = 0 then (nm_k ((0 : Int32) ||| (0 : Int32)) (fun v1_16 => (cl_k (sp_Net_definedTasks F u14) (fun r17 u18 => (if (u14.1 (1) 4) = r17 then (nm_k (v1_16 ||| (4 : Int32)) (fun v1_21 => (some (v1_21, u18)))) else (nm_k (v1_16 ||| (0 : Int32)) (fun v1_20 => (some (v1_20, u18))))))))) else (nm_k ((0 : Int32) ||| (2 : Int32)) (fun v1_22 => (cl_k (sp_Net_definedTasks F u14) (fun r23 u24 => (if (u14.1 (1) 4) = r23 then (nm_k (v1_22 ||| (4 : Int32)) (fun v1_27 => (some (v1_27, u24)))) else (nm_k (v1_22 ||| (0 : Int32)) (fun v1_26 => (some (v1_26, u24)))))))))) else (if (u14.1 (1) 5) = 0 then (nm_k ((1 : Int32) ||| (0 : Int32)) (fun v1_28 => (cl_k (sp_Net_definedTasks F u14) (fun r29 u30 => (if (u14.1 (1) 4) = r29 then (nm_k (v1_28 ||| (4 : Int32)) (fun v1_33 => (some (v1_33, u30)))) else (nm_k (v1_28 ||| (0 : Int32)) (fun v1_32 => (some (v1_32, u30))))))))) else (nm_k ((1 : Int32) ||| (2 : Int32)) (fun v1_34 => (cl_k (sp_Net_definedTasks F u14) (fun r35 u36 => (if (u14.1 (1) 4) = r35 then (nm_k (v1_34 ||| (4 : Int32)) (fun v1_39 => (some (v1_39, u36)))) else (nm_k (v1_34 ||| (0 : Int32)) (fun v1_38 => (some (v1_38, u36))))))))))))))))) else (some ((-1 : Int32), u5)))))))
def sp_CN_verdict (F : Nat) (u : St) : Option (Int32 × St) :=
  cl_k (sp_Net_judge F u) (fun r1 u2 => (some (r1, u2)))
def sp_Md_isTask (a1 : Int32) (u : St) : Option (Int32 × St) :=
  if a1 < 0 then (some ((0 : Int32), u)) else (if (5 : Int32) < a1 then (some ((0 : Int32), u)) else (some ((1 : Int32), u)))
def sp_Md_isDefined (a1 : Int32) (u : St) : Option (Int32 × St) :=
  cl_k (sp_Md_isTask a1 u) (fun r1 u2 => (if r1 = 0 then (some ((0 : Int32), u2)) else (if ib a1 6 = true then (if (u2.1 (1) a1.toNatClampNeg) = 0 then (some ((0 : Int32), u2)) else (some ((1 : Int32), u2))) else none)))
def sp_Md_isPlaces (a1 : Int32) (u : St) : Option (Int32 × St) :=
  if a1 < 0 then (some ((0 : Int32), u)) else (if (16384 : Int32) ≤ a1 then (some ((0 : Int32), u)) else (some ((1 : Int32), u)))
def lp_Md_count_4 (F : Nat) (v0 : Int32) (k4 : Int32 → Int32 → St → Option (Int32 × St)) : Nat → Int32 → Int32 → St → Option (Int32 × St)
  | 0, _, _, _ => none
  | n + 1, v1, v2, u => if (14 : Int32) ≤ v2 then (k4 v1 v2 u) else (nm_k (v1 + ((v0 >>> (v2 &&& 31)) &&& (1 : Int32))) (fun v1_1 => (lp_Md_count_4 F v0 k4 n v1_1 (v2 + (1 : Int32)) u)))
def sp_Md_count (F : Nat) (a1 : Int32) (u : St) : Option (Int32 × St) :=
  lp_Md_count_4 F a1 (fun (v1_2 : Int32) (v2_3 : Int32) (u4 : St) => (some (v1_2, u4))) F (0 : Int32) (0 : Int32) u
def sp_Md_runs (a1 : Int32) (u : St) : Option (Int32 × St) :=
  if (((u.1 (0) 16) >>> (((8 : Int32) + a1) &&& 31)) &&& (1 : Int32)) = (1 : Int32) then (some ((1 : Int32), u)) else (some ((0 : Int32), u))
def lp_Md_task_128 (F : Nat) (v1 : Int32) (v2 : Int32) (v3 : Int32) (v4 : Int32) (v5 : Int32) (v6 : Int32) (v7 : Int32) (k128 : Int32 → St → Option (Int32 × St)) : Nat → Int32 → St → Option (Int32 × St)
  | 0, _, _ => none
  | n + 1, v8, u => if (3 : Int32) ≤ v8 then (k128 v8 u) else (if ib (((3 : Int32) * v1) + v8) 18 = true then (nm_k (ly_pi u (6) (((3 : Int32) * v1) + v8).toNatClampNeg (0 : Int32)) (fun u21 => (if ib (((3 : Int32) * v1) + v8) 18 = true then (nm_k (ly_pi u21 (7) (((3 : Int32) * v1) + v8).toNatClampNeg (0 : Int32)) (fun u23 => (lp_Md_task_128 F v1 v2 v3 v4 v5 v6 v7 k128 n (v8 + (1 : Int32)) u23))) else none))) else none)
def lp_Md_task_167 (F : Nat) (v1 : Int32) (v2 : Int32) (v3 : Int32) (v4 : Int32) (v5 : Int32) (k167 : Int32 → Int32 → Int32 → St → Option (Int32 × St)) : Nat → Int32 → Int32 → Int32 → St → Option (Int32 × St)
  | 0, _, _, _, _ => none
  | n + 1, v6, v7, v8, u => if (8 : Int32) ≤ v8 then (k167 v6 v7 v8 u) else (if ((v4 >>> (v8 &&& 31)) &&& (1 : Int32)) = (1 : Int32) then (if ib (((3 : Int32) * v1) + v6) 18 = true then (nm_k (ly_pi u (6) (((3 : Int32) * v1) + v6).toNatClampNeg ((1 : Int32) <<< (v8 &&& 31))) (fun u41 => (if ((v5 >>> (v8 &&& 31)) &&& (1 : Int32)) = (1 : Int32) then (if ib (((3 : Int32) * v1) + v7) 18 = true then (nm_k (ly_pi u41 (7) (((3 : Int32) * v1) + v7).toNatClampNeg ((1 : Int32) <<< (v8 &&& 31))) (fun u49 => (if ib (((8 : Int32) * v1) + v8) 48 = true then (nm_k (ly_pi u49 (9) (((8 : Int32) * v1) + v8).toNatClampNeg (0 : Int32)) (fun u51 => (if ib (((8 : Int32) * v1) + v8) 48 = true then (nm_k (ly_pi u51 (10) (((8 : Int32) * v1) + v8).toNatClampNeg (-2147483648 : Int32)) (fun u53 => (if ib (((8 : Int32) * v1) + v8) 48 = true then (nm_k (ly_pi u53 (11) (((8 : Int32) * v1) + v8).toNatClampNeg (2147483647 : Int32)) (fun u55 => (lp_Md_task_167 F v1 v2 v3 v4 v5 k167 n (v6 + (1 : Int32)) (v7 + (1 : Int32)) (v8 + (1 : Int32)) u55))) else none))) else none))) else none))) else none) else (if ib (((8 : Int32) * v1) + v8) 48 = true then (nm_k (ly_pi u41 (9) (((8 : Int32) * v1) + v8).toNatClampNeg (0 : Int32)) (fun u43 => (if ib (((8 : Int32) * v1) + v8) 48 = true then (nm_k (ly_pi u43 (10) (((8 : Int32) * v1) + v8).toNatClampNeg (-2147483648 : Int32)) (fun u45 => (if ib (((8 : Int32) * v1) + v8) 48 = true then (nm_k (ly_pi u45 (11) (((8 : Int32) * v1) + v8).toNatClampNeg (2147483647 : Int32)) (fun u47 => (lp_Md_task_167 F v1 v2 v3 v4 v5 k167 n (v6 + (1 : Int32)) v7 (v8 + (1 : Int32)) u47))) else none))) else none))) else none)))) else none) else (if ((v5 >>> (v8 &&& 31)) &&& (1 : Int32)) = (1 : Int32) then (if ib (((3 : Int32) * v1) + v7) 18 = true then (nm_k (ly_pi u (7) (((3 : Int32) * v1) + v7).toNatClampNeg ((1 : Int32) <<< (v8 &&& 31))) (fun u33 => (if ib (((8 : Int32) * v1) + v8) 48 = true then (nm_k (ly_pi u33 (9) (((8 : Int32) * v1) + v8).toNatClampNeg (0 : Int32)) (fun u35 => (if ib (((8 : Int32) * v1) + v8) 48 = true then (nm_k (ly_pi u35 (10) (((8 : Int32) * v1) + v8).toNatClampNeg (-2147483648 : Int32)) (fun u37 => (if ib (((8 : Int32) * v1) + v8) 48 = true then (nm_k (ly_pi u37 (11) (((8 : Int32) * v1) + v8).toNatClampNeg (2147483647 : Int32)) (fun u39 => (lp_Md_task_167 F v1 v2 v3 v4 v5 k167 n v6 (v7 + (1 : Int32)) (v8 + (1 : Int32)) u39))) else none))) else none))) else none))) else none) else (if ib (((8 : Int32) * v1) + v8) 48 = true then (nm_k (ly_pi u (9) (((8 : Int32) * v1) + v8).toNatClampNeg (0 : Int32)) (fun u27 => (if ib (((8 : Int32) * v1) + v8) 48 = true then (nm_k (ly_pi u27 (10) (((8 : Int32) * v1) + v8).toNatClampNeg (-2147483648 : Int32)) (fun u29 => (if ib (((8 : Int32) * v1) + v8) 48 = true then (nm_k (ly_pi u29 (11) (((8 : Int32) * v1) + v8).toNatClampNeg (2147483647 : Int32)) (fun u31 => (lp_Md_task_167 F v1 v2 v3 v4 v5 k167 n v6 v7 (v8 + (1 : Int32)) u31))) else none))) else none))) else none)))
def sp_Md_task (F : Nat) (a1 : Int32) (a2 : Int32) (a3 : Int32) (a4 : Int32) (a5 : Int32) (u : St) : Option (Int32 × St) :=
  if (u.1 (0) 15) = 0 then (cl_k (sp_Md_isTask a1 u) (fun r1 u2 => (if r1 = 0 then (some ((0 : Int32), u2)) else (if a2 < 0 then (some ((0 : Int32), u2)) else (if (2 : Int32) < a2 then (some ((0 : Int32), u2)) else (if a3 < 0 then (some ((0 : Int32), u2)) else (if a3 ≤ (2 : Int32) then (if a4 < (1 : Int32) then (some ((0 : Int32), u2)) else (if (255 : Int32) < a4 then (some ((0 : Int32), u2)) else (if a5 < (1 : Int32) then (some ((0 : Int32), u2)) else (if (255 : Int32) < a5 then (some ((0 : Int32), u2)) else (cl_k (sp_Md_count F a4 u2) (fun r4 u5 => (if (3 : Int32) < r4 then (some ((0 : Int32), u5)) else (cl_k (sp_Md_count F a5 u5) (fun r7 u8 => (if r7 ≤ (3 : Int32) then (if ib a1 6 = true then (nm_k (ly_pi u8 (1) a1.toNatClampNeg (1 : Int32)) (fun u11 => (if ib a1 6 = true then (nm_k (ly_pi u11 (2) a1.toNatClampNeg a2) (fun u13 => (if ib a1 6 = true then (nm_k (ly_pi u13 (3) a1.toNatClampNeg a3) (fun u15 => (if ib a1 6 = true then (nm_k (ly_pi u15 (4) a1.toNatClampNeg a4) (fun u17 => (if ib a1 6 = true then (nm_k (ly_pi u17 (5) a1.toNatClampNeg a5) (fun u19 => (lp_Md_task_128 F a1 a2 a3 a4 a5 (0 : Int32) (0 : Int32) (fun (v8_24 : Int32) (u25 : St) => (lp_Md_task_167 F a1 a2 a3 a4 a5 (fun (v6_56 : Int32) (v7_57 : Int32) (v8_58 : Int32) (u59 : St) => (if ib a1 6 = true then (nm_k (ly_pi u59 (8) a1.toNatClampNeg (0 : Int32)) (fun u61 => (if ib a1 6 = true then (nm_k (ly_pi u61 (12) a1.toNatClampNeg (1 : Int32)) (fun u63 => (if ib a1 6 = true then (nm_k (ly_pi u63 (13) a1.toNatClampNeg (1 : Int32)) (fun u65 => (if ib a1 6 = true then (nm_k (ly_pi u65 (14) a1.toNatClampNeg (0 : Int32)) (fun u67 => (if ib a1 6 = true then (nm_k (ly_pi u67 (15) a1.toNatClampNeg (0 : Int32)) (fun u69 => (some ((1 : Int32), u69)))) else none))) else none))) else none))) else none))) else none)) F (0 : Int32) (0 : Int32) (0 : Int32) u25)) F (0 : Int32) u19))) else none))) else none))) else none))) else none))) else none) else (some ((0 : Int32), u8)))))))))))) else (some ((0 : Int32), u2))))))))) else (some ((0 : Int32), u))
def sp_Md_region (a1 : Int32) (a2 : Int32) (u : St) : Option (Int32 × St) :=
  if (u.1 (0) 15) = 0 then (cl_k (sp_Md_isDefined a1 u) (fun r1 u2 => (if r1 = 0 then (some ((0 : Int32), u2)) else (cl_k (sp_Md_isPlaces a2 u2) (fun r4 u5 => (if r4 = 0 then (some ((0 : Int32), u5)) else (if ib a1 6 = true then (nm_k (ly_pi u5 (8) a1.toNatClampNeg a2) (fun u8 => (some ((1 : Int32), u8)))) else none))))))) else (some ((0 : Int32), u))
def sp_Md_guard (a1 : Int32) (a2 : Int32) (a3 : Int32) (a4 : Int32) (a5 : Int32) (u : St) : Option (Int32 × St) :=
  if (u.1 (0) 15) = 0 then (cl_k (sp_Md_isDefined a1 u) (fun r1 u2 => (if r1 = 0 then (some ((0 : Int32), u2)) else (if a2 < 0 then (some ((0 : Int32), u2)) else (if (7 : Int32) < a2 then (some ((0 : Int32), u2)) else (if a3 < 0 then (some ((0 : Int32), u2)) else (if a3 ≤ (3 : Int32) then (if ib a1 6 = true then (if (((u2.1 (5) a1.toNatClampNeg) >>> (a2 &&& 31)) &&& (1 : Int32)) = 0 then (some ((0 : Int32), u2)) else (if ib (((8 : Int32) * a1) + a2) 48 = true then (nm_k (ly_pi u2 (9) (((8 : Int32) * a1) + a2).toNatClampNeg a3) (fun u6 => (if ib (((8 : Int32) * a1) + a2) 48 = true then (nm_k (ly_pi u6 (10) (((8 : Int32) * a1) + a2).toNatClampNeg a4) (fun u8 => (if ib (((8 : Int32) * a1) + a2) 48 = true then (nm_k (ly_pi u8 (11) (((8 : Int32) * a1) + a2).toNatClampNeg a5) (fun u10 => (some ((1 : Int32), u10)))) else none))) else none))) else none)) else none) else (some ((0 : Int32), u2))))))))) else (some ((0 : Int32), u))
def sp_Md_items (a1 : Int32) (a2 : Int32) (a3 : Int32) (a4 : Int32) (a5 : Int32) (u : St) : Option (Int32 × St) :=
  if (u.1 (0) 15) = 0 then (cl_k (sp_Md_isDefined a1 u) (fun r1 u2 => (if r1 = 0 then (some ((0 : Int32), u2)) else (if a2 < (1 : Int32) then (some ((0 : Int32), u2)) else (if (4 : Int32) < a2 then (some ((0 : Int32), u2)) else (if a3 < (1 : Int32) then (some ((0 : Int32), u2)) else (if a3 ≤ a2 then (if a4 < 0 then (some ((0 : Int32), u2)) else (if (3 : Int32) < a4 then (some ((0 : Int32), u2)) else (if a5 < 0 then (some ((0 : Int32), u2)) else (if a5 ≤ (100 : Int32) then (if ib a1 6 = true then (nm_k (ly_pi u2 (12) a1.toNatClampNeg a2) (fun u5 => (if ib a1 6 = true then (nm_k (ly_pi u5 (13) a1.toNatClampNeg a3) (fun u7 => (if ib a1 6 = true then (nm_k (ly_pi u7 (14) a1.toNatClampNeg a4) (fun u9 => (if ib a1 6 = true then (nm_k (ly_pi u9 (15) a1.toNatClampNeg a5) (fun u11 => (some ((1 : Int32), u11)))) else none))) else none))) else none))) else none) else (some ((0 : Int32), u2)))))) else (some ((0 : Int32), u2))))))))) else (some ((0 : Int32), u))
def lp_Md_isAny_4 (F : Nat) (k4 : Int32 → Int32 → St → Option (Int32 × St)) : Nat → Int32 → Int32 → St → Option (Int32 × St)
  | 0, _, _, _ => none
  | n + 1, v1, v2, u => if (6 : Int32) ≤ v2 then (k4 v1 v2 u) else (if v1 = 0 then (if ib v2 6 = true then (if (u.1 (1) v2.toNatClampNeg) = 0 then (lp_Md_isAny_4 F k4 n (0 : Int32) (v2 + (1 : Int32)) u) else (lp_Md_isAny_4 F k4 n (1 : Int32) (v2 + (1 : Int32)) u)) else none) else (lp_Md_isAny_4 F k4 n (1 : Int32) (v2 + (1 : Int32)) u))
def sp_Md_isAny (F : Nat) (u : St) : Option (Int32 × St) :=
  lp_Md_isAny_4 F (fun (v1_2 : Int32) (v2_3 : Int32) (u4 : St) => (if v1_2 = 0 ∨ v1_2 = 1 then some (v1_2, u4) else none)) F (0 : Int32) (0 : Int32) u
def lp_Md_outputs_5 (F : Nat) (v1 : Int32) (v2 : Int32) (k5 : Int32 → Int32 → St → Option (Int32 × St)) : Nat → Int32 → Int32 → St → Option (Int32 × St)
  | 0, _, _, _ => none
  | n + 1, v3, v4, u => if (3 : Int32) ≤ v4 then (k5 v3 v4 u) else (if ((v2 >>> (v4 &&& 31)) &&& (1 : Int32)) = (1 : Int32) then (if ib (((3 : Int32) * v1) + v4) 18 = true then (nm_k (v3 ||| (u.1 (7) (((3 : Int32) * v1) + v4).toNatClampNeg)) (fun v3_3 => (lp_Md_outputs_5 F v1 v2 k5 n v3_3 (v4 + (1 : Int32)) u))) else none) else (nm_k (v3 ||| (0 : Int32)) (fun v3_1 => (lp_Md_outputs_5 F v1 v2 k5 n v3_1 (v4 + (1 : Int32)) u))))
def sp_Md_outputs (F : Nat) (a1 : Int32) (a2 : Int32) (u : St) : Option (Int32 × St) :=
  lp_Md_outputs_5 F a1 a2 (fun (v3_4 : Int32) (v4_5 : Int32) (u6 : St) => (some (v3_4, u6))) F (0 : Int32) (0 : Int32) u
def sp_Md_after (F : Nat) (a1 : Int32) (a2 : Int32) (a3 : Int32) (u : St) : Option (Int32 × St) :=
  nm_k ((1 : Int32) <<< (((8 : Int32) + a2) &&& 31)) (fun v4_1 => (if (3 : Int32) ≤ a3 then (nm_k (a3 - (2 : Int32)) (fun v5_2 => (cl_k (sp_Md_outputs F a2 v5_2 u) (fun r3 u4 => (cl_k (sp_Md_count F r3 u4) (fun r6 u7 => (cl_k (sp_Md_count F v5_2 u7) (fun r9 u10 => (if r6 = r9 then (if ib a2 6 = true then (if (u10.1 (3) a2.toNatClampNeg) = 0 then (if ib a2 6 = true then (if r3 = (u10.1 (5) a2.toNatClampNeg) then (if (a1 &&& v4_1) = 0 then (some ((-1 : Int32), u10)) else (if ib a2 6 = true then (some ((((a1 &&& (v4_1 ^^^ (-1 : Int32))) &&& ((u10.1 (8) a2.toNatClampNeg) ^^^ (-1 : Int32))) ||| r3), u10)) else none)) else (some ((-1 : Int32), u10))) else none) else (if ib a2 6 = true then (if (u10.1 (3) a2.toNatClampNeg) = (1 : Int32) then (cl_k (sp_Md_count F v5_2 u10) (fun r15 u16 => (if r15 = (1 : Int32) then (if (a1 &&& v4_1) = 0 then (some ((-1 : Int32), u16)) else (if ib a2 6 = true then (some ((((a1 &&& (v4_1 ^^^ (-1 : Int32))) &&& ((u16.1 (8) a2.toNatClampNeg) ^^^ (-1 : Int32))) ||| r3), u16)) else none)) else (some ((-1 : Int32), u16))))) else (if (a1 &&& v4_1) = 0 then (some ((-1 : Int32), u10)) else (if ib a2 6 = true then (some ((((a1 &&& (v4_1 ^^^ (-1 : Int32))) &&& ((u10.1 (8) a2.toNatClampNeg) ^^^ (-1 : Int32))) ||| r3), u10)) else none))) else none)) else none) else (some ((-1 : Int32), u10))))))))))) else (if ib a2 6 = true then (if (u.1 (2) a2.toNatClampNeg) = 0 then (if a3 = 0 then (if ib a2 6 = true then (nm_k (u.1 (4) a2.toNatClampNeg) (fun v5_25 => (if v5_25 = 0 then (some ((-1 : Int32), u)) else (if (a1 &&& v5_25) = v5_25 then (some (((a1 &&& (v5_25 ^^^ (-1 : Int32))) ||| v4_1), u)) else (some ((-1 : Int32), u)))))) else none) else (some ((-1 : Int32), u))) else (if ib (((3 : Int32) * a2) + a3) 18 = true then (nm_k (u.1 (6) (((3 : Int32) * a2) + a3).toNatClampNeg) (fun v5_23 => (if v5_23 = 0 then (some ((-1 : Int32), u)) else (if (a1 &&& v5_23) = v5_23 then (some (((a1 &&& (v5_23 ^^^ (-1 : Int32))) ||| v4_1), u)) else (some ((-1 : Int32), u)))))) else none)) else none)))
def sp_Md_meet (a1 : Int32) (u : St) : Option (Int32 × St) :=
  if ib (a1 >>> ((6 : Int32) &&& 31)) 256 = true then (if (lg_cmp ((((u.2 (21) (a1 >>> ((6 : Int32) &&& 31)).toNatClampNeg) >>> ((a1 &&& (63 : Int32)).toInt64 &&& 63))) &&& (1 : Int64)) (0 : Int64)) = 0 then (if ib (a1 >>> ((6 : Int32) &&& 31)) 256 = true then (if ib (a1 >>> ((6 : Int32) &&& 31)) 256 = true then (nm_k (ly_pl u (21) (a1 >>> ((6 : Int32) &&& 31)).toNatClampNeg ((u.2 (21) (a1 >>> ((6 : Int32) &&& 31)).toNatClampNeg) ||| (((1 : Int64) <<< ((a1 &&& (63 : Int32)).toInt64 &&& 63))))) (fun u4 => (if ib (u4.1 (0) 26) 16384 = true then (nm_k (ly_pi u4 (22) (u4.1 (0) 26).toNatClampNeg a1) (fun u6 => (nm_k (ly_pi u6 (0) 26 ((u6.1 (0) 26) + (1 : Int32))) (fun u7 => (some ((0 : Int32), u7)))))) else none))) else none) else none) else (some ((0 : Int32), u))) else none
def lp_Md_search_3 (F : Nat) (v1 : Int32) (v2 : Int32) (v3 : Int32) (k3 : Int32 → St → Option (Int32 × St)) : Nat → Int32 → St → Option (Int32 × St)
  | 0, _, _ => none
  | n + 1, v4, u => if (256 : Int32) ≤ v4 then (k3 v4 u) else (if ib v4 256 = true then (nm_k (ly_pl u (21) v4.toNatClampNeg (0 : Int64)) (fun u2 => (lp_Md_search_3 F v1 v2 v3 k3 n (v4 + (1 : Int32)) u2))) else none)
def lp_Md_search_79 (F : Nat) (v1 : Int32) (v2 : Int32) (v3 : Int32) (v4 : Int32) (v5 : Int32) (v6 : Int32) (k79 : Int32 → St → Option (Int32 × St)) : Nat → Int32 → St → Option (Int32 × St)
  | 0, _, _ => none
  | n + 1, v7, u => if (10 : Int32) ≤ v7 then (k79 v7 u) else (if ib v6 6 = true then (if (u.1 (1) v6.toNatClampNeg) = 0 then (k79 v7 u) else (if v6 = v3 then (k79 v7 u) else (cl_k (sp_Md_after F v5 v6 v7 u) (fun r12 u13 => (if r12 < 0 then (lp_Md_search_79 F v1 v2 v3 v4 v5 v6 k79 n (v7 + (1 : Int32)) u13) else (cl_k (sp_Md_meet r12 u13) (fun r15 u16 => (lp_Md_search_79 F v1 v2 v3 v4 v5 v6 k79 n (v7 + (1 : Int32)) u16)))))))) else none)
def lp_Md_search_69 (F : Nat) (v1 : Int32) (v2 : Int32) (v3 : Int32) (v4 : Int32) (v5 : Int32) (k69 : Int32 → St → Option (Int32 × St)) : Nat → Int32 → St → Option (Int32 × St)
  | 0, _, _ => none
  | n + 1, v6, u => if (6 : Int32) ≤ v6 then (k69 v6 u) else (lp_Md_search_79 F v1 v2 v3 v4 v5 v6 (fun (v7_18 : Int32) (u19 : St) => (lp_Md_search_69 F v1 v2 v3 v4 v5 k69 n (v6 + (1 : Int32)) u19)) F (0 : Int32) u)
def lp_Md_search_38 (F : Nat) (v1 : Int32) (v2 : Int32) (v3 : Int32) (k38 : Int32 → St → Option (Int32 × St)) : Nat → Int32 → St → Option (Int32 × St)
  | 0, _, _ => none
  | n + 1, v4, u => if (u.1 (0) 26) ≤ v4 then (k38 v4 u) else (if ib v4 16384 = true then (nm_k (u.1 (22) v4.toNatClampNeg) (fun v5_10 => (if (v5_10 &&& v2) = v2 then (some ((1 : Int32), u)) else (lp_Md_search_69 F v1 v2 v3 v4 v5_10 (fun (v6_20 : Int32) (u21 : St) => (lp_Md_search_38 F v1 v2 v3 k38 n (v4 + (1 : Int32)) u21)) F (0 : Int32) u)))) else none)
def sp_Md_search (F : Nat) (a1 : Int32) (a2 : Int32) (a3 : Int32) (u : St) : Option (Int32 × St) :=
  lp_Md_search_3 F a1 a2 a3 (fun (v4_3 : Int32) (u4 : St) => (nm_k (ly_pi u4 (0) 26 (0 : Int32)) (fun u5 => (cl_k (sp_Md_meet a1 u5) (fun r6 u7 => (lp_Md_search_38 F a1 a2 a3 (fun (v4_22 : Int32) (u23 : St) => (some ((0 : Int32), u23))) F (0 : Int32) u7)))))) F (0 : Int32) u
def sp_Md_covers (F : Nat) (a1 : Int32) (a2 : Int32) (a3 : Int32) (u : St) : Option (Int32 × St) :=
  cl_k (sp_Md_isPlaces a1 u) (fun r1 u2 => (if r1 = 0 then (some ((-1 : Int32), u2)) else (cl_k (sp_Md_isPlaces a2 u2) (fun r4 u5 => (if r4 = 0 then (some ((-1 : Int32), u5)) else (if a3 < (-1 : Int32) then (some ((-1 : Int32), u5)) else (if a3 ≤ (5 : Int32) then (cl_k (sp_Md_search F a1 a2 a3 u5) (fun r7 u8 => (if r7 = 0 then (some ((0 : Int32), u8)) else (some ((1 : Int32), u8))))) else (some ((-1 : Int32), u5)))))))))
def sp_Md_launch (F : Nat) (u : St) : Option (Int32 × St) :=
  if (u.1 (0) 15) = 0 then (cl_k (sp_Md_isAny F u) (fun r1 u2 => (if r1 = 0 then (some ((0 : Int32), u2)) else (nm_k (ly_pi u2 (0) 15 (1 : Int32)) (fun u4 => (nm_k (ly_pi u4 (0) 16 (1 : Int32)) (fun u5 => (some ((1 : Int32), u5))))))))) else (some ((0 : Int32), u))
def lp_Md_stop_7 (F : Nat) (v1 : Int32) (k7 : Int32 → St → Option (Int32 × St)) : Nat → Int32 → St → Option (Int32 × St)
  | 0, _, _ => none
  | n + 1, v2, u => if (u.1 (0) 19) < v2 then (k7 v2 u) else (if v2 ≤ 0 then (k7 v2 u) else (if ib v2 61 = true then (if (u.1 (17) v2.toNatClampNeg) = v1 then (if ib v2 61 = true then (if (2 : Int32) < (u.1 (18) v2.toNatClampNeg) then (lp_Md_stop_7 F v1 k7 n (v2 + (1 : Int32)) u) else (if ib v2 61 = true then (nm_k (ly_pi u (18) v2.toNatClampNeg (5 : Int32)) (fun u6 => (lp_Md_stop_7 F v1 k7 n (v2 + (1 : Int32)) u6))) else none)) else none) else (lp_Md_stop_7 F v1 k7 n (v2 + (1 : Int32)) u)) else none))
def sp_Md_stop (F : Nat) (a1 : Int32) (u : St) : Option (Int32 × St) :=
  if ib a1 6 = true then (nm_k (u.1 (20) a1.toNatClampNeg) (fun v2_2 => (lp_Md_stop_7 F a1 (fun (v2_7 : Int32) (u8 : St) => (nm_k (ly_pi u8 (0) 16 ((u8.1 (0) 16) &&& (((1 : Int32) <<< (((8 : Int32) + a1) &&& 31)) ^^^ (-1 : Int32)))) (fun u9 => (some ((0 : Int32), u9))))) F v2_2 u))) else none
def lp_Md_cancel_11 (F : Nat) (k11 : Int32 → St → Option (Int32 × St)) : Nat → Int32 → St → Option (Int32 × St)
  | 0, _, _ => none
  | n + 1, v1, u => if (6 : Int32) ≤ v1 then (k11 v1 u) else (cl_k (sp_Md_runs v1 u) (fun r1 u2 => (if r1 = 0 then (lp_Md_cancel_11 F k11 n (v1 + (1 : Int32)) u2) else (cl_k (sp_Md_stop F v1 u2) (fun r4 u5 => (lp_Md_cancel_11 F k11 n (v1 + (1 : Int32)) u5))))))
def sp_Md_cancel (F : Nat) (u : St) : Option (Int32 × St) :=
  if (u.1 (0) 15) = 0 then (some ((0 : Int32), u)) else (lp_Md_cancel_11 F (fun (v1_7 : Int32) (u8 : St) => (nm_k (ly_pi u8 (0) 16 (0 : Int32)) (fun u9 => (nm_k (ly_pi u9 (0) 15 (0 : Int32)) (fun u10 => (some ((1 : Int32), u10))))))) F (0 : Int32) u)
def lp_Md_isLast_14 (F : Nat) (v1 : Int32) (v2 : Int32) (k14 : Int32 → St → Option (Int32 × St)) : Nat → Int32 → St → Option (Int32 × St)
  | 0, _, _ => none
  | n + 1, v3, u => if (3 : Int32) ≤ v3 then (k14 v3 u) else (if ib (((3 : Int32) * v1) + v3) 18 = true then (nm_k (u.1 (6) (((3 : Int32) * v1) + v3).toNatClampNeg) (fun v4_4 => (if v4_4 = 0 then (lp_Md_isLast_14 F v1 v2 k14 n (v3 + (1 : Int32)) u) else (if (v2 &&& v4_4) = 0 then (cl_k (sp_Md_search F (u.1 (0) 16) (v2 ||| v4_4) v1 u) (fun r5 u6 => (if r5 = 0 then (lp_Md_isLast_14 F v1 v2 k14 n (v3 + (1 : Int32)) u6) else (some ((0 : Int32), u6))))) else (lp_Md_isLast_14 F v1 v2 k14 n (v3 + (1 : Int32)) u))))) else none)
def sp_Md_isLast (F : Nat) (a1 : Int32) (u : St) : Option (Int32 × St) :=
  if ib a1 6 = true then (nm_k ((u.1 (4) a1.toNatClampNeg) &&& (u.1 (0) 16)) (fun v2_2 => (lp_Md_isLast_14 F a1 v2_2 (fun (v3_8 : Int32) (u9 : St) => (some ((1 : Int32), u9))) F (0 : Int32) u))) else none
def sp_Md_isEnabled (F : Nat) (a1 : Int32) (u : St) : Option (Int32 × St) :=
  if (u.1 (0) 15) = 0 then (some ((0 : Int32), u)) else (if ib a1 6 = true then (if (u.1 (1) a1.toNatClampNeg) = 0 then (some ((0 : Int32), u)) else (cl_k (sp_Md_runs a1 u) (fun r2 u3 => (if r2 = 0 then (if ib a1 6 = true then (nm_k ((u3.1 (4) a1.toNatClampNeg) &&& (u3.1 (0) 16)) (fun v2_6 => (if ib a1 6 = true then (if (u3.1 (2) a1.toNatClampNeg) = 0 then (if ib a1 6 = true then (if v2_6 = (u3.1 (4) a1.toNatClampNeg) then (some ((1 : Int32), u3)) else (some ((0 : Int32), u3))) else none) else (if v2_6 = 0 then (some ((0 : Int32), u3)) else (if ib a1 6 = true then (if (u3.1 (2) a1.toNatClampNeg) = (1 : Int32) then (some ((1 : Int32), u3)) else (cl_k (sp_Md_isLast F a1 u3) (fun r9 u10 => (if r9 = 0 then (some ((0 : Int32), u10)) else (some ((1 : Int32), u10)))))) else none))) else none))) else none) else (some ((0 : Int32), u3)))))) else none)
def lp_Md_enabled_4 (F : Nat) (k4 : Int32 → Int32 → St → Option (Int32 × St)) : Nat → Int32 → Int32 → St → Option (Int32 × St)
  | 0, _, _, _ => none
  | n + 1, v1, v2, u => if (6 : Int32) ≤ v2 then (k4 v1 v2 u) else (cl_k (sp_Md_isEnabled F v2 u) (fun r1 u2 => (if r1 = 0 then (nm_k (v1 ||| (0 : Int32)) (fun v1_4 => (lp_Md_enabled_4 F k4 n v1_4 (v2 + (1 : Int32)) u2))) else (nm_k (v1 ||| ((1 : Int32) <<< (v2 &&& 31))) (fun v1_5 => (lp_Md_enabled_4 F k4 n v1_5 (v2 + (1 : Int32)) u2))))))
def sp_Md_enabled (F : Nat) (u : St) : Option (Int32 × St) :=
  lp_Md_enabled_4 F (fun (v1_6 : Int32) (v2_7 : Int32) (u8 : St) => (some (v1_6, u8))) F (0 : Int32) (0 : Int32) u
def lp_Md_fire_110 (F : Nat) (v1 : Int32) (v2 : Int32) (k110 : Int32 → St → Option (Int32 × St)) : Nat → Int32 → St → Option (Int32 × St)
  | 0, _, _ => none
  | n + 1, v3, u => if ib v1 6 = true then (if (u.1 (12) v1.toNatClampNeg) ≤ v3 then (k110 v3 u) else (nm_k (ly_pi u (0) 19 ((u.1 (0) 19) + (1 : Int32))) (fun u16 => (if ib (u16.1 (0) 19) 61 = true then (nm_k (ly_pi u16 (17) (u16.1 (0) 19).toNatClampNeg v1) (fun u18 => (if ib (u18.1 (0) 19) 61 = true then (nm_k (ly_pi u18 (18) (u18.1 (0) 19).toNatClampNeg (1 : Int32)) (fun u20 => (if ib (u20.1 (0) 19) 61 = true then (nm_k (ly_pi u20 (19) (u20.1 (0) 19).toNatClampNeg (u20.1 (0) 17)) (fun u22 => (lp_Md_fire_110 F v1 v2 k110 n (v3 + (1 : Int32)) u22))) else none))) else none))) else none)))) else none
def sp_Md_fire (F : Nat) (a1 : Int32) (u : St) : Option (Int32 × St) :=
  cl_k (sp_Md_isDefined a1 u) (fun r1 u2 => (if r1 = 0 then (some ((-1 : Int32), u2)) else (cl_k (sp_Md_isEnabled F a1 u2) (fun r4 u5 => (if r4 = 0 then (some ((-2 : Int32), u5)) else (if ib a1 6 = true then (if ((u5.1 (0) 19) + (u5.1 (12) a1.toNatClampNeg)) ≤ (60 : Int32) then (if ib a1 6 = true then (nm_k ((u5.1 (4) a1.toNatClampNeg) &&& (u5.1 (0) 16)) (fun v2_9 => (if ib a1 6 = true then (if (u5.1 (2) a1.toNatClampNeg) = (1 : Int32) then (nm_k (ly_pi u5 (0) 16 ((u5.1 (0) 16) &&& ((v2_9 &&& (-v2_9)) ^^^ (-1 : Int32)))) (fun u26 => (nm_k (ly_pi u26 (0) 16 ((u26.1 (0) 16) ||| ((1 : Int32) <<< (((8 : Int32) + a1) &&& 31)))) (fun u27 => (if ib a1 6 = true then (nm_k (ly_pi u27 (20) a1.toNatClampNeg ((u27.1 (0) 19) + (1 : Int32))) (fun u29 => (lp_Md_fire_110 F a1 v2_9 (fun (v3_30 : Int32) (u31 : St) => (if ib a1 6 = true then (some ((u31.1 (20) a1.toNatClampNeg), u31)) else none)) F (0 : Int32) u29))) else none))))) else (nm_k (ly_pi u5 (0) 16 ((u5.1 (0) 16) &&& (v2_9 ^^^ (-1 : Int32)))) (fun u11 => (nm_k (ly_pi u11 (0) 16 ((u11.1 (0) 16) ||| ((1 : Int32) <<< (((8 : Int32) + a1) &&& 31)))) (fun u12 => (if ib a1 6 = true then (nm_k (ly_pi u12 (20) a1.toNatClampNeg ((u12.1 (0) 19) + (1 : Int32))) (fun u14 => (lp_Md_fire_110 F a1 v2_9 (fun (v3_23 : Int32) (u24 : St) => (if ib a1 6 = true then (some ((u24.1 (20) a1.toNatClampNeg), u24)) else none)) F (0 : Int32) u14))) else none)))))) else none))) else none) else (some ((-3 : Int32), u5))) else none))))))
def sp_Md_isItem (a1 : Int32) (u : St) : Option (Int32 × St) :=
  if a1 < (1 : Int32) then (some ((0 : Int32), u)) else (if (u.1 (0) 19) < a1 then (some ((0 : Int32), u)) else (some ((1 : Int32), u)))
def lp_Md_inState_11 (F : Nat) (v1 : Int32) (v2 : Int32) (v3 : Int32) (k11 : Int32 → Int32 → St → Option (Int32 × St)) : Nat → Int32 → Int32 → St → Option (Int32 × St)
  | 0, _, _, _ => none
  | n + 1, v4, v5, u => if (u.1 (0) 19) < v5 then (k11 v4 v5 u) else (if ib v5 61 = true then (if (u.1 (17) v5.toNatClampNeg) = v1 then (if ib v5 61 = true then (if (u.1 (18) v5.toNatClampNeg) < v2 then (nm_k (v4 + (0 : Int32)) (fun v4_6 => (lp_Md_inState_11 F v1 v2 v3 k11 n v4_6 (v5 + (1 : Int32)) u))) else (if ib v5 61 = true then (if v3 < (u.1 (18) v5.toNatClampNeg) then (nm_k (v4 + (0 : Int32)) (fun v4_8 => (lp_Md_inState_11 F v1 v2 v3 k11 n v4_8 (v5 + (1 : Int32)) u))) else (nm_k (v4 + (1 : Int32)) (fun v4_9 => (lp_Md_inState_11 F v1 v2 v3 k11 n v4_9 (v5 + (1 : Int32)) u)))) else none)) else none) else (nm_k (v4 + (0 : Int32)) (fun v4_4 => (lp_Md_inState_11 F v1 v2 v3 k11 n v4_4 (v5 + (1 : Int32)) u)))) else none)
def sp_Md_inState (F : Nat) (a1 : Int32) (a2 : Int32) (a3 : Int32) (u : St) : Option (Int32 × St) :=
  if ib a1 6 = true then (nm_k (u.1 (20) a1.toNatClampNeg) (fun v5_2 => (lp_Md_inState_11 F a1 a2 a3 (fun (v4_10 : Int32) (v5_11 : Int32) (u12 : St) => (some (v4_10, u12))) F (0 : Int32) v5_2 u))) else none
def lp_Md_end_7 (F : Nat) (v1 : Int32) (k7 : Int32 → St → Option (Int32 × St)) : Nat → Int32 → St → Option (Int32 × St)
  | 0, _, _ => none
  | n + 1, v2, u => if (6 : Int32) ≤ v2 then (k7 v2 u) else (if ib v1 6 = true then (if (((u.1 (8) v1.toNatClampNeg) >>> (((8 : Int32) + v2) &&& 31)) &&& (1 : Int32)) = (1 : Int32) then (cl_k (sp_Md_runs v2 u) (fun r5 u6 => (if r5 = 0 then (lp_Md_end_7 F v1 k7 n (v2 + (1 : Int32)) u6) else (cl_k (sp_Md_stop F v2 u6) (fun r8 u9 => (lp_Md_end_7 F v1 k7 n (v2 + (1 : Int32)) u9)))))) else (lp_Md_end_7 F v1 k7 n (v2 + (1 : Int32)) u)) else none)
def lp_Md_end_74 (F : Nat) (v1 : Int32) (k74 : Int32 → Int32 → St → Option (Int32 × St)) : Nat → Int32 → Int32 → St → Option (Int32 × St)
  | 0, _, _, _ => none
  | n + 1, v2, v3, u => if (8 : Int32) ≤ v3 then (k74 v2 v3 u) else (if ib (((8 : Int32) * v1) + v3) 48 = true then (if ib (u.1 (9) (((8 : Int32) * v1) + v3).toNatClampNeg) 4 = true then (nm_k (u.1 (16) (u.1 (9) (((8 : Int32) * v1) + v3).toNatClampNeg).toNatClampNeg) (fun v4_17 => (if ib v1 6 = true then (if (((u.1 (5) v1.toNatClampNeg) >>> (v3 &&& 31)) &&& (1 : Int32)) = (1 : Int32) then (if ib (((8 : Int32) * v1) + v3) 48 = true then (if v4_17 < (u.1 (10) (((8 : Int32) * v1) + v3).toNatClampNeg) then (nm_k (v2 ||| (0 : Int32)) (fun v2_21 => (lp_Md_end_74 F v1 k74 n v2_21 (v3 + (1 : Int32)) u))) else (if ib (((8 : Int32) * v1) + v3) 48 = true then (if (u.1 (11) (((8 : Int32) * v1) + v3).toNatClampNeg) < v4_17 then (nm_k (v2 ||| (0 : Int32)) (fun v2_23 => (lp_Md_end_74 F v1 k74 n v2_23 (v3 + (1 : Int32)) u))) else (nm_k (v2 ||| ((1 : Int32) <<< (v3 &&& 31))) (fun v2_24 => (lp_Md_end_74 F v1 k74 n v2_24 (v3 + (1 : Int32)) u)))) else none)) else none) else (nm_k (v2 ||| (0 : Int32)) (fun v2_19 => (lp_Md_end_74 F v1 k74 n v2_19 (v3 + (1 : Int32)) u)))) else none))) else none) else none)
def lp_Md_end_177 (F : Nat) (v1 : Int32) (v2 : Int32) (k177 : Int32 → Int32 → St → Option (Int32 × St)) : Nat → Int32 → Int32 → St → Option (Int32 × St)
  | 0, _, _, _ => none
  | n + 1, v3, v4, u => if (3 : Int32) ≤ v4 then (k177 v3 v4 u) else (if ib (((3 : Int32) * v1) + v4) 18 = true then (if (u.1 (7) (((3 : Int32) * v1) + v4).toNatClampNeg) = 0 then (lp_Md_end_177 F v1 v2 k177 n v3 (v4 + (1 : Int32)) u) else (if ib (((3 : Int32) * v1) + v4) 18 = true then (nm_k (u.1 (7) (((3 : Int32) * v1) + v4).toNatClampNeg) (fun v3_30 => (lp_Md_end_177 F v1 v2 k177 n v3_30 (v4 + (1 : Int32)) u))) else none)) else none)
def sp_Md_end (F : Nat) (a1 : Int32) (u : St) : Option (Int32 × St) :=
  cl_k (sp_Md_stop F a1 u) (fun r1 u2 => (lp_Md_end_7 F a1 (fun (v2_11 : Int32) (u12 : St) => (if ib a1 6 = true then (nm_k (ly_pi u12 (0) 16 ((u12.1 (0) 16) &&& (((u12.1 (8) a1.toNatClampNeg) &&& (255 : Int32)) ^^^ (-1 : Int32)))) (fun u14 => (lp_Md_end_74 F a1 (fun (v2_25 : Int32) (v3_26 : Int32) (u27 : St) => (lp_Md_end_177 F a1 v2_25 (fun (v3_31 : Int32) (v4_32 : Int32) (u33 : St) => (if ib a1 6 = true then (if (u33.1 (3) a1.toNatClampNeg) = 0 then (if ib a1 6 = true then (nm_k (u33.1 (5) a1.toNatClampNeg) (fun v4_41 => (nm_k (ly_pi u33 (0) 16 ((u33.1 (0) 16) ||| v4_41)) (fun u42 => (some ((0 : Int32), u42)))))) else none) else (if v2_25 = 0 then (nm_k (ly_pi u33 (0) 16 ((u33.1 (0) 16) ||| v3_31)) (fun u39 => (some ((0 : Int32), u39)))) else (if ib a1 6 = true then (if (u33.1 (3) a1.toNatClampNeg) = (1 : Int32) then (nm_k (v2_25 &&& (-v2_25)) (fun v4_37 => (nm_k (ly_pi u33 (0) 16 ((u33.1 (0) 16) ||| v4_37)) (fun u38 => (some ((0 : Int32), u38)))))) else (nm_k (ly_pi u33 (0) 16 ((u33.1 (0) 16) ||| v2_25)) (fun u36 => (some ((0 : Int32), u36))))) else none))) else none)) F (0 : Int32) (0 : Int32) u27)) F (0 : Int32) (0 : Int32) u14))) else none)) F (0 : Int32) u2))
def sp_Md_start (a1 : Int32) (u : St) : Option (Int32 × St) :=
  cl_k (sp_Md_isItem a1 u) (fun r1 u2 => (if r1 = 0 then (some ((-1 : Int32), u2)) else (if ib a1 61 = true then (if (u2.1 (18) a1.toNatClampNeg) = (1 : Int32) then (if ib a1 61 = true then (nm_k (ly_pi u2 (18) a1.toNatClampNeg (2 : Int32)) (fun u6 => (some ((0 : Int32), u6)))) else none) else (some ((-2 : Int32), u2))) else none)))
def sp_Md_finish (F : Nat) (a1 : Int32) (a2 : Int32) (u : St) : Option (Int32 × St) :=
  cl_k (sp_Md_isItem a1 u) (fun r1 u2 => (if r1 = 0 then (some ((-1 : Int32), u2)) else (if ib a1 61 = true then (if (u2.1 (18) a1.toNatClampNeg) = (2 : Int32) then (if ib a1 61 = true then (nm_k (u2.1 (17) a1.toNatClampNeg) (fun v3_6 => (if ib a1 61 = true then (nm_k (ly_pi u2 (18) a1.toNatClampNeg (3 : Int32)) (fun u8 => (if ib v3_6 6 = true then (if ib (u8.1 (14) v3_6.toNatClampNeg) 4 = true then (nm_k (ly_pi u8 (16) (u8.1 (14) v3_6.toNatClampNeg).toNatClampNeg a2) (fun u11 => (cl_k (sp_Md_inState F v3_6 (3 : Int32) (3 : Int32) u11) (fun r12 u13 => (if ib v3_6 6 = true then (if r12 = (u13.1 (13) v3_6.toNatClampNeg) then (cl_k (sp_Md_end F v3_6 u13) (fun r22 u23 => (some ((1 : Int32), u23)))) else (cl_k (sp_Md_inState F v3_6 (1 : Int32) (2 : Int32) u13) (fun r16 u17 => (if r16 = 0 then (cl_k (sp_Md_stop F v3_6 u17) (fun r19 u20 => (some ((0 : Int32), u20)))) else (some ((0 : Int32), u17)))))) else none))))) else none) else none))) else none))) else none) else (some ((-2 : Int32), u2))) else none)))
def sp_Md_failed (F : Nat) (a1 : Int32) (u : St) : Option (Int32 × St) :=
  if ib a1 61 = true then (nm_k (u.1 (17) a1.toNatClampNeg) (fun v2_2 => (if ib a1 61 = true then (nm_k (ly_pi u (18) a1.toNatClampNeg (4 : Int32)) (fun u4 => (cl_k (sp_Md_inState F v2_2 (1 : Int32) (2 : Int32) u4) (fun r5 u6 => (if r5 ≤ 0 then (cl_k (sp_Md_stop F v2_2 u6) (fun r8 u9 => (some ((1 : Int32), u9)))) else (some ((0 : Int32), u6))))))) else none))) else none
def sp_Md_fail (F : Nat) (a1 : Int32) (u : St) : Option (Int32 × St) :=
  cl_k (sp_Md_isItem a1 u) (fun r1 u2 => (if r1 = 0 then (some ((-1 : Int32), u2)) else (if ib a1 61 = true then (if (u2.1 (18) a1.toNatClampNeg) ≤ (2 : Int32) then (cl_k (sp_Md_failed F a1 u2) (fun r5 u6 => (some (r5, u6)))) else (some ((-2 : Int32), u2))) else none)))
def lp_Md_tick_26 (F : Nat) (v1 : Int32) (k26 : Int32 → St → Option (Int32 × St)) : Nat → Int32 → St → Option (Int32 × St)
  | 0, _, _ => none
  | n + 1, v2, u => if (u.1 (0) 19) < v2 then (k26 v2 u) else (if ib v2 61 = true then (if ib (u.1 (17) v2.toNatClampNeg) 6 = true then (nm_k (u.1 (15) (u.1 (17) v2.toNatClampNeg).toNatClampNeg) (fun v3_4 => (if ib v2 61 = true then (if (2 : Int32) < (u.1 (18) v2.toNatClampNeg) then (lp_Md_tick_26 F v1 k26 n (v2 + (1 : Int32)) u) else (if v3_4 ≤ 0 then (lp_Md_tick_26 F v1 k26 n (v2 + (1 : Int32)) u) else (if ib v2 61 = true then (if ((u.1 (0) 17) - (u.1 (19) v2.toNatClampNeg)) < v3_4 then (lp_Md_tick_26 F v1 k26 n (v2 + (1 : Int32)) u) else (cl_k (sp_Md_failed F v2 u) (fun r7 u8 => (lp_Md_tick_26 F v1 k26 n (v2 + (1 : Int32)) u8)))) else none))) else none))) else none) else none)
def sp_Md_tick (F : Nat) (a1 : Int32) (u : St) : Option (Int32 × St) :=
  if a1 < 0 then (nm_k (ly_pi u (0) 17 ((u.1 (0) 17) + (0 : Int32))) (fun u1 => (lp_Md_tick_26 F a1 (fun (v2_10 : Int32) (u11 : St) => (some ((u11.1 (0) 17), u11))) F (1 : Int32) u1))) else (if (100 : Int32) < a1 then (nm_k (ly_pi u (0) 17 ((u.1 (0) 17) + (0 : Int32))) (fun u12 => (lp_Md_tick_26 F a1 (fun (v2_13 : Int32) (u14 : St) => (some ((u14.1 (0) 17), u14))) F (1 : Int32) u12))) else (nm_k (ly_pi u (0) 17 ((u.1 (0) 17) + a1)) (fun u15 => (lp_Md_tick_26 F a1 (fun (v2_16 : Int32) (u17 : St) => (some ((u17.1 (0) 17), u17))) F (1 : Int32) u15))))
def sp_Md_set (a1 : Int32) (a2 : Int32) (u : St) : Option (Int32 × St) :=
  if a1 < 0 then (some ((0 : Int32), u)) else (if a1 ≤ (3 : Int32) then (if ib a1 4 = true then (nm_k (ly_pi u (16) a1.toNatClampNeg a2) (fun u2 => (some ((1 : Int32), u2)))) else none) else (some ((0 : Int32), u)))
def sp_Md_variable (a1 : Int32) (u : St) : Option (Int32 × St) :=
  if a1 < 0 then (some ((0 : Int32), u)) else (if (3 : Int32) < a1 then (some ((0 : Int32), u)) else (if ib a1 4 = true then (some ((u.1 (16) a1.toNatClampNeg), u)) else none))
def sp_Md_marking (u : St) : Option (Int32 × St) :=
  some ((u.1 (0) 16), u)
def sp_Md_item (a1 : Int32) (a2 : Int32) (u : St) : Option (Int32 × St) :=
  cl_k (sp_Md_isItem a1 u) (fun r1 u2 => (if r1 = 0 then (some ((-1 : Int32), u2)) else (if a2 < 0 then (some ((-1 : Int32), u2)) else (if a2 ≤ (2 : Int32) then (if a2 = 0 then (if ib a1 61 = true then (some ((u2.1 (17) a1.toNatClampNeg), u2)) else none) else (if a2 = (1 : Int32) then (if ib a1 61 = true then (some ((u2.1 (18) a1.toNatClampNeg), u2)) else none) else (if ib a1 61 = true then (some ((u2.1 (19) a1.toNatClampNeg), u2)) else none))) else (some ((-1 : Int32), u2))))))
def sp_Md_isGood (a1 : Int32) (u : St) : Option (Int32 × St) :=
  if ib (a1 >>> ((6 : Int32) &&& 31)) 256 = true then (if (lg_cmp ((((u.2 (23) (a1 >>> ((6 : Int32) &&& 31)).toNatClampNeg) >>> ((a1 &&& (63 : Int32)).toInt64 &&& 63))) &&& (1 : Int64)) (0 : Int64)) = 0 then (some ((0 : Int32), u)) else (some ((1 : Int32), u))) else none
def lp_Md_leads_10 (F : Nat) (v1 : Int32) (v2 : Int32) (k10 : Int32 → St → Option (Int32 × St)) : Nat → Int32 → St → Option (Int32 × St)
  | 0, _, _ => none
  | n + 1, v3, u => if (10 : Int32) ≤ v3 then (k10 v3 u) else (if ib v2 6 = true then (if (u.1 (1) v2.toNatClampNeg) = 0 then (k10 v3 u) else (cl_k (sp_Md_after F v1 v2 v3 u) (fun r2 u3 => (if r2 < 0 then (lp_Md_leads_10 F v1 v2 k10 n (v3 + (1 : Int32)) u3) else (cl_k (sp_Md_isGood r2 u3) (fun r5 u6 => (if r5 = 0 then (lp_Md_leads_10 F v1 v2 k10 n (v3 + (1 : Int32)) u6) else (some ((1 : Int32), u6))))))))) else none)
def lp_Md_leads_2 (F : Nat) (v1 : Int32) (k2 : Int32 → St → Option (Int32 × St)) : Nat → Int32 → St → Option (Int32 × St)
  | 0, _, _ => none
  | n + 1, v2, u => if (6 : Int32) ≤ v2 then (k2 v2 u) else (lp_Md_leads_10 F v1 v2 (fun (v3_8 : Int32) (u9 : St) => (lp_Md_leads_2 F v1 k2 n (v2 + (1 : Int32)) u9)) F (0 : Int32) u)
def sp_Md_leads (F : Nat) (a1 : Int32) (u : St) : Option (Int32 × St) :=
  lp_Md_leads_2 F a1 (fun (v2_10 : Int32) (u11 : St) => (some ((0 : Int32), u11))) F (0 : Int32) u
def lp_Md_allEnd_2 (F : Nat) (k2 : Int32 → St → Option (Int32 × St)) : Nat → Int32 → St → Option (Int32 × St)
  | 0, _, _ => none
  | n + 1, v1, u => if (256 : Int32) ≤ v1 then (k2 v1 u) else (if ib v1 256 = true then (nm_k (ly_pl u (23) v1.toNatClampNeg (0 : Int64)) (fun u2 => (lp_Md_allEnd_2 F k2 n (v1 + (1 : Int32)) u2))) else none)
def lp_Md_allEnd_42 (F : Nat) (k42 : Int32 → Int32 → Int32 → St → Option (Int32 × St)) : Nat → Int32 → Int32 → Int32 → St → Option (Int32 × St)
  | 0, _, _, _, _ => none
  | n + 1, v1, v2, v3, u => if v3 < 0 then (k42 v1 v2 v3 u) else (if ib v3 16384 = true then (nm_k (u.1 (22) v3.toNatClampNeg) (fun v4_8 => (cl_k (sp_Md_isGood v4_8 u) (fun r9 u10 => (if r9 = 0 then (if (v4_8 &&& (2 : Int32)) = 0 then (cl_k (sp_Md_leads F v4_8 u10) (fun r15 u16 => (if r15 = 0 then (lp_Md_allEnd_42 F k42 n v1 v2 (v3 + (-1 : Int32)) u16) else (if ib (v4_8 >>> ((6 : Int32) &&& 31)) 256 = true then (if ib (v4_8 >>> ((6 : Int32) &&& 31)) 256 = true then (nm_k (ly_pl u16 (23) (v4_8 >>> ((6 : Int32) &&& 31)).toNatClampNeg ((u16.2 (23) (v4_8 >>> ((6 : Int32) &&& 31)).toNatClampNeg) ||| (((1 : Int64) <<< ((v4_8 &&& (63 : Int32)).toInt64 &&& 63))))) (fun u20 => (lp_Md_allEnd_42 F k42 n (v1 + (-1 : Int32)) (1 : Int32) (v3 + (-1 : Int32)) u20))) else none) else none)))) else (if ib (v4_8 >>> ((6 : Int32) &&& 31)) 256 = true then (if ib (v4_8 >>> ((6 : Int32) &&& 31)) 256 = true then (nm_k (ly_pl u10 (23) (v4_8 >>> ((6 : Int32) &&& 31)).toNatClampNeg ((u10.2 (23) (v4_8 >>> ((6 : Int32) &&& 31)).toNatClampNeg) ||| (((1 : Int64) <<< ((v4_8 &&& (63 : Int32)).toInt64 &&& 63))))) (fun u14 => (lp_Md_allEnd_42 F k42 n (v1 + (-1 : Int32)) (1 : Int32) (v3 + (-1 : Int32)) u14))) else none) else none)) else (lp_Md_allEnd_42 F k42 n v1 v2 (v3 + (-1 : Int32)) u10)))))) else none)
def lp_Md_allEnd_29 (F : Nat) (k29 : Int32 → Int32 → St → Option (Int32 × St)) : Nat → Int32 → Int32 → St → Option (Int32 × St)
  | 0, _, _, _ => none
  | n + 1, v1, v2, u => if v2 = 0 then (k29 v1 v2 u) else (nm_k ((u.1 (0) 26) - (1 : Int32)) (fun v3_6 => (lp_Md_allEnd_42 F (fun (v1_21 : Int32) (v2_22 : Int32) (v3_23 : Int32) (u24 : St) => (lp_Md_allEnd_29 F k29 n v1_21 v2_22 u24)) F v1 (0 : Int32) v3_6 u)))
def sp_Md_allEnd (F : Nat) (u : St) : Option (Int32 × St) :=
  lp_Md_allEnd_2 F (fun (v1_3 : Int32) (u4 : St) => (nm_k (u4.1 (0) 26) (fun v1_5 => (lp_Md_allEnd_29 F (fun (v1_25 : Int32) (v2_26 : Int32) (u27 : St) => (if v1_25 = 0 then (some ((1 : Int32), u27)) else (some ((0 : Int32), u27)))) F v1_5 (1 : Int32) u4)))) F (0 : Int32) u
def lp_Md_canBegin_12 (F : Nat) (v1 : Int32) (v2 : Int32) (k12 : Int32 → St → Option (Int32 × St)) : Nat → Int32 → St → Option (Int32 × St)
  | 0, _, _ => none
  | n + 1, v3, u => if (3 : Int32) ≤ v3 then (k12 v3 u) else (if ib v1 6 = true then (if (u.1 (2) v1.toNatClampNeg) = 0 then (if ib v1 6 = true then (nm_k (u.1 (4) v1.toNatClampNeg) (fun v4_6 => (if v4_6 = 0 then (lp_Md_canBegin_12 F v1 v2 k12 n (v3 + (1 : Int32)) u) else (if ib v2 16384 = true then (if ((u.1 (22) v2.toNatClampNeg) &&& v4_6) = v4_6 then (some ((1 : Int32), u)) else (lp_Md_canBegin_12 F v1 v2 k12 n (v3 + (1 : Int32)) u)) else none)))) else none) else (if ib (((3 : Int32) * v1) + v3) 18 = true then (nm_k (u.1 (6) (((3 : Int32) * v1) + v3).toNatClampNeg) (fun v4_3 => (if v4_3 = 0 then (lp_Md_canBegin_12 F v1 v2 k12 n (v3 + (1 : Int32)) u) else (if ib v2 16384 = true then (if ((u.1 (22) v2.toNatClampNeg) &&& v4_3) = v4_3 then (some ((1 : Int32), u)) else (lp_Md_canBegin_12 F v1 v2 k12 n (v3 + (1 : Int32)) u)) else none)))) else none)) else none)
def lp_Md_canBegin_2 (F : Nat) (v1 : Int32) (k2 : Int32 → St → Option (Int32 × St)) : Nat → Int32 → St → Option (Int32 × St)
  | 0, _, _ => none
  | n + 1, v2, u => if (u.1 (0) 26) ≤ v2 then (k2 v2 u) else (lp_Md_canBegin_12 F v1 v2 (fun (v3_8 : Int32) (u9 : St) => (lp_Md_canBegin_2 F v1 k2 n (v2 + (1 : Int32)) u9)) F (0 : Int32) u)
def sp_Md_canBegin (F : Nat) (a1 : Int32) (u : St) : Option (Int32 × St) :=
  lp_Md_canBegin_2 F a1 (fun (v2_10 : Int32) (u11 : St) => (some ((0 : Int32), u11))) F (0 : Int32) u
def lp_Md_verdict_2 (F : Nat) (k2 : Int32 → St → Option (Int32 × St)) : Nat → Int32 → St → Option (Int32 × St)
  | 0, _, _ => none
  | n + 1, v1, u => if (6 : Int32) ≤ v1 then (k2 v1 u) else (if ib v1 6 = true then (if (u.1 (1) v1.toNatClampNeg) = 0 then (lp_Md_verdict_2 F k2 n (v1 + (1 : Int32)) u) else (if ib v1 6 = true then (if (u.1 (2) v1.toNatClampNeg) = (2 : Int32) then (some ((-1 : Int32), u)) else (lp_Md_verdict_2 F k2 n (v1 + (1 : Int32)) u)) else none)) else none)
def lp_Md_verdict_69 (F : Nat) (v1 : Int32) (v3 : Int32) (k69 : Int32 → Int32 → St → Option (Int32 × St)) : Nat → Int32 → Int32 → St → Option (Int32 × St)
  | 0, _, _, _ => none
  | n + 1, v2, v4, u => if (u.1 (0) 26) ≤ v4 then (k69 v2 v4 u) else (if v2 = 0 then (lp_Md_verdict_69 F v1 v3 k69 n (0 : Int32) (v4 + (1 : Int32)) u) else (if ib v4 16384 = true then (if ((u.1 (22) v4.toNatClampNeg) &&& (2 : Int32)) = 0 then (lp_Md_verdict_69 F v1 v3 k69 n (1 : Int32) (v4 + (1 : Int32)) u) else (if ib v4 16384 = true then (if (u.1 (22) v4.toNatClampNeg) = (2 : Int32) then (lp_Md_verdict_69 F v1 v3 k69 n (1 : Int32) (v4 + (1 : Int32)) u) else (lp_Md_verdict_69 F v1 v3 k69 n (0 : Int32) (v4 + (1 : Int32)) u)) else none)) else none))
def lp_Md_verdict_120 (F : Nat) (v1 : Int32) (v2 : Int32) (k120 : Int32 → Int32 → St → Option (Int32 × St)) : Nat → Int32 → Int32 → St → Option (Int32 × St)
  | 0, _, _, _ => none
  | n + 1, v3, v4, u => if (6 : Int32) ≤ v4 then (k120 v3 v4 u) else (if v3 = 0 then (lp_Md_verdict_120 F v1 v2 k120 n (0 : Int32) (v4 + (1 : Int32)) u) else (if ib v4 6 = true then (if (u.1 (1) v4.toNatClampNeg) = 0 then (lp_Md_verdict_120 F v1 v2 k120 n (1 : Int32) (v4 + (1 : Int32)) u) else (cl_k (sp_Md_canBegin F v4 u) (fun r17 u18 => (if r17 = 0 then (lp_Md_verdict_120 F v1 v2 k120 n (0 : Int32) (v4 + (1 : Int32)) u18) else (lp_Md_verdict_120 F v1 v2 k120 n (1 : Int32) (v4 + (1 : Int32)) u18))))) else none))
def sp_Md_verdict (F : Nat) (u : St) : Option (Int32 × St) :=
  lp_Md_verdict_2 F (fun (v1_3 : Int32) (u4 : St) => (cl_k (sp_Md_isAny F u4) (fun r5 u6 => (if r5 = 0 then (some ((-1 : Int32), u6)) else (cl_k (sp_Md_search F (1 : Int32) (16384 : Int32) (-1 : Int32) u6) (fun r8 u9 => (if r8 = 0 then (lp_Md_verdict_69 F r8 (1 : Int32) (fun (v2_26 : Int32) (v4_27 : Int32) (u28 : St) => (lp_Md_verdict_120 F r8 v2_26 (fun (v3_29 : Int32) (v4_30 : Int32) (u31 : St) => (cl_k (sp_Md_allEnd F u31) (fun r32 u33 => (if r32 = 0 then (if v2_26 = 0 then (if v3_29 = 0 then (some ((((0 : Int32) + (0 : Int32)) + (0 : Int32)), u33)) else (some ((((0 : Int32) + (0 : Int32)) + (4 : Int32)), u33))) else (if v3_29 = 0 then (some ((((0 : Int32) + (2 : Int32)) + (0 : Int32)), u33)) else (some ((((0 : Int32) + (2 : Int32)) + (4 : Int32)), u33)))) else (if v2_26 = 0 then (if v3_29 = 0 then (some ((((1 : Int32) + (0 : Int32)) + (0 : Int32)), u33)) else (some ((((1 : Int32) + (0 : Int32)) + (4 : Int32)), u33))) else (if v3_29 = 0 then (some ((((1 : Int32) + (2 : Int32)) + (0 : Int32)), u33)) else (some ((((1 : Int32) + (2 : Int32)) + (4 : Int32)), u33)))))))) F (1 : Int32) (0 : Int32) u28)) F (1 : Int32) (0 : Int32) u9) else (lp_Md_verdict_69 F r8 (1 : Int32) (fun (v2_13 : Int32) (v4_14 : Int32) (u15 : St) => (lp_Md_verdict_120 F r8 v2_13 (fun (v3_20 : Int32) (v4_21 : Int32) (u22 : St) => (cl_k (sp_Md_allEnd F u22) (fun r23 u24 => (if r23 = 0 then (if v2_13 = 0 then (if v3_20 = 0 then (some ((((0 : Int32) + (0 : Int32)) + (0 : Int32)), u24)) else (some ((((0 : Int32) + (0 : Int32)) + (4 : Int32)), u24))) else (if v3_20 = 0 then (some ((((0 : Int32) + (2 : Int32)) + (0 : Int32)), u24)) else (some ((((0 : Int32) + (2 : Int32)) + (4 : Int32)), u24)))) else (if v2_13 = 0 then (if v3_20 = 0 then (some ((((1 : Int32) + (0 : Int32)) + (0 : Int32)), u24)) else (some ((((1 : Int32) + (0 : Int32)) + (4 : Int32)), u24))) else (if v3_20 = 0 then (some ((((1 : Int32) + (2 : Int32)) + (0 : Int32)), u24)) else (some ((((1 : Int32) + (2 : Int32)) + (4 : Int32)), u24)))))))) F (1 : Int32) (0 : Int32) u15)) F (0 : Int32) (0 : Int32) u9)))))))) F (0 : Int32) u
end
section
set_option maxRecDepth 100000 in
set_option maxHeartbeats 4000000 in
theorem c_Integer_bitCount (l : Launch) (a1 : Int32) (u : St) (res : Int32 × St) (h : sp_Integer_bitCount a1 u = some res) : ly_Mi ZsC clA layC l y_Integer_bitCount w_Integer_bitCount { frames := 0, cells := 0, slots := 0, locals := 0 } (fun ad => [.int a1]) u (fun r1 u1 => (r1, u1) = res) := by
  refine ly_enti (cc := b_Integer_bitCount) (maxL := 1) (ret := (some .int)) (by decide) rfl (fun ad => Nat.le_of_ble_eq_true rfl) ?_
  intro p e s m below meth c D ad cA A ls fx hr hlocks hk hA hz hw hl
  have hl : lv_has ls 1 [(0, .int a1)] := hl
  have hx := fx.1
  have hb := fx.2.1
  unfold sp_Integer_bitCount at h
  refine lv_iload_n hx hb d_Integer_bitCount_0 rfl (lv_at hl 0 rfl) ?_
  refine lv_iload_n hx hb d_Integer_bitCount_1 rfl (lv_at hl 0 rfl) ?_
  refine lv_iconst (v := 1) hx hb d_Integer_bitCount_2 (by decide) ?_
  refine lv_iushr hx hb d_Integer_bitCount_3 rfl ?_
  refine lv_ldcw (v := 1431655765) hx hb fx.2.2.2.1 (fx.2.2.2.2 _ (List.mem_cons_of_mem _ a_196)) d_Integer_bitCount_4 ?_
  refine lv_iand hx hb d_Integer_bitCount_7 ?_
  refine lv_isub hx hb d_Integer_bitCount_8 ?_
  refine lv_topi (fun v0_1 ev => ?_)
  have h := nk_r ev h
  refine lv_istore_n (lv' := [(0, .int v0_1)]) hx hb d_Integer_bitCount_9 rfl hl (by decide) rfl (fun ls hl => ?_)
  refine lv_iload_n hx hb d_Integer_bitCount_10 rfl (lv_at hl 0 rfl) ?_
  refine lv_ldcw (v := 858993459) hx hb fx.2.2.2.1 (fx.2.2.2.2 _ (List.mem_cons_of_mem _ a_197)) d_Integer_bitCount_11 ?_
  refine lv_iand hx hb d_Integer_bitCount_14 ?_
  refine lv_iload_n hx hb d_Integer_bitCount_15 rfl (lv_at hl 0 rfl) ?_
  refine lv_iconst (v := 2) hx hb d_Integer_bitCount_16 (by decide) ?_
  refine lv_iushr hx hb d_Integer_bitCount_17 rfl ?_
  refine lv_ldcw (v := 858993459) hx hb fx.2.2.2.1 (fx.2.2.2.2 _ (List.mem_cons_of_mem _ a_197)) d_Integer_bitCount_18 ?_
  refine lv_iand hx hb d_Integer_bitCount_21 ?_
  refine lv_iadd hx hb d_Integer_bitCount_22 ?_
  refine lv_topi (fun v0_2 ev => ?_)
  have h := nk_r ev h
  refine lv_istore_n (lv' := [(0, .int v0_2)]) hx hb d_Integer_bitCount_23 rfl hl (by decide) rfl (fun ls hl => ?_)
  refine lv_iload_n hx hb d_Integer_bitCount_24 rfl (lv_at hl 0 rfl) ?_
  refine lv_iload_n hx hb d_Integer_bitCount_25 rfl (lv_at hl 0 rfl) ?_
  refine lv_iconst (v := 4) hx hb d_Integer_bitCount_26 (by decide) ?_
  refine lv_iushr hx hb d_Integer_bitCount_27 rfl ?_
  refine lv_iadd hx hb d_Integer_bitCount_28 ?_
  refine lv_ldcw (v := 252645135) hx hb fx.2.2.2.1 (fx.2.2.2.2 _ (List.mem_cons_of_mem _ a_198)) d_Integer_bitCount_29 ?_
  refine lv_iand hx hb d_Integer_bitCount_32 ?_
  refine lv_topi (fun v0_3 ev => ?_)
  have h := nk_r ev h
  refine lv_istore_n (lv' := [(0, .int v0_3)]) hx hb d_Integer_bitCount_33 rfl hl (by decide) rfl (fun ls hl => ?_)
  refine lv_iload_n hx hb d_Integer_bitCount_34 rfl (lv_at hl 0 rfl) ?_
  refine lv_iload_n hx hb d_Integer_bitCount_35 rfl (lv_at hl 0 rfl) ?_
  refine lv_bipush (v := 8) hx hb d_Integer_bitCount_36 (by decide) ?_
  refine lv_iushr hx hb d_Integer_bitCount_38 rfl ?_
  refine lv_iadd hx hb d_Integer_bitCount_39 ?_
  refine lv_topi (fun v0_4 ev => ?_)
  have h := nk_r ev h
  refine lv_istore_n (lv' := [(0, .int v0_4)]) hx hb d_Integer_bitCount_40 rfl hl (by decide) rfl (fun ls hl => ?_)
  refine lv_iload_n hx hb d_Integer_bitCount_41 rfl (lv_at hl 0 rfl) ?_
  refine lv_iload_n hx hb d_Integer_bitCount_42 rfl (lv_at hl 0 rfl) ?_
  refine lv_bipush (v := 16) hx hb d_Integer_bitCount_43 (by decide) ?_
  refine lv_iushr hx hb d_Integer_bitCount_45 rfl ?_
  refine lv_iadd hx hb d_Integer_bitCount_46 ?_
  refine lv_topi (fun v0_5 ev => ?_)
  have h := nk_r ev h
  refine lv_istore_n (lv' := [(0, .int v0_5)]) hx hb d_Integer_bitCount_47 rfl hl (by decide) rfl (fun ls hl => ?_)
  refine lv_iload_n hx hb d_Integer_bitCount_48 rfl (lv_at hl 0 rfl) ?_
  refine lv_bipush (v := 63) hx hb d_Integer_bitCount_49 (by decide) ?_
  refine lv_iand hx hb d_Integer_bitCount_51 ?_
  exact ly_reti fx hr hlocks hk hw (Option.some.inj h) d_Integer_bitCount_52
set_option maxRecDepth 100000 in
set_option maxHeartbeats 4000000 in
theorem wl_Arrays_fill_6 {p : Program} {l : Launch} {e : Env} {s : State} {m : MethodId} {args : Array Value} {below : List Frame} {meth : Method} {c : Code} {D : va_G} {ad : Nat → Nat} {cA : Nat → ClassId} {A : Nat → Prop} (fx : CallFix p m c b_Arrays_fill 5 s args w_Arrays_fill y_Arrays_fill.cls) (hr : meth.sig.returnType = none) (hlocks : meth.locks = false) (hk : ly_K D clA layC cA s) (hA : ∀ q, s.heap.size ≤ q → A q) (hz : ZsC A s s.heap) (F : Nat) (q0 : Nat) (v1 : Int64) (v4 : Int32) (hq0 : q0 = 3 ∨ q0 = 5 ∨ q0 = 7) {k6 : Int32 → St → Option (Int32 × St)} {res : Int32 × St}
    (hX6 : ∀ (v3 : Int32) (u : St) (H : Heap) (locs : List Loc) (ls : Array Slot), k6 v3 u = some res → lv_has ls 5 [(0, .ref (ad (q0 + 1))), (1, .long v1), (3, .int v3), (4, .int v4)] → ly_G D clA layC ad cA A s.heap u H locs → W p l e { frames := 0, cells := 0, slots := 0, locals := 0 } s m args below meth c H locs 0 0 (MQ below (va_Qv (fun u1 => ((0 : Int32), u1) = res) (ly_B D clA layC ad cA A) A) args s 0 0 A) (F0 m 22 ls [])) :
    ∀ (n : Nat) (v3 : Int32) (u : St) (H : Heap) (locs : List Loc) (ls : Array Slot), lp_Arrays_fill_6 F q0 v1 v4 k6 n v3 u = some res → lv_has ls 5 [(0, .ref (ad (q0 + 1))), (1, .long v1), (3, .int v3), (4, .int v4)] → ly_G D clA layC ad cA A s.heap u H locs → W p l e { frames := 0, cells := 0, slots := 0, locals := 0 } s m args below meth c H locs 0 0 (MQ below (va_Qv (fun u1 => ((0 : Int32), u1) = res) (ly_B D clA layC ad cA A) A) args s 0 0 A) (F0 m 6 ls []) := by
  have hx := fx.1
  have hb := fx.2.1
  intro n
  induction n with
  | zero => intro v3 u H locs ls h; exact nomatch h
  | succ n ih =>
    intro v3 u H locs ls h hl hw
    rw [lp_Arrays_fill_6] at h
    refine lv_iload_n hx hb d_Arrays_fill_6 rfl (lv_at hl 2 rfl) ?_
    refine lv_iload hx hb d_Arrays_fill_7 (lv_at hl 3 rfl) ?_
    refine lv_icmp_ge (tgt := 22) hx hb d_Arrays_fill_9 (by decide) (fun hc => ?_) (fun hc => ?_)
    · have h := it_t hc h
      exact hX6 v3 u _ _ _ h (lv_sub hl [0, 1, 2, 3] rfl) hw
    · have h := it_f hc h
      refine lv_aload_n hx hb d_Arrays_fill_12 rfl (lv_at hl 0 rfl) ?_
      refine lv_iload_n hx hb d_Arrays_fill_13 rfl (lv_at hl 2 rfl) ?_
      refine lv_lload_n hx hb d_Arrays_fill_14 rfl (lv_at hl 1 rfl) ?_
      obtain ⟨hi1, h⟩ := it_in h
      refine ly_last fx hk hw (q0 + 1) (la_Mw hq0) hi1 d_Arrays_fill_15 (fun H locs hw => ?_)
      obtain ⟨u2, ev⟩ : ∃ z, z = ly_pl u (q0 + 1) v3.toNatClampNeg v1 := ⟨_, rfl⟩
      rw [← ev] at hw
      have h := nk_r ev h
      refine lv_iinc (lv' := [(3, .int (v3 + (1 : Int32))), (0, .ref (ad (q0 + 1))), (1, .long v1), (4, .int v4)]) (k := 2) hx hb d_Arrays_fill_16 hl rfl (oi_p1 _) (by decide) rfl (fun ls hl => ?_)
      refine lv_goto (tgt := 6) hx hb d_Arrays_fill_19 (by decide) ?_
      exact ih (v3 + (1 : Int32)) u2 _ _ _ h (lv_sub hl [1, 2, 0, 3] rfl) hw
set_option maxRecDepth 100000 in
set_option maxHeartbeats 4000000 in
theorem c_Arrays_fill (l : Launch) (F : Nat) (q : Nat) (a2 : Int64) (hq : q = 3 ∨ q = 5 ∨ q = 7) (u : St) (res : Int32 × St) (h : sp_Arrays_fill F q a2 u = some res) : ly_Mv ZsC clA layC l y_Arrays_fill w_Arrays_fill { frames := 0, cells := 0, slots := 0, locals := 0 } (fun ad => [.ref (ad (q + 1)), .long a2]) u (fun u1 => ((0 : Int32), u1) = res) := by
  refine ly_entv (cc := b_Arrays_fill) (maxL := 5) (ret := none) (by decide) rfl (fun ad => Nat.le_of_ble_eq_true rfl) ?_
  intro p e s m below meth c D ad cA A ls fx hr hlocks hk hA hz hw hl
  have hl : lv_has ls 5 [(0, .ref (ad (q + 1))), (1, .long a2)] := hl
  have hx := fx.1
  have hb := fx.2.1
  unfold sp_Arrays_fill at h
  refine lv_iconst (v := 0) hx hb d_Arrays_fill_0 (by decide) ?_
  refine lv_istore_n (lv' := [(3, .int (0 : Int32)), (0, .ref (ad (q + 1))), (1, .long a2)]) hx hb d_Arrays_fill_1 rfl hl (by decide) rfl (fun ls hl => ?_)
  refine lv_aload_n hx hb d_Arrays_fill_2 rfl (lv_at hl 1 rfl) ?_
  refine ly_alen (v := 256) fx hk hw (q + 1) (la_Mw hq) (by decide) d_Arrays_fill_3 ?_
  refine lv_istore (lv' := [(4, .int (256 : Int32)), (3, .int (0 : Int32)), (0, .ref (ad (q + 1))), (1, .long a2)]) hx hb d_Arrays_fill_4 hl (by decide) rfl (fun ls hl => ?_)
  refine wl_Arrays_fill_6 fx hr hlocks hk hA hz F q a2 (256 : Int32) hq (fun v3_3 u4 H locs ls h hl hw => ?_) _ (0 : Int32) u _ _ _ h (lv_sub hl [2, 3, 1, 0] rfl) hw
  exact ly_retv fx hr hlocks hk hw (Option.some.inj h) d_Arrays_fill_22
set_option maxRecDepth 100000 in
set_option maxHeartbeats 4000000 in
theorem c_Long_bitCount (l : Launch) (a1 : Int64) (u : St) (res : Int32 × St) (h : sp_Long_bitCount a1 u = some res) : ly_Mi ZsC clA layC l y_Long_bitCount w_Long_bitCount { frames := 0, cells := 0, slots := 0, locals := 0 } (fun ad => [.long a1]) u (fun r1 u1 => (r1, u1) = res) := by
  refine ly_enti (cc := b_Long_bitCount) (maxL := 2) (ret := (some .int)) (by decide) rfl (fun ad => Nat.le_of_ble_eq_true rfl) ?_
  intro p e s m below meth c D ad cA A ls fx hr hlocks hk hA hz hw hl
  have hl : lv_has ls 2 [(0, .long a1)] := hl
  have hx := fx.1
  have hb := fx.2.1
  unfold sp_Long_bitCount at h
  refine lv_lload_n hx hb d_Long_bitCount_0 rfl (lv_at hl 0 rfl) ?_
  refine lv_lload_n hx hb d_Long_bitCount_1 rfl (lv_at hl 0 rfl) ?_
  refine lv_iconst (v := 1) hx hb d_Long_bitCount_2 (by decide) ?_
  refine lv_lushr hx hb d_Long_bitCount_3 rfl ?_
  refine lv_ldc2 (v := 6148914691236517205) hx hb fx.2.2.2.1 (fx.2.2.2.2 _ (List.mem_cons_of_mem _ a_327)) d_Long_bitCount_4 ?_
  refine lv_land hx hb d_Long_bitCount_7 ?_
  refine lv_lsub hx hb d_Long_bitCount_8 ?_
  refine lv_topl (fun v0_1 ev => ?_)
  have h := nk_r ev h
  refine lv_lstore_n (lv' := [(0, .long v0_1)]) hx hb d_Long_bitCount_9 rfl hl (by decide) rfl (fun ls hl => ?_)
  refine lv_lload_n hx hb d_Long_bitCount_10 rfl (lv_at hl 0 rfl) ?_
  refine lv_ldc2 (v := 3689348814741910323) hx hb fx.2.2.2.1 (fx.2.2.2.2 _ (List.mem_cons_of_mem _ a_328)) d_Long_bitCount_11 ?_
  refine lv_land hx hb d_Long_bitCount_14 ?_
  refine lv_lload_n hx hb d_Long_bitCount_15 rfl (lv_at hl 0 rfl) ?_
  refine lv_iconst (v := 2) hx hb d_Long_bitCount_16 (by decide) ?_
  refine lv_lushr hx hb d_Long_bitCount_17 rfl ?_
  refine lv_ldc2 (v := 3689348814741910323) hx hb fx.2.2.2.1 (fx.2.2.2.2 _ (List.mem_cons_of_mem _ a_328)) d_Long_bitCount_18 ?_
  refine lv_land hx hb d_Long_bitCount_21 ?_
  refine lv_ladd hx hb d_Long_bitCount_22 ?_
  refine lv_topl (fun v0_2 ev => ?_)
  have h := nk_r ev h
  refine lv_lstore_n (lv' := [(0, .long v0_2)]) hx hb d_Long_bitCount_23 rfl hl (by decide) rfl (fun ls hl => ?_)
  refine lv_lload_n hx hb d_Long_bitCount_24 rfl (lv_at hl 0 rfl) ?_
  refine lv_lload_n hx hb d_Long_bitCount_25 rfl (lv_at hl 0 rfl) ?_
  refine lv_iconst (v := 4) hx hb d_Long_bitCount_26 (by decide) ?_
  refine lv_lushr hx hb d_Long_bitCount_27 rfl ?_
  refine lv_ladd hx hb d_Long_bitCount_28 ?_
  refine lv_ldc2 (v := 1085102592571150095) hx hb fx.2.2.2.1 (fx.2.2.2.2 _ (List.mem_cons_of_mem _ a_329)) d_Long_bitCount_29 ?_
  refine lv_land hx hb d_Long_bitCount_32 ?_
  refine lv_topl (fun v0_3 ev => ?_)
  have h := nk_r ev h
  refine lv_lstore_n (lv' := [(0, .long v0_3)]) hx hb d_Long_bitCount_33 rfl hl (by decide) rfl (fun ls hl => ?_)
  refine lv_lload_n hx hb d_Long_bitCount_34 rfl (lv_at hl 0 rfl) ?_
  refine lv_lload_n hx hb d_Long_bitCount_35 rfl (lv_at hl 0 rfl) ?_
  refine lv_bipush (v := 8) hx hb d_Long_bitCount_36 (by decide) ?_
  refine lv_lushr hx hb d_Long_bitCount_38 rfl ?_
  refine lv_ladd hx hb d_Long_bitCount_39 ?_
  refine lv_topl (fun v0_4 ev => ?_)
  have h := nk_r ev h
  refine lv_lstore_n (lv' := [(0, .long v0_4)]) hx hb d_Long_bitCount_40 rfl hl (by decide) rfl (fun ls hl => ?_)
  refine lv_lload_n hx hb d_Long_bitCount_41 rfl (lv_at hl 0 rfl) ?_
  refine lv_lload_n hx hb d_Long_bitCount_42 rfl (lv_at hl 0 rfl) ?_
  refine lv_bipush (v := 16) hx hb d_Long_bitCount_43 (by decide) ?_
  refine lv_lushr hx hb d_Long_bitCount_45 rfl ?_
  refine lv_ladd hx hb d_Long_bitCount_46 ?_
  refine lv_topl (fun v0_5 ev => ?_)
  have h := nk_r ev h
  refine lv_lstore_n (lv' := [(0, .long v0_5)]) hx hb d_Long_bitCount_47 rfl hl (by decide) rfl (fun ls hl => ?_)
  refine lv_lload_n hx hb d_Long_bitCount_48 rfl (lv_at hl 0 rfl) ?_
  refine lv_lload_n hx hb d_Long_bitCount_49 rfl (lv_at hl 0 rfl) ?_
  refine lv_bipush (v := 32) hx hb d_Long_bitCount_50 (by decide) ?_
  refine lv_lushr hx hb d_Long_bitCount_52 rfl ?_
  refine lv_ladd hx hb d_Long_bitCount_53 ?_
  refine lv_topl (fun v0_6 ev => ?_)
  have h := nk_r ev h
  refine lv_lstore_n (lv' := [(0, .long v0_6)]) hx hb d_Long_bitCount_54 rfl hl (by decide) rfl (fun ls hl => ?_)
  refine lv_lload_n hx hb d_Long_bitCount_55 rfl (lv_at hl 0 rfl) ?_
  refine lv_l2i hx hb d_Long_bitCount_56 rfl ?_
  refine lv_bipush (v := 127) hx hb d_Long_bitCount_57 (by decide) ?_
  refine lv_iand hx hb d_Long_bitCount_59 ?_
  exact ly_reti fx hr hlocks hk hw (Option.some.inj h) d_Long_bitCount_60
end
section
set_option maxRecDepth 100000 in
set_option maxHeartbeats 4000000 in
theorem c_MS_clear (l : Launch) (F : Nat) (q : Nat) (hq : q = 3 ∨ q = 5 ∨ q = 7) (u : St) (res : Int32 × St) (h : sp_MS_clear F q u = some res) : ly_Mv ZsC clA layC l y_MS_clear w_MS_clear { frames := 1, cells := 0, slots := 0, locals := 24 } (fun ad => [.ref (ad q)]) u (fun u1 => ((0 : Int32), u1) = res) := by
  refine ly_entv (cc := b_MS_clear) (maxL := 1) (ret := none) (by decide) rfl (fun ad => Nat.le_of_ble_eq_true rfl) ?_
  intro p e s m below meth c D ad cA A ls fx hr hlocks hk hA hz hw hl
  have hl : lv_has ls 1 [(0, .ref (ad q))] := hl
  have hx := fx.1
  have hb := fx.2.1
  unfold sp_MS_clear at h
  refine lv_aload_n hx hb d_MS_clear_0 rfl (lv_at hl 0 rfl) ?_
  refine ly_getr fx hk hw (q) (la_M hq) rfl i_MaskSet 0 (by decide) rfl rfl (List.mem_cons_of_mem _ a_32) d_MS_clear_1 ?_
  refine lv_lconst (v := 0) hx hb d_MS_clear_4 (by decide) ?_
  obtain ⟨r1, u2, hq3, h⟩ := ck_r h
  refine ly_callSv (As := [.ref (ad (q + 1)), .long (0 : Int64)]) (rest := []) ZsC_ok fx hk hz hA hw (c_Arrays_fill l F q (0 : Int64) hq u _ hq3) (cw_S fx.2.2.2.2 a_298 a_299 a_8 ac_Arrays_fill rfl rfl hd_Arrays_fill ⟨Nat.le_of_ble_eq_true rfl, Nat.le_of_ble_eq_true rfl⟩) rfl rfl hl.1 rfl (Nat.le_of_ble_eq_true rfl) d_MS_clear_5 (Nat.zero_le _) (Nat.zero_le _) (fun u' H locs hp hw => ?_)
  cases hp
  refine lv_aload_n hx hb d_MS_clear_8 rfl (lv_at hl 0 rfl) ?_
  refine lv_sipush (v := 256) hx hb d_MS_clear_9 (by decide) ?_
  refine ly_put (v := (256 : Int32)) fx hk hw (q) (la_M hq) rfl i_MaskSet t_MaskSet t_MaskSet_ok n_MaskSet 1 (by decide) rfl rfl rfl (List.mem_cons_of_mem _ a_33) rfl rfl d_MS_clear_12 (fun H locs hw => ?_)
  obtain ⟨u4, ev⟩ : ∃ z, z = ly_pi u2 (q) 1 (256 : Int32) := ⟨_, rfl⟩
  rw [← ev] at hw
  have h := nk_r ev h
  exact ly_retv fx hr hlocks hk hw (Option.some.inj h) d_MS_clear_15
set_option maxRecDepth 100000 in
set_option maxHeartbeats 4000000 in
theorem c_MS_has (l : Launch) (q : Nat) (a1 : Int32) (hq : q = 3 ∨ q = 5 ∨ q = 7) (u : St) (res : Int32 × St) (h : sp_MS_has q a1 u = some res) : ly_Mi ZsC clA layC l y_MS_has w_MS_has { frames := 0, cells := 0, slots := 0, locals := 0 } (fun ad => [.ref (ad q), .int a1]) u (fun r1 u1 => (r1, u1) = res) := by
  refine ly_enti (cc := b_MS_has) (maxL := 2) (ret := (some .boolean)) (by decide) rfl (fun ad => Nat.le_of_ble_eq_true rfl) ?_
  intro p e s m below meth c D ad cA A ls fx hr hlocks hk hA hz hw hl
  have hl : lv_has ls 2 [(0, .ref (ad q)), (1, .int a1)] := hl
  have hx := fx.1
  have hb := fx.2.1
  unfold sp_MS_has at h
  refine lv_aload_n hx hb d_MS_has_0 rfl (lv_at hl 0 rfl) ?_
  refine ly_getr fx hk hw (q) (la_M hq) rfl i_MaskSet 0 (by decide) rfl rfl (List.mem_cons_of_mem _ a_32) d_MS_has_1 ?_
  refine lv_iload_n hx hb d_MS_has_4 rfl (lv_at hl 1 rfl) ?_
  refine lv_bipush (v := 6) hx hb d_MS_has_5 (by decide) ?_
  refine lv_ishr hx hb d_MS_has_7 ?_
  obtain ⟨hi1, h⟩ := it_in h
  refine ly_lald fx hk hw (q + 1) (la_Mw hq) hi1 d_MS_has_8 ?_
  refine lv_iload_n hx hb d_MS_has_9 rfl (lv_at hl 1 rfl) ?_
  refine lv_bipush (v := 63) hx hb d_MS_has_10 (by decide) ?_
  refine lv_iand hx hb d_MS_has_12 ?_
  refine lv_lushr hx hb d_MS_has_13 rfl ?_
  refine lv_lconst (v := 1) hx hb d_MS_has_14 (by decide) ?_
  refine lv_land hx hb d_MS_has_15 ?_
  refine lv_lconst (v := 0) hx hb d_MS_has_16 (by decide) ?_
  refine W.lcmp hx hb d_MS_has_17 ?_
  refine lv_if_eq (tgt := 25) hx hb d_MS_has_18 (by decide) (fun hc => ?_) (fun hc => ?_)
  · have h := it_t hc h
    refine lv_iconst (v := 0) hx hb d_MS_has_25 (by decide) ?_
    exact ly_retz fx hr hlocks hk hw (Or.inl rfl) (Option.some.inj h) d_MS_has_26
  · have h := it_f hc h
    refine lv_iconst (v := 1) hx hb d_MS_has_21 (by decide) ?_
    refine lv_goto (tgt := 26) hx hb d_MS_has_22 (by decide) ?_
    exact ly_retz fx hr hlocks hk hw (Or.inr rfl) (Option.some.inj h) d_MS_has_26
set_option maxRecDepth 100000 in
set_option maxHeartbeats 4000000 in
theorem wl_MS_addAllAbove_7 {p : Program} {l : Launch} {e : Env} {s : State} {m : MethodId} {args : Array Value} {below : List Frame} {meth : Method} {c : Code} {D : va_G} {ad : Nat → Nat} {cA : Nat → ClassId} {A : Nat → Prop} (fx : CallFix p m c b_MS_addAllAbove 6 s args w_MS_addAllAbove y_MS_addAllAbove.cls) (hr : meth.sig.returnType = none) (hlocks : meth.locks = false) (hk : ly_K D clA layC cA s) (hA : ∀ q, s.heap.size ≤ q → A q) (hz : ZsC A s s.heap) (F : Nat) (q0 : Nat) (v1 : Int32) (hq0 : q0 = 3 ∨ q0 = 5 ∨ q0 = 7) {k7 : Int64 → Int32 → St → Option (Int32 × St)} {res : Int32 × St}
    (hX7 : ∀ (v2 : Int64) (v4 : Int32) (u : St) (H : Heap) (locs : List Loc) (ls : Array Slot), k7 v2 v4 u = some res → lv_has ls 6 [(0, .ref (ad q0)), (1, .int v1), (2, .long v2), (4, .int v4)] → ly_G D clA layC ad cA A s.heap u H locs → W p l e { frames := 0, cells := 0, slots := 0, locals := 0 } s m args below meth c H locs 0 0 (MQ below (va_Qv (fun u1 => ((0 : Int32), u1) = res) (ly_B D clA layC ad cA A) A) args s 0 0 A) (F0 m 38 ls [])) :
    ∀ (n : Nat) (v2 : Int64) (v4 : Int32) (u : St) (H : Heap) (locs : List Loc) (ls : Array Slot), lp_MS_addAllAbove_7 F q0 v1 k7 n v2 v4 u = some res → lv_has ls 6 [(0, .ref (ad q0)), (1, .int v1), (2, .long v2), (4, .int v4)] → ly_G D clA layC ad cA A s.heap u H locs → W p l e { frames := 0, cells := 0, slots := 0, locals := 0 } s m args below meth c H locs 0 0 (MQ below (va_Qv (fun u1 => ((0 : Int32), u1) = res) (ly_B D clA layC ad cA A) A) args s 0 0 A) (F0 m 7 ls []) := by
  have hx := fx.1
  have hb := fx.2.1
  have hz' := hz
  obtain ⟨tH, hzZ, hzT⟩ := hz'.1
  intro n
  induction n with
  | zero => intro v2 v4 u H locs ls h; exact nomatch h
  | succ n ih =>
    intro v2 v4 u H locs ls h hl hw
    rw [lp_MS_addAllAbove_7] at h
    refine lv_iload hx hb d_MS_addAllAbove_7 (lv_at hl 3 rfl) ?_
    refine lv_bipush (v := 6) hx hb d_MS_addAllAbove_9 (by decide) ?_
    refine lv_icmp_ge (tgt := 38) hx hb d_MS_addAllAbove_11 (by decide) (fun hc => ?_) (fun hc => ?_)
    · have h := it_t hc h
      exact hX7 v2 v4 u _ _ _ h (lv_sub hl [0, 1, 2, 3] rfl) hw
    · have h := it_f hc h
      refine lv_iload_n hx hb d_MS_addAllAbove_14 rfl (lv_at hl 1 rfl) ?_
      refine lv_iconst (v := 1) hx hb d_MS_addAllAbove_15 (by decide) ?_
      refine lv_iload hx hb d_MS_addAllAbove_16 (lv_at hl 3 rfl) ?_
      refine lv_ishl hx hb d_MS_addAllAbove_18 ?_
      refine lv_iand hx hb d_MS_addAllAbove_19 ?_
      refine lv_if_eq (tgt := 32) hx hb d_MS_addAllAbove_20 (by decide) (fun hc => ?_) (fun hc => ?_)
      · have h := it_t hc h
        refine lv_iinc (lv' := [(4, .int (v4 + (1 : Int32))), (0, .ref (ad q0)), (1, .int v1), (2, .long v2)]) (k := 3) hx hb d_MS_addAllAbove_32 hl rfl (oi_p1 _) (by decide) rfl (fun ls hl => ?_)
        refine lv_goto (tgt := 7) hx hb d_MS_addAllAbove_35 (by decide) ?_
        exact ih v2 (v4 + (1 : Int32)) u _ _ _ h (lv_sub hl [1, 2, 3, 0] rfl) hw
      · have h := it_f hc h
        refine lv_lload_n hx hb d_MS_addAllAbove_23 rfl (lv_at hl 2 rfl) ?_
        refine va_gets hx hb hzZ hw.2.2 fx.2.2.2.1 (fx.2.2.2.2 _ (List.mem_cons_of_mem _ a_314)) (fun _ h9 => h9) d_MS_addAllAbove_24 ?_
        refine lv_iload hx hb d_MS_addAllAbove_27 (lv_at hl 3 rfl) ?_
        obtain ⟨hi2, h⟩ := it_in h
        refine va_tl hx hb hzT hw.2.2 hi2 rfl d_MS_addAllAbove_29 ?_
        refine lv_land hx hb d_MS_addAllAbove_30 ?_
        refine lv_topl (fun v2_3 ev => ?_)
        have h := nk_r ev h
        refine lv_lstore_n (lv' := [(2, .long v2_3), (0, .ref (ad q0)), (1, .int v1), (4, .int v4)]) hx hb d_MS_addAllAbove_31 rfl hl (by decide) rfl (fun ls hl => ?_)
        refine lv_iinc (lv' := [(4, .int (v4 + (1 : Int32))), (2, .long v2_3), (0, .ref (ad q0)), (1, .int v1)]) (k := 3) hx hb d_MS_addAllAbove_32 hl rfl (oi_p1 _) (by decide) rfl (fun ls hl => ?_)
        refine lv_goto (tgt := 7) hx hb d_MS_addAllAbove_35 (by decide) ?_
        exact ih v2_3 (v4 + (1 : Int32)) u _ _ _ h (lv_sub hl [2, 3, 1, 0] rfl) hw
set_option maxRecDepth 100000 in
set_option maxHeartbeats 4000000 in
theorem wl_MS_addAllAbove_48 {p : Program} {l : Launch} {e : Env} {s : State} {m : MethodId} {args : Array Value} {below : List Frame} {meth : Method} {c : Code} {D : va_G} {ad : Nat → Nat} {cA : Nat → ClassId} {A : Nat → Prop} (fx : CallFix p m c b_MS_addAllAbove 6 s args w_MS_addAllAbove y_MS_addAllAbove.cls) (hr : meth.sig.returnType = none) (hlocks : meth.locks = false) (hk : ly_K D clA layC cA s) (hA : ∀ q, s.heap.size ≤ q → A q) (hz : ZsC A s s.heap) (F : Nat) (q0 : Nat) (v1 : Int32) (v2 : Int64) (v4 : Int32) (hq0 : q0 = 3 ∨ q0 = 5 ∨ q0 = 7) {k48 : Int32 → St → Option (Int32 × St)} {res : Int32 × St}
    (hX48 : ∀ (v5 : Int32) (u : St) (H : Heap) (locs : List Loc) (ls : Array Slot), k48 v5 u = some res → lv_has ls 6 [(0, .ref (ad q0)), (1, .int v1), (2, .long v2), (4, .int v4), (5, .int v5)] → ly_G D clA layC ad cA A s.heap u H locs → W p l e { frames := 0, cells := 0, slots := 0, locals := 0 } s m args below meth c H locs 0 0 (MQ below (va_Qv (fun u1 => ((0 : Int32), u1) = res) (ly_B D clA layC ad cA A) A) args s 0 0 A) (F0 m 79 ls [])) :
    ∀ (n : Nat) (v5 : Int32) (u : St) (H : Heap) (locs : List Loc) (ls : Array Slot), lp_MS_addAllAbove_48 F q0 v1 v2 v4 k48 n v5 u = some res → lv_has ls 6 [(0, .ref (ad q0)), (1, .int v1), (2, .long v2), (4, .int v4), (5, .int v5)] → ly_G D clA layC ad cA A s.heap u H locs → W p l e { frames := 0, cells := 0, slots := 0, locals := 0 } s m args below meth c H locs 0 0 (MQ below (va_Qv (fun u1 => ((0 : Int32), u1) = res) (ly_B D clA layC ad cA A) A) args s 0 0 A) (F0 m 48 ls []) := by
  have hx := fx.1
  have hb := fx.2.1
  have hz' := hz
  obtain ⟨tH, hzZ, hzT⟩ := hz'.1
  intro n
  induction n with
  | zero => intro v5 u H locs ls h; exact nomatch h
  | succ n ih =>
    intro v5 u H locs ls h hl hw
    rw [lp_MS_addAllAbove_48] at h
    refine lv_iload hx hb d_MS_addAllAbove_48 (lv_at hl 4 rfl) ?_
    refine lv_sipush (v := 256) hx hb d_MS_addAllAbove_50 (by decide) ?_
    refine lv_icmp_ge (tgt := 79) hx hb d_MS_addAllAbove_53 (by decide) (fun hc => ?_) (fun hc => ?_)
    · have h := it_t hc h
      exact hX48 v5 u _ _ _ h (lv_sub hl [0, 1, 2, 3, 4] rfl) hw
    · have h := it_f hc h
      refine lv_aload_n hx hb d_MS_addAllAbove_56 rfl (lv_at hl 0 rfl) ?_
      refine ly_getr fx hk hw (q0) (la_M hq0) rfl i_MaskSet 0 (by decide) rfl rfl (List.mem_cons_of_mem _ a_32) d_MS_addAllAbove_57 ?_
      refine lv_iload hx hb d_MS_addAllAbove_60 (lv_at hl 4 rfl) ?_
      refine lv_dup2_11 hx hb d_MS_addAllAbove_62 rfl rfl ?_
      obtain ⟨hi8, h⟩ := it_in h
      refine ly_lald fx hk hw (q0 + 1) (la_Mw hq0) hi8 d_MS_addAllAbove_63 ?_
      refine lv_lload_n hx hb d_MS_addAllAbove_64 rfl (lv_at hl 2 rfl) ?_
      refine lv_lor hx hb d_MS_addAllAbove_65 ?_
      obtain ⟨hi9, h⟩ := it_in h
      refine ly_last fx hk hw (q0 + 1) (la_Mw hq0) hi9 d_MS_addAllAbove_66 (fun H locs hw => ?_)
      obtain ⟨u10, ev⟩ : ∃ z, z = ly_pl u (q0 + 1) v5.toNatClampNeg ((u.2 (q0 + 1) v5.toNatClampNeg) ||| v2) := ⟨_, rfl⟩
      rw [← ev] at hw
      have h := nk_r ev h
      refine lv_iload hx hb d_MS_addAllAbove_67 (lv_at hl 4 rfl) ?_
      refine lv_iconst (v := 1) hx hb d_MS_addAllAbove_69 (by decide) ?_
      refine lv_iadd hx hb d_MS_addAllAbove_70 ?_
      refine lv_iload hx hb d_MS_addAllAbove_71 (lv_at hl 3 rfl) ?_
      refine lv_ior hx hb d_MS_addAllAbove_73 ?_
      refine lv_topi (fun v5_11 ev => ?_)
      have h := nk_r ev h
      refine lv_istore (lv' := [(5, .int v5_11), (0, .ref (ad q0)), (1, .int v1), (2, .long v2), (4, .int v4)]) hx hb d_MS_addAllAbove_74 hl (by decide) rfl (fun ls hl => ?_)
      refine lv_goto (tgt := 48) hx hb d_MS_addAllAbove_76 (by decide) ?_
      exact ih v5_11 u10 _ _ _ h (lv_sub hl [1, 2, 3, 4, 0] rfl) hw
set_option maxRecDepth 100000 in
set_option maxHeartbeats 4000000 in
theorem c_MS_addAllAbove (l : Launch) (F : Nat) (q : Nat) (a1 : Int32) (hq : q = 3 ∨ q = 5 ∨ q = 7) (u : St) (res : Int32 × St) (h : sp_MS_addAllAbove F q a1 u = some res) : ly_Mv ZsC clA layC l y_MS_addAllAbove w_MS_addAllAbove { frames := 0, cells := 0, slots := 0, locals := 0 } (fun ad => [.ref (ad q), .int a1]) u (fun u1 => ((0 : Int32), u1) = res) := by
  refine ly_entv (cc := b_MS_addAllAbove) (maxL := 6) (ret := none) (by decide) rfl (fun ad => Nat.le_of_ble_eq_true rfl) ?_
  intro p e s m below meth c D ad cA A ls fx hr hlocks hk hA hz hw hl
  have hl : lv_has ls 6 [(0, .ref (ad q)), (1, .int a1)] := hl
  have hx := fx.1
  have hb := fx.2.1
  have hz' := hz
  obtain ⟨tH, hzZ, hzT⟩ := hz'.1
  unfold sp_MS_addAllAbove at h
  refine lv_ldc2 (v := -1) hx hb fx.2.2.2.1 (fx.2.2.2.2 _ (List.mem_cons_of_mem _ a_313)) d_MS_addAllAbove_0 ?_
  refine lv_topl (fun v2_1 ev => ?_)
  have h := nk_r ev h
  refine lv_lstore_n (lv' := [(2, .long v2_1), (0, .ref (ad q)), (1, .int a1)]) hx hb d_MS_addAllAbove_3 rfl hl (by decide) rfl (fun ls hl => ?_)
  refine lv_iconst (v := 0) hx hb d_MS_addAllAbove_4 (by decide) ?_
  refine lv_istore (lv' := [(4, .int (0 : Int32)), (2, .long v2_1), (0, .ref (ad q)), (1, .int a1)]) hx hb d_MS_addAllAbove_5 hl (by decide) rfl (fun ls hl => ?_)
  refine wl_MS_addAllAbove_7 fx hr hlocks hk hA hz F q a1 hq (fun v2_4 v4_5 u6 H locs ls h hl hw => ?_) _ v2_1 (0 : Int32) u _ _ _ h (lv_sub hl [2, 3, 1, 0] rfl) hw
  refine lv_iload_n hx hb d_MS_addAllAbove_38 rfl (lv_at hl 1 rfl) ?_
  refine lv_bipush (v := 6) hx hb d_MS_addAllAbove_39 (by decide) ?_
  refine lv_ishr hx hb d_MS_addAllAbove_41 ?_
  refine lv_topi (fun v4_7 ev => ?_)
  have h := nk_r ev h
  refine lv_istore (lv' := [(4, .int v4_7), (0, .ref (ad q)), (1, .int a1), (2, .long v2_4)]) hx hb d_MS_addAllAbove_42 hl (by decide) rfl (fun ls hl => ?_)
  refine lv_iload hx hb d_MS_addAllAbove_44 (lv_at hl 0 rfl) ?_
  refine lv_istore (lv' := [(5, .int v4_7), (4, .int v4_7), (0, .ref (ad q)), (1, .int a1), (2, .long v2_4)]) hx hb d_MS_addAllAbove_46 hl (by decide) rfl (fun ls hl => ?_)
  refine wl_MS_addAllAbove_48 fx hr hlocks hk hA hz F q a1 v2_4 v4_7 hq (fun v5_12 u13 H locs ls h hl hw => ?_) _ v4_7 u6 _ _ _ h (lv_sub hl [2, 3, 4, 1, 0] rfl) hw
  refine lv_aload_n hx hb d_MS_addAllAbove_79 rfl (lv_at hl 0 rfl) ?_
  refine lv_iload hx hb d_MS_addAllAbove_80 (lv_at hl 3 rfl) ?_
  refine lv_aload_n hx hb d_MS_addAllAbove_82 rfl (lv_at hl 0 rfl) ?_
  refine ly_get fx hk hw (q) (la_M hq) rfl i_MaskSet 1 (by decide) rfl rfl (List.mem_cons_of_mem _ a_33) d_MS_addAllAbove_83 ?_
  refine lv_icmp_ge (tgt := 94) hx hb d_MS_addAllAbove_86 (by decide) (fun hc => ?_) (fun hc => ?_)
  · have h := it_t hc h
    refine lv_aload_n hx hb d_MS_addAllAbove_94 rfl (lv_at hl 0 rfl) ?_
    refine ly_get fx hk hw (q) (la_M hq) rfl i_MaskSet 1 (by decide) rfl rfl (List.mem_cons_of_mem _ a_33) d_MS_addAllAbove_95 ?_
    refine ly_put (v := (u13.1 (q) 1)) fx hk hw (q) (la_M hq) rfl i_MaskSet t_MaskSet t_MaskSet_ok n_MaskSet 1 (by decide) rfl rfl rfl (List.mem_cons_of_mem _ a_33) rfl rfl d_MS_addAllAbove_98 (fun H locs hw => ?_)
    obtain ⟨u14, ev⟩ : ∃ z, z = ly_pi u13 (q) 1 (u13.1 (q) 1) := ⟨_, rfl⟩
    rw [← ev] at hw
    have h := nk_r ev h
    exact ly_retv fx hr hlocks hk hw (Option.some.inj h) d_MS_addAllAbove_101
  · have h := it_f hc h
    refine lv_iload hx hb d_MS_addAllAbove_89 (lv_at hl 3 rfl) ?_
    refine lv_goto (tgt := 98) hx hb d_MS_addAllAbove_91 (by decide) ?_
    refine ly_put (v := v4_7) fx hk hw (q) (la_M hq) rfl i_MaskSet t_MaskSet t_MaskSet_ok n_MaskSet 1 (by decide) rfl rfl rfl (List.mem_cons_of_mem _ a_33) rfl rfl d_MS_addAllAbove_98 (fun H locs hw => ?_)
    obtain ⟨u15, ev⟩ : ∃ z, z = ly_pi u13 (q) 1 v4_7 := ⟨_, rfl⟩
    rw [← ev] at hw
    have h := nk_r ev h
    exact ly_retv fx hr hlocks hk hw (Option.some.inj h) d_MS_addAllAbove_101
set_option maxRecDepth 100000 in
set_option maxHeartbeats 4000000 in
theorem c_MS_add (l : Launch) (q : Nat) (a1 : Int32) (hq : q = 3 ∨ q = 5 ∨ q = 7) (u : St) (res : Int32 × St) (h : sp_MS_add q a1 u = some res) : ly_Mv ZsC clA layC l y_MS_add w_MS_add { frames := 0, cells := 0, slots := 0, locals := 0 } (fun ad => [.ref (ad q), .int a1]) u (fun u1 => ((0 : Int32), u1) = res) := by
  refine ly_entv (cc := b_MS_add) (maxL := 3) (ret := none) (by decide) rfl (fun ad => Nat.le_of_ble_eq_true rfl) ?_
  intro p e s m below meth c D ad cA A ls fx hr hlocks hk hA hz hw hl
  have hl : lv_has ls 3 [(0, .ref (ad q)), (1, .int a1)] := hl
  have hx := fx.1
  have hb := fx.2.1
  unfold sp_MS_add at h
  refine lv_iload_n hx hb d_MS_add_0 rfl (lv_at hl 1 rfl) ?_
  refine lv_bipush (v := 6) hx hb d_MS_add_1 (by decide) ?_
  refine lv_ishr hx hb d_MS_add_3 ?_
  refine lv_topi (fun v2_1 ev => ?_)
  have h := nk_r ev h
  refine lv_istore_n (lv' := [(2, .int v2_1), (0, .ref (ad q)), (1, .int a1)]) hx hb d_MS_add_4 rfl hl (by decide) rfl (fun ls hl => ?_)
  refine lv_aload_n hx hb d_MS_add_5 rfl (lv_at hl 1 rfl) ?_
  refine ly_getr fx hk hw (q) (la_M hq) rfl i_MaskSet 0 (by decide) rfl rfl (List.mem_cons_of_mem _ a_32) d_MS_add_6 ?_
  refine lv_iload_n hx hb d_MS_add_9 rfl (lv_at hl 0 rfl) ?_
  refine lv_dup2_11 hx hb d_MS_add_10 rfl rfl ?_
  obtain ⟨hi2, h⟩ := it_in h
  refine ly_lald fx hk hw (q + 1) (la_Mw hq) hi2 d_MS_add_11 ?_
  refine lv_lconst (v := 1) hx hb d_MS_add_12 (by decide) ?_
  refine lv_iload_n hx hb d_MS_add_13 rfl (lv_at hl 2 rfl) ?_
  refine lv_bipush (v := 63) hx hb d_MS_add_14 (by decide) ?_
  refine lv_iand hx hb d_MS_add_16 ?_
  refine lv_lshl hx hb d_MS_add_17 rfl ?_
  refine lv_lor hx hb d_MS_add_18 ?_
  obtain ⟨hi3, h⟩ := it_in h
  refine ly_last fx hk hw (q + 1) (la_Mw hq) hi3 d_MS_add_19 (fun H locs hw => ?_)
  obtain ⟨u4, ev⟩ : ∃ z, z = ly_pl u (q + 1) v2_1.toNatClampNeg ((u.2 (q + 1) v2_1.toNatClampNeg) ||| (((1 : Int64) <<< ((a1 &&& (63 : Int32)).toInt64 &&& 63)))) := ⟨_, rfl⟩
  rw [← ev] at hw
  have h := nk_r ev h
  refine lv_aload_n hx hb d_MS_add_20 rfl (lv_at hl 1 rfl) ?_
  refine lv_iload_n hx hb d_MS_add_21 rfl (lv_at hl 0 rfl) ?_
  refine lv_aload_n hx hb d_MS_add_22 rfl (lv_at hl 1 rfl) ?_
  refine ly_get fx hk hw (q) (la_M hq) rfl i_MaskSet 1 (by decide) rfl rfl (List.mem_cons_of_mem _ a_33) d_MS_add_23 ?_
  refine lv_icmp_ge (tgt := 33) hx hb d_MS_add_26 (by decide) (fun hc => ?_) (fun hc => ?_)
  · have h := it_t hc h
    refine lv_aload_n hx hb d_MS_add_33 rfl (lv_at hl 1 rfl) ?_
    refine ly_get fx hk hw (q) (la_M hq) rfl i_MaskSet 1 (by decide) rfl rfl (List.mem_cons_of_mem _ a_33) d_MS_add_34 ?_
    refine ly_put (v := (u4.1 (q) 1)) fx hk hw (q) (la_M hq) rfl i_MaskSet t_MaskSet t_MaskSet_ok n_MaskSet 1 (by decide) rfl rfl rfl (List.mem_cons_of_mem _ a_33) rfl rfl d_MS_add_37 (fun H locs hw => ?_)
    obtain ⟨u5, ev⟩ : ∃ z, z = ly_pi u4 (q) 1 (u4.1 (q) 1) := ⟨_, rfl⟩
    rw [← ev] at hw
    have h := nk_r ev h
    exact ly_retv fx hr hlocks hk hw (Option.some.inj h) d_MS_add_40
  · have h := it_f hc h
    refine lv_iload_n hx hb d_MS_add_29 rfl (lv_at hl 0 rfl) ?_
    refine lv_goto (tgt := 37) hx hb d_MS_add_30 (by decide) ?_
    refine ly_put (v := v2_1) fx hk hw (q) (la_M hq) rfl i_MaskSet t_MaskSet t_MaskSet_ok n_MaskSet 1 (by decide) rfl rfl rfl (List.mem_cons_of_mem _ a_33) rfl rfl d_MS_add_37 (fun H locs hw => ?_)
    obtain ⟨u6, ev⟩ : ∃ z, z = ly_pi u4 (q) 1 v2_1 := ⟨_, rfl⟩
    rw [← ev] at hw
    have h := nk_r ev h
    exact ly_retv fx hr hlocks hk hw (Option.some.inj h) d_MS_add_40
set_option maxRecDepth 100000 in
set_option maxHeartbeats 4000000 in
theorem wl_MS_draw_0 {p : Program} {l : Launch} {e : Env} {s : State} {m : MethodId} {args : Array Value} {below : List Frame} {meth : Method} {c : Code} {D : va_G} {ad : Nat → Nat} {cA : Nat → ClassId} {A : Nat → Prop} (fx : CallFix p m c b_MS_draw 5 s args w_MS_draw y_MS_draw.cls) (hr : meth.sig.returnType = (some .int)) (hlocks : meth.locks = false) (hk : ly_K D clA layC cA s) (hA : ∀ q, s.heap.size ≤ q → A q) (hz : ZsC A s s.heap) (F : Nat) (q0 : Nat) (hq0 : q0 = 3 ∨ q0 = 5 ∨ q0 = 7) {k0 : St → Option (Int32 × St)} {res : Int32 × St}
    (hX0 : ∀ (u : St) (H : Heap) (locs : List Loc) (ls : Array Slot), k0 u = some res → lv_has ls 5 [(0, .ref (ad q0))] → ly_G D clA layC ad cA A s.heap u H locs → W p l e { frames := 1, cells := 0, slots := 0, locals := 21 } s m args below meth c H locs 0 0 (MQ below (va_Qi (fun r1 u1 => (r1, u1) = res) (ly_B D clA layC ad cA A) A) args s 0 0 A) (F0 m 71 ls [])) :
    ∀ (n : Nat) (u : St) (H : Heap) (locs : List Loc) (ls : Array Slot), lp_MS_draw_0 F q0 k0 n u = some res → lv_has ls 5 [(0, .ref (ad q0))] → ly_G D clA layC ad cA A s.heap u H locs → W p l e { frames := 1, cells := 0, slots := 0, locals := 21 } s m args below meth c H locs 0 0 (MQ below (va_Qi (fun r1 u1 => (r1, u1) = res) (ly_B D clA layC ad cA A) A) args s 0 0 A) (F0 m 0 ls []) := by
  have hx := fx.1
  have hb := fx.2.1
  intro n
  induction n with
  | zero => intro u H locs ls h; exact nomatch h
  | succ n ih =>
    intro u H locs ls h hl hw
    rw [lp_MS_draw_0] at h
    refine lv_aload_n hx hb d_MS_draw_0 rfl (lv_at hl 0 rfl) ?_
    refine ly_get fx hk hw (q0) (la_M hq0) rfl i_MaskSet 1 (by decide) rfl rfl (List.mem_cons_of_mem _ a_33) d_MS_draw_1 ?_
    refine lv_sipush (v := 256) hx hb d_MS_draw_4 (by decide) ?_
    refine lv_icmp_ge (tgt := 71) hx hb d_MS_draw_7 (by decide) (fun hc => ?_) (fun hc => ?_)
    · have h := it_t hc h
      exact hX0 u _ _ _ h (lv_sub hl [0] rfl) hw
    · have h := it_f hc h
      refine lv_aload_n hx hb d_MS_draw_10 rfl (lv_at hl 0 rfl) ?_
      refine ly_getr fx hk hw (q0) (la_M hq0) rfl i_MaskSet 0 (by decide) rfl rfl (List.mem_cons_of_mem _ a_32) d_MS_draw_11 ?_
      refine lv_aload_n hx hb d_MS_draw_14 rfl (lv_at hl 0 rfl) ?_
      refine ly_get fx hk hw (q0) (la_M hq0) rfl i_MaskSet 1 (by decide) rfl rfl (List.mem_cons_of_mem _ a_33) d_MS_draw_15 ?_
      obtain ⟨hi1, h⟩ := it_in h
      refine ly_lald fx hk hw (q0 + 1) (la_Mw hq0) hi1 d_MS_draw_18 ?_
      refine lv_topl (fun v1_2 ev => ?_)
      have h := nk_r ev h
      refine lv_lstore_n (lv' := [(1, .long v1_2), (0, .ref (ad q0))]) hx hb d_MS_draw_19 rfl hl (by decide) rfl (fun ls hl => ?_)
      refine lv_lload_n hx hb d_MS_draw_20 rfl (lv_at hl 0 rfl) ?_
      refine lv_lconst (v := 0) hx hb d_MS_draw_21 (by decide) ?_
      refine W.lcmp hx hb d_MS_draw_22 ?_
      refine lv_if_eq (tgt := 58) hx hb d_MS_draw_23 (by decide) (fun hc => ?_) (fun hc => ?_)
      · have h := it_t hc h
        refine lv_aload_n hx hb d_MS_draw_58 rfl (lv_at hl 1 rfl) ?_
        refine lv_dup hx hb d_MS_draw_59 rfl ?_
        refine ly_get fx hk hw (q0) (la_M hq0) rfl i_MaskSet 1 (by decide) rfl rfl (List.mem_cons_of_mem _ a_33) d_MS_draw_60 ?_
        refine lv_iconst (v := 1) hx hb d_MS_draw_63 (by decide) ?_
        refine lv_iadd hx hb d_MS_draw_64 ?_
        refine ly_put (v := ((u.1 (q0) 1) + (1 : Int32))) fx hk hw (q0) (la_M hq0) rfl i_MaskSet t_MaskSet t_MaskSet_ok n_MaskSet 1 (by decide) rfl rfl rfl (List.mem_cons_of_mem _ a_33) rfl rfl d_MS_draw_65 (fun H locs hw => ?_)
        obtain ⟨u3, ev⟩ : ∃ z, z = ly_pi u (q0) 1 ((u.1 (q0) 1) + (1 : Int32)) := ⟨_, rfl⟩
        rw [← ev] at hw
        have h := nk_r ev h
        refine lv_goto (tgt := 0) hx hb d_MS_draw_68 (by decide) ?_
        exact ih u3 _ _ _ h (lv_sub hl [1] rfl) hw
      · have h := it_f hc h
        refine lv_lload_n hx hb d_MS_draw_26 rfl (lv_at hl 0 rfl) ?_
        refine lv_lload_n hx hb d_MS_draw_27 rfl (lv_at hl 0 rfl) ?_
        refine lv_lneg hx hb d_MS_draw_28 ?_
        refine lv_land hx hb d_MS_draw_29 ?_
        refine lv_topl (fun v3_4 ev => ?_)
        have h := nk_r ev h
        refine lv_lstore_n (lv' := [(3, .long v3_4), (1, .long v1_2), (0, .ref (ad q0))]) hx hb d_MS_draw_30 rfl hl (by decide) rfl (fun ls hl => ?_)
        refine lv_aload_n hx hb d_MS_draw_31 rfl (lv_at hl 2 rfl) ?_
        refine ly_getr fx hk hw (q0) (la_M hq0) rfl i_MaskSet 0 (by decide) rfl rfl (List.mem_cons_of_mem _ a_32) d_MS_draw_32 ?_
        refine lv_aload_n hx hb d_MS_draw_35 rfl (lv_at hl 2 rfl) ?_
        refine ly_get fx hk hw (q0) (la_M hq0) rfl i_MaskSet 1 (by decide) rfl rfl (List.mem_cons_of_mem _ a_33) d_MS_draw_36 ?_
        refine lv_lload_n hx hb d_MS_draw_39 rfl (lv_at hl 1 rfl) ?_
        refine lv_lload_n hx hb d_MS_draw_40 rfl (lv_at hl 0 rfl) ?_
        refine lv_lxor hx hb d_MS_draw_41 ?_
        obtain ⟨hi5, h⟩ := it_in h
        refine ly_last fx hk hw (q0 + 1) (la_Mw hq0) hi5 d_MS_draw_42 (fun H locs hw => ?_)
        obtain ⟨u6, ev⟩ : ∃ z, z = ly_pl u (q0 + 1) (u.1 (q0) 1).toNatClampNeg (v1_2 ^^^ v3_4) := ⟨_, rfl⟩
        rw [← ev] at hw
        have h := nk_r ev h
        refine lv_aload_n hx hb d_MS_draw_43 rfl (lv_at hl 2 rfl) ?_
        refine ly_get fx hk hw (q0) (la_M hq0) rfl i_MaskSet 1 (by decide) rfl rfl (List.mem_cons_of_mem _ a_33) d_MS_draw_44 ?_
        refine lv_bipush (v := 6) hx hb d_MS_draw_47 (by decide) ?_
        refine lv_ishl hx hb d_MS_draw_49 ?_
        refine lv_lload_n hx hb d_MS_draw_50 rfl (lv_at hl 0 rfl) ?_
        refine lv_lconst (v := 1) hx hb d_MS_draw_51 (by decide) ?_
        refine lv_lsub hx hb d_MS_draw_52 ?_
        obtain ⟨r7, u8, hq9, h⟩ := ck_r h
        refine ly_callSi (As := [.long (v3_4 - (1 : Int64))]) (rest := [.int ((u6.1 (q0) 1) <<< ((6 : Int32) &&& 31))]) ZsC_ok fx hk hz hA hw (c_Long_bitCount l (v3_4 - (1 : Int64)) u6 _ hq9) (cw_S fx.2.2.2.2 a_324 a_325 a_9 ac_Long_bitCount rfl rfl hd_Long_bitCount ⟨Nat.le_of_ble_eq_true rfl, Nat.le_of_ble_eq_true rfl⟩) rfl rfl hl.1 rfl (Nat.le_of_ble_eq_true rfl) d_MS_draw_53 (Nat.zero_le _) (Nat.zero_le _) (fun r' u' H locs hp hw => ?_)
        cases hp
        refine lv_iadd hx hb d_MS_draw_56 ?_
        exact ly_reti fx hr hlocks hk hw (Option.some.inj h) d_MS_draw_57
set_option maxRecDepth 100000 in
set_option maxHeartbeats 4000000 in
theorem c_MS_draw (l : Launch) (F : Nat) (q : Nat) (hq : q = 3 ∨ q = 5 ∨ q = 7) (u : St) (res : Int32 × St) (h : sp_MS_draw F q u = some res) : ly_Mi ZsC clA layC l y_MS_draw w_MS_draw { frames := 1, cells := 0, slots := 0, locals := 21 } (fun ad => [.ref (ad q)]) u (fun r1 u1 => (r1, u1) = res) := by
  refine ly_enti (cc := b_MS_draw) (maxL := 5) (ret := (some .int)) (by decide) rfl (fun ad => Nat.le_of_ble_eq_true rfl) ?_
  intro p e s m below meth c D ad cA A ls fx hr hlocks hk hA hz hw hl
  have hl : lv_has ls 5 [(0, .ref (ad q))] := hl
  have hx := fx.1
  have hb := fx.2.1
  unfold sp_MS_draw at h
  refine wl_MS_draw_0 fx hr hlocks hk hA hz F q hq (fun u10 H locs ls h hl hw => ?_) _ u _ _ _ h (lv_sub hl [0] rfl) hw
  refine lv_iconst (v := -1) hx hb d_MS_draw_71 (by decide) ?_
  exact ly_reti fx hr hlocks hk hw (Option.some.inj h) d_MS_draw_72
set_option maxRecDepth 100000 in
set_option maxHeartbeats 4000000 in
theorem wl_MS_isWithin_2 {p : Program} {l : Launch} {e : Env} {s : State} {m : MethodId} {args : Array Value} {below : List Frame} {meth : Method} {c : Code} {D : va_G} {ad : Nat → Nat} {cA : Nat → ClassId} {A : Nat → Prop} (fx : CallFix p m c b_MS_isWithin 3 s args w_MS_isWithin y_MS_isWithin.cls) (hr : meth.sig.returnType = (some .boolean)) (hlocks : meth.locks = false) (hk : ly_K D clA layC cA s) (hA : ∀ q, s.heap.size ≤ q → A q) (hz : ZsC A s s.heap) (F : Nat) (q0 : Nat) (q1 : Nat) (hq0 : q0 = 3 ∨ q0 = 5 ∨ q0 = 7) (hq1 : q1 = 3 ∨ q1 = 5 ∨ q1 = 7) {k2 : Int32 → St → Option (Int32 × St)} {res : Int32 × St}
    (hX2 : ∀ (v2 : Int32) (u : St) (H : Heap) (locs : List Loc) (ls : Array Slot), k2 v2 u = some res → lv_has ls 3 [(0, .ref (ad q0)), (1, .ref (ad q1)), (2, .int v2)] → ly_G D clA layC ad cA A s.heap u H locs → W p l e { frames := 0, cells := 0, slots := 0, locals := 0 } s m args below meth c H locs 0 0 (MQ below (va_Qi (fun r1 u1 => (r1, u1) = res) (ly_B D clA layC ad cA A) A) args s 0 0 A) (F0 m 39 ls [])) :
    ∀ (n : Nat) (v2 : Int32) (u : St) (H : Heap) (locs : List Loc) (ls : Array Slot), lp_MS_isWithin_2 F q0 q1 k2 n v2 u = some res → lv_has ls 3 [(0, .ref (ad q0)), (1, .ref (ad q1)), (2, .int v2)] → ly_G D clA layC ad cA A s.heap u H locs → W p l e { frames := 0, cells := 0, slots := 0, locals := 0 } s m args below meth c H locs 0 0 (MQ below (va_Qi (fun r1 u1 => (r1, u1) = res) (ly_B D clA layC ad cA A) A) args s 0 0 A) (F0 m 2 ls []) := by
  have hx := fx.1
  have hb := fx.2.1
  intro n
  induction n with
  | zero => intro v2 u H locs ls h; exact nomatch h
  | succ n ih =>
    intro v2 u H locs ls h hl hw
    rw [lp_MS_isWithin_2] at h
    refine lv_iload_n hx hb d_MS_isWithin_2 rfl (lv_at hl 2 rfl) ?_
    refine lv_sipush (v := 256) hx hb d_MS_isWithin_3 (by decide) ?_
    refine lv_icmp_ge (tgt := 39) hx hb d_MS_isWithin_6 (by decide) (fun hc => ?_) (fun hc => ?_)
    · have h := it_t hc h
      exact hX2 v2 u _ _ _ h (lv_sub hl [0, 1, 2] rfl) hw
    · have h := it_f hc h
      refine lv_aload_n hx hb d_MS_isWithin_9 rfl (lv_at hl 0 rfl) ?_
      refine ly_getr fx hk hw (q0) (la_M hq0) rfl i_MaskSet 0 (by decide) rfl rfl (List.mem_cons_of_mem _ a_32) d_MS_isWithin_10 ?_
      refine lv_iload_n hx hb d_MS_isWithin_13 rfl (lv_at hl 2 rfl) ?_
      obtain ⟨hi1, h⟩ := it_in h
      refine ly_lald fx hk hw (q0 + 1) (la_Mw hq0) hi1 d_MS_isWithin_14 ?_
      refine lv_aload_n hx hb d_MS_isWithin_15 rfl (lv_at hl 1 rfl) ?_
      refine ly_getr fx hk hw (q1) (la_M hq1) rfl i_MaskSet 0 (by decide) rfl rfl (List.mem_cons_of_mem _ a_32) d_MS_isWithin_16 ?_
      refine lv_iload_n hx hb d_MS_isWithin_19 rfl (lv_at hl 2 rfl) ?_
      obtain ⟨hi2, h⟩ := it_in h
      refine ly_lald fx hk hw (q1 + 1) (la_Mw hq1) hi2 d_MS_isWithin_20 ?_
      refine lv_ldc2 (v := -1) hx hb fx.2.2.2.1 (fx.2.2.2.2 _ (List.mem_cons_of_mem _ a_313)) d_MS_isWithin_21 ?_
      refine lv_lxor hx hb d_MS_isWithin_24 ?_
      refine lv_land hx hb d_MS_isWithin_25 ?_
      refine lv_lconst (v := 0) hx hb d_MS_isWithin_26 (by decide) ?_
      refine W.lcmp hx hb d_MS_isWithin_27 ?_
      refine lv_if_eq (tgt := 33) hx hb d_MS_isWithin_28 (by decide) (fun hc => ?_) (fun hc => ?_)
      · have h := it_t hc h
        refine lv_iinc (lv' := [(2, .int (v2 + (1 : Int32))), (0, .ref (ad q0)), (1, .ref (ad q1))]) (k := 2) hx hb d_MS_isWithin_33 hl rfl (oi_p1 _) (by decide) rfl (fun ls hl => ?_)
        refine lv_goto (tgt := 2) hx hb d_MS_isWithin_36 (by decide) ?_
        exact ih (v2 + (1 : Int32)) u _ _ _ h (lv_sub hl [1, 2, 0] rfl) hw
      · have h := it_f hc h
        refine lv_iconst (v := 0) hx hb d_MS_isWithin_31 (by decide) ?_
        exact ly_retz fx hr hlocks hk hw (Or.inl rfl) (Option.some.inj h) d_MS_isWithin_32
set_option maxRecDepth 100000 in
set_option maxHeartbeats 4000000 in
theorem c_MS_isWithin (l : Launch) (F : Nat) (q : Nat) (q2 : Nat) (hq : q = 3 ∨ q = 5 ∨ q = 7) (hq2 : q2 = 3 ∨ q2 = 5 ∨ q2 = 7) (u : St) (res : Int32 × St) (h : sp_MS_isWithin F q q2 u = some res) : ly_Mi ZsC clA layC l y_MS_isWithin w_MS_isWithin { frames := 0, cells := 0, slots := 0, locals := 0 } (fun ad => [.ref (ad q), .ref (ad q2)]) u (fun r1 u1 => (r1, u1) = res) := by
  refine ly_enti (cc := b_MS_isWithin) (maxL := 3) (ret := (some .boolean)) (by decide) rfl (fun ad => Nat.le_of_ble_eq_true rfl) ?_
  intro p e s m below meth c D ad cA A ls fx hr hlocks hk hA hz hw hl
  have hl : lv_has ls 3 [(0, .ref (ad q)), (1, .ref (ad q2))] := hl
  have hx := fx.1
  have hb := fx.2.1
  unfold sp_MS_isWithin at h
  refine lv_iconst (v := 0) hx hb d_MS_isWithin_0 (by decide) ?_
  refine lv_istore_n (lv' := [(2, .int (0 : Int32)), (0, .ref (ad q)), (1, .ref (ad q2))]) hx hb d_MS_isWithin_1 rfl hl (by decide) rfl (fun ls hl => ?_)
  refine wl_MS_isWithin_2 fx hr hlocks hk hA hz F q q2 hq hq2 (fun v2_3 u4 H locs ls h hl hw => ?_) _ (0 : Int32) u _ _ _ h (lv_sub hl [1, 2, 0] rfl) hw
  refine lv_iconst (v := 1) hx hb d_MS_isWithin_39 (by decide) ?_
  exact ly_retz fx hr hlocks hk hw (Or.inr rfl) (Option.some.inj h) d_MS_isWithin_40
end
