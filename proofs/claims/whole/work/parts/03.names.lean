def R_CaseNet : String := "CaseNet"
def F_CaseNet : u_T := fun k => match k with
  | 0 => ("CaseNet", "net", "LCaseNet$Net;", true)
  | 1 => ("CaseNet", "work", "LCaseNet$WorkList;", true)
  | 2 => ("CaseNet", "variables", "[I", true)
  | 3 => ("CaseNet", "on", "Z", false)
  | 4 => ("CaseNet", "present", "I", false)
  | _ => ("CaseNet", "clock", "I", false)
def t_CaseNet : Nat → FieldType := fun k => match k with
  | 0 => .object "CaseNet$Net"
  | 1 => .object "CaseNet$WorkList"
  | 2 => .array (.int)
  | 3 => .boolean
  | 4 => .int
  | _ => .int
theorem n_CaseNet : ∀ a, a < 6 → ∀ b, b < 6 → a ≠ b → (F_CaseNet a).2.1 ≠ (F_CaseNet b).2.1 := by decide +kernel
theorem t_CaseNet_ok : ∀ k, k < 6 → parseFieldDescriptor (F_CaseNet k).2.2.1 = some (t_CaseNet k) := by decide +kernel
def R_Net : String := "CaseNet$Net"
def F_Net : u_T := fun k => match k with
  | 0 => ("CaseNet$Net", "tasks", "[LCaseNet$Task;", true)
  | 1 => ("CaseNet$Net", "open", "LCaseNet$MaskSet;", true)
  | 2 => ("CaseNet$Net", "reached", "LCaseNet$MaskSet;", true)
  | 3 => ("CaseNet$Net", "covering", "LCaseNet$MaskSet;", true)
  | 4 => ("CaseNet$Net", "begun", "I", false)
  | _ => ("CaseNet$Net", "endStandsAlone", "Z", false)
def t_Net : Nat → FieldType := fun k => match k with
  | 0 => .array (.object "CaseNet$Task")
  | 1 => .object "CaseNet$MaskSet"
  | 2 => .object "CaseNet$MaskSet"
  | 3 => .object "CaseNet$MaskSet"
  | 4 => .int
  | _ => .boolean
theorem n_Net : ∀ a, a < 6 → ∀ b, b < 6 → a ≠ b → (F_Net a).2.1 ≠ (F_Net b).2.1 := by decide +kernel
theorem t_Net_ok : ∀ k, k < 6 → parseFieldDescriptor (F_Net k).2.2.1 = some (t_Net k) := by decide +kernel
def R_Task : String := "CaseNet$Task"
def F_Task : u_T := fun k => match k with
  | 0 => ("CaseNet$Task", "place", "I", true)
  | 1 => ("CaseNet$Task", "defined", "Z", false)
  | 2 => ("CaseNet$Task", "join", "I", false)
  | 3 => ("CaseNet$Task", "split", "I", false)
  | 4 => ("CaseNet$Task", "ins", "I", false)
  | 5 => ("CaseNet$Task", "outs", "I", false)
  | 6 => ("CaseNet$Task", "cleared", "I", false)
  | 7 => ("CaseNet$Task", "number", "I", false)
  | 8 => ("CaseNet$Task", "threshold", "I", false)
  | 9 => ("CaseNet$Task", "variable", "I", false)
  | 10 => ("CaseNet$Task", "deadline", "I", false)
  | 11 => ("CaseNet$Task", "firstItem", "I", false)
  | 12 => ("CaseNet$Task", "takes", "[I", true)
  | 13 => ("CaseNet$Task", "puts", "[I", true)
  | 14 => ("CaseNet$Task", "takesCount", "I", false)
  | 15 => ("CaseNet$Task", "putsCount", "I", false)
  | 16 => ("CaseNet$Task", "guardVariable", "[I", true)
  | 17 => ("CaseNet$Task", "guardLow", "[I", true)
  | _ => ("CaseNet$Task", "guardHigh", "[I", true)
def t_Task : Nat → FieldType := fun k => match k with
  | 0 => .int
  | 1 => .boolean
  | 2 => .int
  | 3 => .int
  | 4 => .int
  | 5 => .int
  | 6 => .int
  | 7 => .int
  | 8 => .int
  | 9 => .int
  | 10 => .int
  | 11 => .int
  | 12 => .array (.int)
  | 13 => .array (.int)
  | 14 => .int
  | 15 => .int
  | 16 => .array (.int)
  | 17 => .array (.int)
  | _ => .array (.int)
theorem n_Task : ∀ a, a < 19 → ∀ b, b < 19 → a ≠ b → (F_Task a).2.1 ≠ (F_Task b).2.1 := by decide +kernel
theorem t_Task_ok : ∀ k, k < 19 → parseFieldDescriptor (F_Task k).2.2.1 = some (t_Task k) := by decide +kernel
def R_WorkList : String := "CaseNet$WorkList"
def F_WorkList : u_T := fun k => match k with
  | 0 => ("CaseNet$WorkList", "task", "[I", true)
  | 1 => ("CaseNet$WorkList", "state", "[I", true)
  | 2 => ("CaseNet$WorkList", "offeredAt", "[I", true)
  | _ => ("CaseNet$WorkList", "made", "I", false)
def t_WorkList : Nat → FieldType := fun k => match k with
  | 0 => .array (.int)
  | 1 => .array (.int)
  | 2 => .array (.int)
  | _ => .int
theorem n_WorkList : ∀ a, a < 4 → ∀ b, b < 4 → a ≠ b → (F_WorkList a).2.1 ≠ (F_WorkList b).2.1 := by decide +kernel
theorem t_WorkList_ok : ∀ k, k < 4 → parseFieldDescriptor (F_WorkList k).2.2.1 = some (t_WorkList k) := by decide +kernel
def R_MaskSet : String := "CaseNet$MaskSet"
def F_MaskSet : u_T := fun k => match k with
  | 0 => ("CaseNet$MaskSet", "words", "[J", true)
  | _ => ("CaseNet$MaskSet", "firstUsed", "I", false)
def t_MaskSet : Nat → FieldType := fun k => match k with
  | 0 => .array (.long)
  | _ => .int
theorem n_MaskSet : ∀ a, a < 2 → ∀ b, b < 2 → a ≠ b → (F_MaskSet a).2.1 ≠ (F_MaskSet b).2.1 := by decide +kernel
theorem t_MaskSet_ok : ∀ k, k < 2 → parseFieldDescriptor (F_MaskSet k).2.2.1 = some (t_MaskSet k) := by decide +kernel
def R_Model : String := "CaseNetModel"
def F_Model : u_T := fun k => match k with
  | 0 => ("CaseNetModel", "defined", "[Z", false)
  | 1 => ("CaseNetModel", "joins", "[I", false)
  | 2 => ("CaseNetModel", "splits", "[I", false)
  | 3 => ("CaseNetModel", "insOf", "[I", false)
  | 4 => ("CaseNetModel", "outsOf", "[I", false)
  | 5 => ("CaseNetModel", "inBits", "[I", false)
  | 6 => ("CaseNetModel", "outBits", "[I", false)
  | 7 => ("CaseNetModel", "regions", "[I", false)
  | 8 => ("CaseNetModel", "guardOf", "[I", false)
  | 9 => ("CaseNetModel", "lows", "[I", false)
  | 10 => ("CaseNetModel", "highs", "[I", false)
  | 11 => ("CaseNetModel", "numbers", "[I", false)
  | 12 => ("CaseNetModel", "thresholds", "[I", false)
  | 13 => ("CaseNetModel", "variableOf", "[I", false)
  | 14 => ("CaseNetModel", "deadlines", "[I", false)
  | 15 => ("CaseNetModel", "on", "Z", false)
  | 16 => ("CaseNetModel", "mask", "I", false)
  | 17 => ("CaseNetModel", "clock", "I", false)
  | 18 => ("CaseNetModel", "variables", "[I", false)
  | 19 => ("CaseNetModel", "made", "I", false)
  | 20 => ("CaseNetModel", "taskOf", "[I", false)
  | 21 => ("CaseNetModel", "stateOf", "[I", false)
  | 22 => ("CaseNetModel", "offeredAt", "[I", false)
  | 23 => ("CaseNetModel", "firstItem", "[I", false)
  | 24 => ("CaseNetModel", "met", "[J", false)
  | 25 => ("CaseNetModel", "masks", "[I", false)
  | 26 => ("CaseNetModel", "many", "I", false)
  | _ => ("CaseNetModel", "good", "[J", false)
def t_Model : Nat → FieldType := fun k => match k with
  | 0 => .array (.boolean)
  | 1 => .array (.int)
  | 2 => .array (.int)
  | 3 => .array (.int)
  | 4 => .array (.int)
  | 5 => .array (.int)
  | 6 => .array (.int)
  | 7 => .array (.int)
  | 8 => .array (.int)
  | 9 => .array (.int)
  | 10 => .array (.int)
  | 11 => .array (.int)
  | 12 => .array (.int)
  | 13 => .array (.int)
  | 14 => .array (.int)
  | 15 => .boolean
  | 16 => .int
  | 17 => .int
  | 18 => .array (.int)
  | 19 => .int
  | 20 => .array (.int)
  | 21 => .array (.int)
  | 22 => .array (.int)
  | 23 => .array (.int)
  | 24 => .array (.long)
  | 25 => .array (.int)
  | 26 => .int
  | _ => .array (.long)
theorem n_Model : ∀ a, a < 28 → ∀ b, b < 28 → a ≠ b → (F_Model a).2.1 ≠ (F_Model b).2.1 := by decide +kernel
theorem t_Model_ok : ∀ k, k < 28 → parseFieldDescriptor (F_Model k).2.2.1 = some (t_Model k) := by decide +kernel
abbrev clA : List vw_C := [(R_CaseNet, F_CaseNet, 6), (R_Net, F_Net, 6), (R_Task, F_Task, 19), (R_WorkList, F_WorkList, 4), (R_MaskSet, F_MaskSet, 2), (R_Model, F_Model, 28)]
abbrev b_CN_isBetween : ByteArray := prog_1_method_20_code
def y_CN_isBetween : MethodName := ⟨"CaseNet", "isBetween", "(III)Z"⟩
abbrev w_CN_isBetween : List Cond := Cond.code y_CN_isBetween b_CN_isBetween 3 (some .boolean) :: wAll
theorem ac_CN_isBetween : Cond.code y_CN_isBetween b_CN_isBetween 3 (some .boolean) ∈ wAll := a_189
theorem hd_CN_isBetween : y_CN_isBetween.cls ≠ "java/lang/invoke/MethodHandle" ∧ y_CN_isBetween.cls ≠ "java/lang/invoke/VarHandle" ∧ (parseMethodDescriptor y_CN_isBetween.desc).map (fun d => d.parameters.length) = some 3 := by decide +kernel
abbrev b_Integer_bitCount : ByteArray := prog_8_method_49_code
def y_Integer_bitCount : MethodName := ⟨"java/lang/Integer", "bitCount", "(I)I"⟩
abbrev w_Integer_bitCount : List Cond := Cond.code y_Integer_bitCount b_Integer_bitCount 1 (some .int) :: wAll
theorem ac_Integer_bitCount : Cond.code y_Integer_bitCount b_Integer_bitCount 1 (some .int) ∈ wAll := a_195
theorem hd_Integer_bitCount : y_Integer_bitCount.cls ≠ "java/lang/invoke/MethodHandle" ∧ y_Integer_bitCount.cls ≠ "java/lang/invoke/VarHandle" ∧ (parseMethodDescriptor y_Integer_bitCount.desc).map (fun d => d.parameters.length) = some 1 := by decide +kernel
abbrev b_CN_isOneToThreeConditions : ByteArray := prog_1_method_23_code
def y_CN_isOneToThreeConditions : MethodName := ⟨"CaseNet", "isOneToThreeConditions", "(I)Z"⟩
abbrev w_CN_isOneToThreeConditions : List Cond := Cond.code y_CN_isOneToThreeConditions b_CN_isOneToThreeConditions 1 (some .boolean) :: wAll
theorem ac_CN_isOneToThreeConditions : Cond.code y_CN_isOneToThreeConditions b_CN_isOneToThreeConditions 1 (some .boolean) ∈ wAll := a_192
theorem hd_CN_isOneToThreeConditions : y_CN_isOneToThreeConditions.cls ≠ "java/lang/invoke/MethodHandle" ∧ y_CN_isOneToThreeConditions.cls ≠ "java/lang/invoke/VarHandle" ∧ (parseMethodDescriptor y_CN_isOneToThreeConditions.desc).map (fun d => d.parameters.length) = some 1 := by decide +kernel
abbrev b_Task_putWork : ByteArray := prog_4_method_3_code
def y_Task_putWork : MethodName := ⟨"CaseNet$Task", "putWork", "(IIII)V"⟩
abbrev w_Task_putWork : List Cond := Cond.code y_Task_putWork b_Task_putWork 5 none :: wAll
theorem ac_Task_putWork : Cond.code y_Task_putWork b_Task_putWork 5 none ∈ wAll := a_206
theorem hd_Task_putWork : y_Task_putWork.cls ≠ "java/lang/invoke/MethodHandle" ∧ y_Task_putWork.cls ≠ "java/lang/invoke/VarHandle" ∧ (parseMethodDescriptor y_Task_putWork.desc).map (fun d => d.parameters.length) = some 4 := by decide +kernel
abbrev b_Task_putGuard : ByteArray := prog_4_method_4_code
def y_Task_putGuard : MethodName := ⟨"CaseNet$Task", "putGuard", "(IIII)V"⟩
abbrev w_Task_putGuard : List Cond := Cond.code y_Task_putGuard b_Task_putGuard 5 none :: wAll
theorem ac_Task_putGuard : Cond.code y_Task_putGuard b_Task_putGuard 5 none ∈ wAll := a_212
theorem hd_Task_putGuard : y_Task_putGuard.cls ≠ "java/lang/invoke/MethodHandle" ∧ y_Task_putGuard.cls ≠ "java/lang/invoke/VarHandle" ∧ (parseMethodDescriptor y_Task_putGuard.desc).map (fun d => d.parameters.length) = some 4 := by decide +kernel
abbrev b_Task_isMoveOf : ByteArray := prog_4_method_7_code
def y_Task_isMoveOf : MethodName := ⟨"CaseNet$Task", "isMoveOf", "(III)Z"⟩
abbrev w_Task_isMoveOf : List Cond := Cond.code y_Task_isMoveOf b_Task_isMoveOf 3 (some .boolean) :: wAll
theorem ac_Task_isMoveOf : Cond.code y_Task_isMoveOf b_Task_isMoveOf 3 (some .boolean) ∈ wAll := a_219
theorem hd_Task_isMoveOf : y_Task_isMoveOf.cls ≠ "java/lang/invoke/MethodHandle" ∧ y_Task_isMoveOf.cls ≠ "java/lang/invoke/VarHandle" ∧ (parseMethodDescriptor y_Task_isMoveOf.desc).map (fun d => d.parameters.length) = some 3 := by decide +kernel
abbrev b_Task_listTakes : ByteArray := prog_4_method_5_code
def y_Task_listTakes : MethodName := ⟨"CaseNet$Task", "listTakes", "()V"⟩
abbrev w_Task_listTakes : List Cond := Cond.code y_Task_listTakes b_Task_listTakes 2 none :: wAll
theorem ac_Task_listTakes : Cond.code y_Task_listTakes b_Task_listTakes 2 none ∈ wAll := a_216
theorem hd_Task_listTakes : y_Task_listTakes.cls ≠ "java/lang/invoke/MethodHandle" ∧ y_Task_listTakes.cls ≠ "java/lang/invoke/VarHandle" ∧ (parseMethodDescriptor y_Task_listTakes.desc).map (fun d => d.parameters.length) = some 0 := by decide +kernel
abbrev b_Task_listPuts : ByteArray := prog_4_method_6_code
def y_Task_listPuts : MethodName := ⟨"CaseNet$Task", "listPuts", "()V"⟩
abbrev w_Task_listPuts : List Cond := Cond.code y_Task_listPuts b_Task_listPuts 2 none :: wAll
theorem ac_Task_listPuts : Cond.code y_Task_listPuts b_Task_listPuts 2 none ∈ wAll := a_224
theorem hd_Task_listPuts : y_Task_listPuts.cls ≠ "java/lang/invoke/MethodHandle" ∧ y_Task_listPuts.cls ≠ "java/lang/invoke/VarHandle" ∧ (parseMethodDescriptor y_Task_listPuts.desc).map (fun d => d.parameters.length) = some 0 := by decide +kernel
abbrev b_Task_define : ByteArray := prog_4_method_2_code
def y_Task_define : MethodName := ⟨"CaseNet$Task", "define", "(IIII)V"⟩
abbrev w_Task_define : List Cond := Cond.code y_Task_define b_Task_define 6 none :: wAll
theorem ac_Task_define : Cond.code y_Task_define b_Task_define 6 none ∈ wAll := a_202
theorem hd_Task_define : y_Task_define.cls ≠ "java/lang/invoke/MethodHandle" ∧ y_Task_define.cls ≠ "java/lang/invoke/VarHandle" ∧ (parseMethodDescriptor y_Task_define.desc).map (fun d => d.parameters.length) = some 4 := by decide +kernel
abbrev b_CN_task : ByteArray := prog_1_method_2_code
def y_CN_task : MethodName := ⟨"CaseNet", "task", "(IIIII)Z"⟩
abbrev w_CN_task : List Cond := Cond.code y_CN_task b_CN_task 6 (some .boolean) :: wAll
theorem ac_CN_task : Cond.code y_CN_task b_CN_task 6 (some .boolean) ∈ wAll := a_186
theorem hd_CN_task : y_CN_task.cls ≠ "java/lang/invoke/MethodHandle" ∧ y_CN_task.cls ≠ "java/lang/invoke/VarHandle" ∧ (parseMethodDescriptor y_CN_task.desc).map (fun d => d.parameters.length) = some 5 := by decide +kernel
abbrev b_Net_isDefined : ByteArray := prog_3_method_2_code
def y_Net_isDefined : MethodName := ⟨"CaseNet$Net", "isDefined", "(I)Z"⟩
abbrev w_Net_isDefined : List Cond := Cond.code y_Net_isDefined b_Net_isDefined 2 (some .boolean) :: wAll
theorem ac_Net_isDefined : Cond.code y_Net_isDefined b_Net_isDefined 2 (some .boolean) ∈ wAll := a_232
theorem hd_Net_isDefined : y_Net_isDefined.cls ≠ "java/lang/invoke/MethodHandle" ∧ y_Net_isDefined.cls ≠ "java/lang/invoke/VarHandle" ∧ (parseMethodDescriptor y_Net_isDefined.desc).map (fun d => d.parameters.length) = some 1 := by decide +kernel
abbrev b_CN_isMaskOfPlaces : ByteArray := prog_1_method_22_code
def y_CN_isMaskOfPlaces : MethodName := ⟨"CaseNet", "isMaskOfPlaces", "(I)Z"⟩
abbrev w_CN_isMaskOfPlaces : List Cond := Cond.code y_CN_isMaskOfPlaces b_CN_isMaskOfPlaces 1 (some .boolean) :: wAll
theorem ac_CN_isMaskOfPlaces : Cond.code y_CN_isMaskOfPlaces b_CN_isMaskOfPlaces 1 (some .boolean) ∈ wAll := a_236
theorem hd_CN_isMaskOfPlaces : y_CN_isMaskOfPlaces.cls ≠ "java/lang/invoke/MethodHandle" ∧ y_CN_isMaskOfPlaces.cls ≠ "java/lang/invoke/VarHandle" ∧ (parseMethodDescriptor y_CN_isMaskOfPlaces.desc).map (fun d => d.parameters.length) = some 1 := by decide +kernel
abbrev b_CN_region : ByteArray := prog_1_method_3_code
def y_CN_region : MethodName := ⟨"CaseNet", "region", "(II)Z"⟩
abbrev w_CN_region : List Cond := Cond.code y_CN_region b_CN_region 3 (some .boolean) :: wAll
theorem ac_CN_region : Cond.code y_CN_region b_CN_region 3 (some .boolean) ∈ wAll := a_228
theorem hd_CN_region : y_CN_region.cls ≠ "java/lang/invoke/MethodHandle" ∧ y_CN_region.cls ≠ "java/lang/invoke/VarHandle" ∧ (parseMethodDescriptor y_CN_region.desc).map (fun d => d.parameters.length) = some 2 := by decide +kernel
abbrev b_CN_isVariable : ByteArray := prog_1_method_21_code
def y_CN_isVariable : MethodName := ⟨"CaseNet", "isVariable", "(I)Z"⟩
abbrev w_CN_isVariable : List Cond := Cond.code y_CN_isVariable b_CN_isVariable 1 (some .boolean) :: wAll
theorem ac_CN_isVariable : Cond.code y_CN_isVariable b_CN_isVariable 1 (some .boolean) ∈ wAll := a_243
theorem hd_CN_isVariable : y_CN_isVariable.cls ≠ "java/lang/invoke/MethodHandle" ∧ y_CN_isVariable.cls ≠ "java/lang/invoke/VarHandle" ∧ (parseMethodDescriptor y_CN_isVariable.desc).map (fun d => d.parameters.length) = some 1 := by decide +kernel
abbrev b_CN_guard : ByteArray := prog_1_method_4_code
def y_CN_guard : MethodName := ⟨"CaseNet", "guard", "(IIIII)Z"⟩
abbrev w_CN_guard : List Cond := Cond.code y_CN_guard b_CN_guard 6 (some .boolean) :: wAll
theorem ac_CN_guard : Cond.code y_CN_guard b_CN_guard 6 (some .boolean) ∈ wAll := a_240
theorem hd_CN_guard : y_CN_guard.cls ≠ "java/lang/invoke/MethodHandle" ∧ y_CN_guard.cls ≠ "java/lang/invoke/VarHandle" ∧ (parseMethodDescriptor y_CN_guard.desc).map (fun d => d.parameters.length) = some 5 := by decide +kernel
abbrev b_CN_items : ByteArray := prog_1_method_5_code
def y_CN_items : MethodName := ⟨"CaseNet", "items", "(IIIII)Z"⟩
abbrev w_CN_items : List Cond := Cond.code y_CN_items b_CN_items 6 (some .boolean) :: wAll
theorem ac_CN_items : Cond.code y_CN_items b_CN_items 6 (some .boolean) ∈ wAll := a_248
theorem hd_CN_items : y_CN_items.cls ≠ "java/lang/invoke/MethodHandle" ∧ y_CN_items.cls ≠ "java/lang/invoke/VarHandle" ∧ (parseMethodDescriptor y_CN_items.desc).map (fun d => d.parameters.length) = some 5 := by decide +kernel
abbrev b_Net_definedTasks : ByteArray := prog_3_method_3_code
def y_Net_definedTasks : MethodName := ⟨"CaseNet$Net", "definedTasks", "()I"⟩
abbrev w_Net_definedTasks : List Cond := Cond.code y_Net_definedTasks b_Net_definedTasks 3 (some .int) :: wAll
theorem ac_Net_definedTasks : Cond.code y_Net_definedTasks b_Net_definedTasks 3 (some .int) ∈ wAll := a_257
theorem hd_Net_definedTasks : y_Net_definedTasks.cls ≠ "java/lang/invoke/MethodHandle" ∧ y_Net_definedTasks.cls ≠ "java/lang/invoke/VarHandle" ∧ (parseMethodDescriptor y_Net_definedTasks.desc).map (fun d => d.parameters.length) = some 0 := by decide +kernel
abbrev b_CN_launch : ByteArray := prog_1_method_6_code
def y_CN_launch : MethodName := ⟨"CaseNet", "launch", "()Z"⟩
abbrev w_CN_launch : List Cond := Cond.code y_CN_launch b_CN_launch 1 (some .boolean) :: wAll
theorem ac_CN_launch : Cond.code y_CN_launch b_CN_launch 1 (some .boolean) ∈ wAll := a_253
theorem hd_CN_launch : y_CN_launch.cls ≠ "java/lang/invoke/MethodHandle" ∧ y_CN_launch.cls ≠ "java/lang/invoke/VarHandle" ∧ (parseMethodDescriptor y_CN_launch.desc).map (fun d => d.parameters.length) = some 0 := by decide +kernel
abbrev b_Work_isOpen : ByteArray := prog_5_method_5_code
def y_Work_isOpen : MethodName := ⟨"CaseNet$WorkList", "isOpen", "(I)Z"⟩
abbrev w_Work_isOpen : List Cond := Cond.code y_Work_isOpen b_Work_isOpen 2 (some .boolean) :: wAll
theorem ac_Work_isOpen : Cond.code y_Work_isOpen b_Work_isOpen 2 (some .boolean) ∈ wAll := a_277
theorem hd_Work_isOpen : y_Work_isOpen.cls ≠ "java/lang/invoke/MethodHandle" ∧ y_Work_isOpen.cls ≠ "java/lang/invoke/VarHandle" ∧ (parseMethodDescriptor y_Work_isOpen.desc).map (fun d => d.parameters.length) = some 1 := by decide +kernel
abbrev b_Work_withdrawOpen : ByteArray := prog_5_method_8_code
def y_Work_withdrawOpen : MethodName := ⟨"CaseNet$WorkList", "withdrawOpen", "(II)V"⟩
abbrev w_Work_withdrawOpen : List Cond := Cond.code y_Work_withdrawOpen b_Work_withdrawOpen 4 none :: wAll
theorem ac_Work_withdrawOpen : Cond.code y_Work_withdrawOpen b_Work_withdrawOpen 4 none ∈ wAll := a_273
theorem hd_Work_withdrawOpen : y_Work_withdrawOpen.cls ≠ "java/lang/invoke/MethodHandle" ∧ y_Work_withdrawOpen.cls ≠ "java/lang/invoke/VarHandle" ∧ (parseMethodDescriptor y_Work_withdrawOpen.desc).map (fun d => d.parameters.length) = some 2 := by decide +kernel
abbrev b_CN_stop : ByteArray := prog_1_method_27_code
def y_CN_stop : MethodName := ⟨"CaseNet", "stop", "(LCaseNet$Task;)V"⟩
abbrev w_CN_stop : List Cond := Cond.code y_CN_stop b_CN_stop 2 none :: wAll
theorem ac_CN_stop : Cond.code y_CN_stop b_CN_stop 2 none ∈ wAll := a_269
theorem hd_CN_stop : y_CN_stop.cls ≠ "java/lang/invoke/MethodHandle" ∧ y_CN_stop.cls ≠ "java/lang/invoke/VarHandle" ∧ (parseMethodDescriptor y_CN_stop.desc).map (fun d => d.parameters.length) = some 1 := by decide +kernel
abbrev b_CN_stopTasksAmong : ByteArray := prog_1_method_28_code
def y_CN_stopTasksAmong : MethodName := ⟨"CaseNet", "stopTasksAmong", "(I)V"⟩
abbrev w_CN_stopTasksAmong : List Cond := Cond.code y_CN_stopTasksAmong b_CN_stopTasksAmong 4 none :: wAll
theorem ac_CN_stopTasksAmong : Cond.code y_CN_stopTasksAmong b_CN_stopTasksAmong 4 none ∈ wAll := a_265
theorem hd_CN_stopTasksAmong : y_CN_stopTasksAmong.cls ≠ "java/lang/invoke/MethodHandle" ∧ y_CN_stopTasksAmong.cls ≠ "java/lang/invoke/VarHandle" ∧ (parseMethodDescriptor y_CN_stopTasksAmong.desc).map (fun d => d.parameters.length) = some 1 := by decide +kernel
abbrev b_CN_cancel : ByteArray := prog_1_method_7_code
def y_CN_cancel : MethodName := ⟨"CaseNet", "cancel", "()Z"⟩
abbrev w_CN_cancel : List Cond := Cond.code y_CN_cancel b_CN_cancel 1 (some .boolean) :: wAll
theorem ac_CN_cancel : Cond.code y_CN_cancel b_CN_cancel 1 (some .boolean) ∈ wAll := a_261
theorem hd_CN_cancel : y_CN_cancel.cls ≠ "java/lang/invoke/MethodHandle" ∧ y_CN_cancel.cls ≠ "java/lang/invoke/VarHandle" ∧ (parseMethodDescriptor y_CN_cancel.desc).map (fun d => d.parameters.length) = some 0 := by decide +kernel
abbrev b_Arrays_fill : ByteArray := prog_10_method_101_code
def y_Arrays_fill : MethodName := ⟨"java/util/Arrays", "fill", "([JJ)V"⟩
abbrev w_Arrays_fill : List Cond := Cond.code y_Arrays_fill b_Arrays_fill 5 none :: wAll
theorem ac_Arrays_fill : Cond.code y_Arrays_fill b_Arrays_fill 5 none ∈ wAll := a_300
theorem hd_Arrays_fill : y_Arrays_fill.cls ≠ "java/lang/invoke/MethodHandle" ∧ y_Arrays_fill.cls ≠ "java/lang/invoke/VarHandle" ∧ (parseMethodDescriptor y_Arrays_fill.desc).map (fun d => d.parameters.length) = some 2 := by decide +kernel
abbrev b_MS_clear : ByteArray := prog_2_method_2_code
def y_MS_clear : MethodName := ⟨"CaseNet$MaskSet", "clear", "()V"⟩
abbrev w_MS_clear : List Cond := Cond.code y_MS_clear b_MS_clear 1 none :: wAll
theorem ac_MS_clear : Cond.code y_MS_clear b_MS_clear 1 none ∈ wAll := a_297
theorem hd_MS_clear : y_MS_clear.cls ≠ "java/lang/invoke/MethodHandle" ∧ y_MS_clear.cls ≠ "java/lang/invoke/VarHandle" ∧ (parseMethodDescriptor y_MS_clear.desc).map (fun d => d.parameters.length) = some 0 := by decide +kernel
abbrev b_MS_has : ByteArray := prog_2_method_3_code
def y_MS_has : MethodName := ⟨"CaseNet$MaskSet", "has", "(I)Z"⟩
abbrev w_MS_has : List Cond := Cond.code y_MS_has b_MS_has 2 (some .boolean) :: wAll
theorem ac_MS_has : Cond.code y_MS_has b_MS_has 2 (some .boolean) ∈ wAll := a_308
theorem hd_MS_has : y_MS_has.cls ≠ "java/lang/invoke/MethodHandle" ∧ y_MS_has.cls ≠ "java/lang/invoke/VarHandle" ∧ (parseMethodDescriptor y_MS_has.desc).map (fun d => d.parameters.length) = some 1 := by decide +kernel
abbrev b_MS_addAllAbove : ByteArray := prog_2_method_5_code
def y_MS_addAllAbove : MethodName := ⟨"CaseNet$MaskSet", "addAllAbove", "(I)V"⟩
abbrev w_MS_addAllAbove : List Cond := Cond.code y_MS_addAllAbove b_MS_addAllAbove 6 none :: wAll
theorem ac_MS_addAllAbove : Cond.code y_MS_addAllAbove b_MS_addAllAbove 6 none ∈ wAll := a_312
theorem hd_MS_addAllAbove : y_MS_addAllAbove.cls ≠ "java/lang/invoke/MethodHandle" ∧ y_MS_addAllAbove.cls ≠ "java/lang/invoke/VarHandle" ∧ (parseMethodDescriptor y_MS_addAllAbove.desc).map (fun d => d.parameters.length) = some 1 := by decide +kernel
abbrev b_MS_add : ByteArray := prog_2_method_4_code
def y_MS_add : MethodName := ⟨"CaseNet$MaskSet", "add", "(I)V"⟩
abbrev w_MS_add : List Cond := Cond.code y_MS_add b_MS_add 3 none :: wAll
theorem ac_MS_add : Cond.code y_MS_add b_MS_add 3 none ∈ wAll := a_319
theorem hd_MS_add : y_MS_add.cls ≠ "java/lang/invoke/MethodHandle" ∧ y_MS_add.cls ≠ "java/lang/invoke/VarHandle" ∧ (parseMethodDescriptor y_MS_add.desc).map (fun d => d.parameters.length) = some 1 := by decide +kernel
abbrev b_Net_addNeed : ByteArray := prog_3_method_9_code
def y_Net_addNeed : MethodName := ⟨"CaseNet$Net", "addNeed", "(I)V"⟩
abbrev w_Net_addNeed : List Cond := Cond.code y_Net_addNeed b_Net_addNeed 2 none :: wAll
theorem ac_Net_addNeed : Cond.code y_Net_addNeed b_Net_addNeed 2 none ∈ wAll := a_304
theorem hd_Net_addNeed : y_Net_addNeed.cls ≠ "java/lang/invoke/MethodHandle" ∧ y_Net_addNeed.cls ≠ "java/lang/invoke/VarHandle" ∧ (parseMethodDescriptor y_Net_addNeed.desc).map (fun d => d.parameters.length) = some 1 := by decide +kernel
abbrev b_Long_bitCount : ByteArray := prog_9_method_50_code
def y_Long_bitCount : MethodName := ⟨"java/lang/Long", "bitCount", "(J)I"⟩
abbrev w_Long_bitCount : List Cond := Cond.code y_Long_bitCount b_Long_bitCount 2 (some .int) :: wAll
theorem ac_Long_bitCount : Cond.code y_Long_bitCount b_Long_bitCount 2 (some .int) ∈ wAll := a_326
theorem hd_Long_bitCount : y_Long_bitCount.cls ≠ "java/lang/invoke/MethodHandle" ∧ y_Long_bitCount.cls ≠ "java/lang/invoke/VarHandle" ∧ (parseMethodDescriptor y_Long_bitCount.desc).map (fun d => d.parameters.length) = some 1 := by decide +kernel
abbrev b_MS_draw : ByteArray := prog_2_method_6_code
def y_MS_draw : MethodName := ⟨"CaseNet$MaskSet", "draw", "()I"⟩
abbrev w_MS_draw : List Cond := Cond.code y_MS_draw b_MS_draw 5 (some .int) :: wAll
theorem ac_MS_draw : Cond.code y_MS_draw b_MS_draw 5 (some .int) ∈ wAll := a_323
theorem hd_MS_draw : y_MS_draw.cls ≠ "java/lang/invoke/MethodHandle" ∧ y_MS_draw.cls ≠ "java/lang/invoke/VarHandle" ∧ (parseMethodDescriptor y_MS_draw.desc).map (fun d => d.parameters.length) = some 0 := by decide +kernel
abbrev b_Net_goBackBeforeEnd : ByteArray := prog_3_method_7_code
def y_Net_goBackBeforeEnd : MethodName := ⟨"CaseNet$Net", "goBackBeforeEnd", "(LCaseNet$Task;I)V"⟩
abbrev w_Net_goBackBeforeEnd : List Cond := Cond.code y_Net_goBackBeforeEnd b_Net_goBackBeforeEnd 6 none :: wAll
theorem ac_Net_goBackBeforeEnd : Cond.code y_Net_goBackBeforeEnd b_Net_goBackBeforeEnd 6 none ∈ wAll := a_333
theorem hd_Net_goBackBeforeEnd : y_Net_goBackBeforeEnd.cls ≠ "java/lang/invoke/MethodHandle" ∧ y_Net_goBackBeforeEnd.cls ≠ "java/lang/invoke/VarHandle" ∧ (parseMethodDescriptor y_Net_goBackBeforeEnd.desc).map (fun d => d.parameters.length) = some 2 := by decide +kernel
abbrev b_Net_goBackBeforeBegin : ByteArray := prog_3_method_8_code
def y_Net_goBackBeforeBegin : MethodName := ⟨"CaseNet$Net", "goBackBeforeBegin", "(LCaseNet$Task;I)V"⟩
abbrev w_Net_goBackBeforeBegin : List Cond := Cond.code y_Net_goBackBeforeBegin b_Net_goBackBeforeBegin 5 none :: wAll
theorem ac_Net_goBackBeforeBegin : Cond.code y_Net_goBackBeforeBegin b_Net_goBackBeforeBegin 5 none ∈ wAll := a_337
theorem hd_Net_goBackBeforeBegin : y_Net_goBackBeforeBegin.cls ≠ "java/lang/invoke/MethodHandle" ∧ y_Net_goBackBeforeBegin.cls ≠ "java/lang/invoke/VarHandle" ∧ (parseMethodDescriptor y_Net_goBackBeforeBegin.desc).map (fun d => d.parameters.length) = some 2 := by decide +kernel
abbrev b_Net_findCovering : ByteArray := prog_3_method_6_code
def y_Net_findCovering : MethodName := ⟨"CaseNet$Net", "findCovering", "(III)Z"⟩
abbrev w_Net_findCovering : List Cond := Cond.code y_Net_findCovering b_Net_findCovering 7 (some .boolean) :: wAll
theorem ac_Net_findCovering : Cond.code y_Net_findCovering b_Net_findCovering 7 (some .boolean) ∈ wAll := a_293
theorem hd_Net_findCovering : y_Net_findCovering.cls ≠ "java/lang/invoke/MethodHandle" ∧ y_Net_findCovering.cls ≠ "java/lang/invoke/VarHandle" ∧ (parseMethodDescriptor y_Net_findCovering.desc).map (fun d => d.parameters.length) = some 3 := by decide +kernel
abbrev b_CN_canMoreInputsCome : ByteArray := prog_1_method_25_code
def y_CN_canMoreInputsCome : MethodName := ⟨"CaseNet", "canMoreInputsCome", "(I)Z"⟩
abbrev w_CN_canMoreInputsCome : List Cond := Cond.code y_CN_canMoreInputsCome b_CN_canMoreInputsCome 5 (some .boolean) :: wAll
theorem ac_CN_canMoreInputsCome : Cond.code y_CN_canMoreInputsCome b_CN_canMoreInputsCome 5 (some .boolean) ∈ wAll := a_289
theorem hd_CN_canMoreInputsCome : y_CN_canMoreInputsCome.cls ≠ "java/lang/invoke/MethodHandle" ∧ y_CN_canMoreInputsCome.cls ≠ "java/lang/invoke/VarHandle" ∧ (parseMethodDescriptor y_CN_canMoreInputsCome.desc).map (fun d => d.parameters.length) = some 1 := by decide +kernel
abbrev b_CN_canFire : ByteArray := prog_1_method_24_code
def y_CN_canFire : MethodName := ⟨"CaseNet", "canFire", "(I)Z"⟩
abbrev w_CN_canFire : List Cond := Cond.code y_CN_canFire b_CN_canFire 4 (some .boolean) :: wAll
theorem ac_CN_canFire : Cond.code y_CN_canFire b_CN_canFire 4 (some .boolean) ∈ wAll := a_285
theorem hd_CN_canFire : y_CN_canFire.cls ≠ "java/lang/invoke/MethodHandle" ∧ y_CN_canFire.cls ≠ "java/lang/invoke/VarHandle" ∧ (parseMethodDescriptor y_CN_canFire.desc).map (fun d => d.parameters.length) = some 1 := by decide +kernel
abbrev b_CN_enabled : ByteArray := prog_1_method_8_code
def y_CN_enabled : MethodName := ⟨"CaseNet", "enabled", "()I"⟩
abbrev w_CN_enabled : List Cond := Cond.code y_CN_enabled b_CN_enabled 3 (some .int) :: wAll
theorem ac_CN_enabled : Cond.code y_CN_enabled b_CN_enabled 3 (some .int) ∈ wAll := a_281
theorem hd_CN_enabled : y_CN_enabled.cls ≠ "java/lang/invoke/MethodHandle" ∧ y_CN_enabled.cls ≠ "java/lang/invoke/VarHandle" ∧ (parseMethodDescriptor y_CN_enabled.desc).map (fun d => d.parameters.length) = some 0 := by decide +kernel
abbrev b_Work_hasRoomFor : ByteArray := prog_5_method_3_code
def y_Work_hasRoomFor : MethodName := ⟨"CaseNet$WorkList", "hasRoomFor", "(I)Z"⟩
abbrev w_Work_hasRoomFor : List Cond := Cond.code y_Work_hasRoomFor b_Work_hasRoomFor 2 (some .boolean) :: wAll
theorem ac_Work_hasRoomFor : Cond.code y_Work_hasRoomFor b_Work_hasRoomFor 2 (some .boolean) ∈ wAll := a_345
theorem hd_Work_hasRoomFor : y_Work_hasRoomFor.cls ≠ "java/lang/invoke/MethodHandle" ∧ y_Work_hasRoomFor.cls ≠ "java/lang/invoke/VarHandle" ∧ (parseMethodDescriptor y_Work_hasRoomFor.desc).map (fun d => d.parameters.length) = some 1 := by decide +kernel
abbrev b_Task_inputsUsed : ByteArray := prog_4_method_8_code
def y_Task_inputsUsed : MethodName := ⟨"CaseNet$Task", "inputsUsed", "(I)I"⟩
abbrev w_Task_inputsUsed : List Cond := Cond.code y_Task_inputsUsed b_Task_inputsUsed 3 (some .int) :: wAll
theorem ac_Task_inputsUsed : Cond.code y_Task_inputsUsed b_Task_inputsUsed 3 (some .int) ∈ wAll := a_349
theorem hd_Task_inputsUsed : y_Task_inputsUsed.cls ≠ "java/lang/invoke/MethodHandle" ∧ y_Task_inputsUsed.cls ≠ "java/lang/invoke/VarHandle" ∧ (parseMethodDescriptor y_Task_inputsUsed.desc).map (fun d => d.parameters.length) = some 1 := by decide +kernel
abbrev b_Work_offer : ByteArray := prog_5_method_4_code
def y_Work_offer : MethodName := ⟨"CaseNet$WorkList", "offer", "(III)I"⟩
abbrev w_Work_offer : List Cond := Cond.code y_Work_offer b_Work_offer 6 (some .int) :: wAll
theorem ac_Work_offer : Cond.code y_Work_offer b_Work_offer 6 (some .int) ∈ wAll := a_353
theorem hd_Work_offer : y_Work_offer.cls ≠ "java/lang/invoke/MethodHandle" ∧ y_Work_offer.cls ≠ "java/lang/invoke/VarHandle" ∧ (parseMethodDescriptor y_Work_offer.desc).map (fun d => d.parameters.length) = some 3 := by decide +kernel
abbrev b_CN_fire : ByteArray := prog_1_method_9_code
def y_CN_fire : MethodName := ⟨"CaseNet", "fire", "(I)I"⟩
abbrev w_CN_fire : List Cond := Cond.code y_CN_fire b_CN_fire 3 (some .int) :: wAll
theorem ac_CN_fire : Cond.code y_CN_fire b_CN_fire 3 (some .int) ∈ wAll := a_341
theorem hd_CN_fire : y_CN_fire.cls ≠ "java/lang/invoke/MethodHandle" ∧ y_CN_fire.cls ≠ "java/lang/invoke/VarHandle" ∧ (parseMethodDescriptor y_CN_fire.desc).map (fun d => d.parameters.length) = some 1 := by decide +kernel
abbrev b_Work_has : ByteArray := prog_5_method_2_code
def y_Work_has : MethodName := ⟨"CaseNet$WorkList", "has", "(I)Z"⟩
abbrev w_Work_has : List Cond := Cond.code y_Work_has b_Work_has 2 (some .boolean) :: wAll
theorem ac_Work_has : Cond.code y_Work_has b_Work_has 2 (some .boolean) ∈ wAll := a_361
theorem hd_Work_has : y_Work_has.cls ≠ "java/lang/invoke/MethodHandle" ∧ y_Work_has.cls ≠ "java/lang/invoke/VarHandle" ∧ (parseMethodDescriptor y_Work_has.desc).map (fun d => d.parameters.length) = some 1 := by decide +kernel
abbrev b_CN_start : ByteArray := prog_1_method_10_code
def y_CN_start : MethodName := ⟨"CaseNet", "start", "(I)I"⟩
abbrev w_CN_start : List Cond := Cond.code y_CN_start b_CN_start 2 (some .int) :: wAll
theorem ac_CN_start : Cond.code y_CN_start b_CN_start 2 (some .int) ∈ wAll := a_357
theorem hd_CN_start : y_CN_start.cls ≠ "java/lang/invoke/MethodHandle" ∧ y_CN_start.cls ≠ "java/lang/invoke/VarHandle" ∧ (parseMethodDescriptor y_CN_start.desc).map (fun d => d.parameters.length) = some 1 := by decide +kernel
abbrev b_Work_countCompleted : ByteArray := prog_5_method_7_code
def y_Work_countCompleted : MethodName := ⟨"CaseNet$WorkList", "countCompleted", "(II)I"⟩
abbrev w_Work_countCompleted : List Cond := Cond.code y_Work_countCompleted b_Work_countCompleted 5 (some .int) :: wAll
theorem ac_Work_countCompleted : Cond.code y_Work_countCompleted b_Work_countCompleted 5 (some .int) ∈ wAll := a_369
theorem hd_Work_countCompleted : y_Work_countCompleted.cls ≠ "java/lang/invoke/MethodHandle" ∧ y_Work_countCompleted.cls ≠ "java/lang/invoke/VarHandle" ∧ (parseMethodDescriptor y_Work_countCompleted.desc).map (fun d => d.parameters.length) = some 2 := by decide +kernel
abbrev b_Task_guardHolds : ByteArray := prog_4_method_10_code
def y_Task_guardHolds : MethodName := ⟨"CaseNet$Task", "guardHolds", "(I[I)Z"⟩
abbrev w_Task_guardHolds : List Cond := Cond.code y_Task_guardHolds b_Task_guardHolds 4 (some .boolean) :: wAll
theorem ac_Task_guardHolds : Cond.code y_Task_guardHolds b_Task_guardHolds 4 (some .boolean) ∈ wAll := a_381
theorem hd_Task_guardHolds : y_Task_guardHolds.cls ≠ "java/lang/invoke/MethodHandle" ∧ y_Task_guardHolds.cls ≠ "java/lang/invoke/VarHandle" ∧ (parseMethodDescriptor y_Task_guardHolds.desc).map (fun d => d.parameters.length) = some 2 := by decide +kernel
abbrev b_Task_chosenOutputs : ByteArray := prog_4_method_9_code
def y_Task_chosenOutputs : MethodName := ⟨"CaseNet$Task", "chosenOutputs", "([I)I"⟩
abbrev w_Task_chosenOutputs : List Cond := Cond.code y_Task_chosenOutputs b_Task_chosenOutputs 5 (some .int) :: wAll
theorem ac_Task_chosenOutputs : Cond.code y_Task_chosenOutputs b_Task_chosenOutputs 5 (some .int) ∈ wAll := a_377
theorem hd_Task_chosenOutputs : y_Task_chosenOutputs.cls ≠ "java/lang/invoke/MethodHandle" ∧ y_Task_chosenOutputs.cls ≠ "java/lang/invoke/VarHandle" ∧ (parseMethodDescriptor y_Task_chosenOutputs.desc).map (fun d => d.parameters.length) = some 1 := by decide +kernel
abbrev b_CN_end : ByteArray := prog_1_method_26_code
def y_CN_end : MethodName := ⟨"CaseNet", "end", "(LCaseNet$Task;)V"⟩
abbrev w_CN_end : List Cond := Cond.code y_CN_end b_CN_end 2 none :: wAll
theorem ac_CN_end : Cond.code y_CN_end b_CN_end 2 none ∈ wAll := a_373
theorem hd_CN_end : y_CN_end.cls ≠ "java/lang/invoke/MethodHandle" ∧ y_CN_end.cls ≠ "java/lang/invoke/VarHandle" ∧ (parseMethodDescriptor y_CN_end.desc).map (fun d => d.parameters.length) = some 1 := by decide +kernel
abbrev b_Work_isAnyOpen : ByteArray := prog_5_method_6_code
def y_Work_isAnyOpen : MethodName := ⟨"CaseNet$WorkList", "isAnyOpen", "(II)Z"⟩
abbrev w_Work_isAnyOpen : List Cond := Cond.code y_Work_isAnyOpen b_Work_isAnyOpen 4 (some .boolean) :: wAll
theorem ac_Work_isAnyOpen : Cond.code y_Work_isAnyOpen b_Work_isAnyOpen 4 (some .boolean) ∈ wAll := a_389
theorem hd_Work_isAnyOpen : y_Work_isAnyOpen.cls ≠ "java/lang/invoke/MethodHandle" ∧ y_Work_isAnyOpen.cls ≠ "java/lang/invoke/VarHandle" ∧ (parseMethodDescriptor y_Work_isAnyOpen.desc).map (fun d => d.parameters.length) = some 2 := by decide +kernel
abbrev b_CN_stopIfNoneIsOpen : ByteArray := prog_1_method_29_code
def y_CN_stopIfNoneIsOpen : MethodName := ⟨"CaseNet", "stopIfNoneIsOpen", "(LCaseNet$Task;)Z"⟩
abbrev w_CN_stopIfNoneIsOpen : List Cond := Cond.code y_CN_stopIfNoneIsOpen b_CN_stopIfNoneIsOpen 2 (some .boolean) :: wAll
theorem ac_CN_stopIfNoneIsOpen : Cond.code y_CN_stopIfNoneIsOpen b_CN_stopIfNoneIsOpen 2 (some .boolean) ∈ wAll := a_385
theorem hd_CN_stopIfNoneIsOpen : y_CN_stopIfNoneIsOpen.cls ≠ "java/lang/invoke/MethodHandle" ∧ y_CN_stopIfNoneIsOpen.cls ≠ "java/lang/invoke/VarHandle" ∧ (parseMethodDescriptor y_CN_stopIfNoneIsOpen.desc).map (fun d => d.parameters.length) = some 1 := by decide +kernel
abbrev b_CN_finish : ByteArray := prog_1_method_11_code
def y_CN_finish : MethodName := ⟨"CaseNet", "finish", "(II)I"⟩
abbrev w_CN_finish : List Cond := Cond.code y_CN_finish b_CN_finish 4 (some .int) :: wAll
theorem ac_CN_finish : Cond.code y_CN_finish b_CN_finish 4 (some .int) ∈ wAll := a_365
theorem hd_CN_finish : y_CN_finish.cls ≠ "java/lang/invoke/MethodHandle" ∧ y_CN_finish.cls ≠ "java/lang/invoke/VarHandle" ∧ (parseMethodDescriptor y_CN_finish.desc).map (fun d => d.parameters.length) = some 2 := by decide +kernel
abbrev b_CN_failOpen : ByteArray := prog_1_method_30_code
def y_CN_failOpen : MethodName := ⟨"CaseNet", "failOpen", "(I)Z"⟩
abbrev w_CN_failOpen : List Cond := Cond.code y_CN_failOpen b_CN_failOpen 2 (some .boolean) :: wAll
theorem ac_CN_failOpen : Cond.code y_CN_failOpen b_CN_failOpen 2 (some .boolean) ∈ wAll := a_398
theorem hd_CN_failOpen : y_CN_failOpen.cls ≠ "java/lang/invoke/MethodHandle" ∧ y_CN_failOpen.cls ≠ "java/lang/invoke/VarHandle" ∧ (parseMethodDescriptor y_CN_failOpen.desc).map (fun d => d.parameters.length) = some 1 := by decide +kernel
abbrev b_CN_fail : ByteArray := prog_1_method_12_code
def y_CN_fail : MethodName := ⟨"CaseNet", "fail", "(I)I"⟩
abbrev w_CN_fail : List Cond := Cond.code y_CN_fail b_CN_fail 2 (some .int) :: wAll
theorem ac_CN_fail : Cond.code y_CN_fail b_CN_fail 2 (some .int) ∈ wAll := a_393
theorem hd_CN_fail : y_CN_fail.cls ≠ "java/lang/invoke/MethodHandle" ∧ y_CN_fail.cls ≠ "java/lang/invoke/VarHandle" ∧ (parseMethodDescriptor y_CN_fail.desc).map (fun d => d.parameters.length) = some 1 := by decide +kernel
abbrev b_CN_isOverdue : ByteArray := prog_1_method_31_code
def y_CN_isOverdue : MethodName := ⟨"CaseNet", "isOverdue", "(I)Z"⟩
abbrev w_CN_isOverdue : List Cond := Cond.code y_CN_isOverdue b_CN_isOverdue 3 (some .boolean) :: wAll
theorem ac_CN_isOverdue : Cond.code y_CN_isOverdue b_CN_isOverdue 3 (some .boolean) ∈ wAll := a_406
theorem hd_CN_isOverdue : y_CN_isOverdue.cls ≠ "java/lang/invoke/MethodHandle" ∧ y_CN_isOverdue.cls ≠ "java/lang/invoke/VarHandle" ∧ (parseMethodDescriptor y_CN_isOverdue.desc).map (fun d => d.parameters.length) = some 1 := by decide +kernel
abbrev b_CN_tick : ByteArray := prog_1_method_13_code
def y_CN_tick : MethodName := ⟨"CaseNet", "tick", "(I)I"⟩
abbrev w_CN_tick : List Cond := Cond.code y_CN_tick b_CN_tick 3 (some .int) :: wAll
theorem ac_CN_tick : Cond.code y_CN_tick b_CN_tick 3 (some .int) ∈ wAll := a_402
theorem hd_CN_tick : y_CN_tick.cls ≠ "java/lang/invoke/MethodHandle" ∧ y_CN_tick.cls ≠ "java/lang/invoke/VarHandle" ∧ (parseMethodDescriptor y_CN_tick.desc).map (fun d => d.parameters.length) = some 1 := by decide +kernel
abbrev b_CN_set : ByteArray := prog_1_method_14_code
def y_CN_set : MethodName := ⟨"CaseNet", "set", "(II)Z"⟩
abbrev w_CN_set : List Cond := Cond.code y_CN_set b_CN_set 3 (some .boolean) :: wAll
theorem ac_CN_set : Cond.code y_CN_set b_CN_set 3 (some .boolean) ∈ wAll := a_410
theorem hd_CN_set : y_CN_set.cls ≠ "java/lang/invoke/MethodHandle" ∧ y_CN_set.cls ≠ "java/lang/invoke/VarHandle" ∧ (parseMethodDescriptor y_CN_set.desc).map (fun d => d.parameters.length) = some 2 := by decide +kernel
abbrev b_CN_variable : ByteArray := prog_1_method_15_code
def y_CN_variable : MethodName := ⟨"CaseNet", "variable", "(I)I"⟩
abbrev w_CN_variable : List Cond := Cond.code y_CN_variable b_CN_variable 2 (some .int) :: wAll
theorem ac_CN_variable : Cond.code y_CN_variable b_CN_variable 2 (some .int) ∈ wAll := a_414
theorem hd_CN_variable : y_CN_variable.cls ≠ "java/lang/invoke/MethodHandle" ∧ y_CN_variable.cls ≠ "java/lang/invoke/VarHandle" ∧ (parseMethodDescriptor y_CN_variable.desc).map (fun d => d.parameters.length) = some 1 := by decide +kernel
abbrev b_CN_marking : ByteArray := prog_1_method_16_code
def y_CN_marking : MethodName := ⟨"CaseNet", "marking", "()I"⟩
abbrev w_CN_marking : List Cond := Cond.code y_CN_marking b_CN_marking 1 (some .int) :: wAll
theorem ac_CN_marking : Cond.code y_CN_marking b_CN_marking 1 (some .int) ∈ wAll := a_418
theorem hd_CN_marking : y_CN_marking.cls ≠ "java/lang/invoke/MethodHandle" ∧ y_CN_marking.cls ≠ "java/lang/invoke/VarHandle" ∧ (parseMethodDescriptor y_CN_marking.desc).map (fun d => d.parameters.length) = some 0 := by decide +kernel
abbrev b_CN_item : ByteArray := prog_1_method_17_code
def y_CN_item : MethodName := ⟨"CaseNet", "item", "(II)I"⟩
abbrev w_CN_item : List Cond := Cond.code y_CN_item b_CN_item 3 (some .int) :: wAll
theorem ac_CN_item : Cond.code y_CN_item b_CN_item 3 (some .int) ∈ wAll := a_422
theorem hd_CN_item : y_CN_item.cls ≠ "java/lang/invoke/MethodHandle" ∧ y_CN_item.cls ≠ "java/lang/invoke/VarHandle" ∧ (parseMethodDescriptor y_CN_item.desc).map (fun d => d.parameters.length) = some 2 := by decide +kernel
abbrev b_CN_covers : ByteArray := prog_1_method_18_code
def y_CN_covers : MethodName := ⟨"CaseNet", "covers", "(III)I"⟩
abbrev w_CN_covers : List Cond := Cond.code y_CN_covers b_CN_covers 4 (some .int) :: wAll
theorem ac_CN_covers : Cond.code y_CN_covers b_CN_covers 4 (some .int) ∈ wAll := a_426
theorem hd_CN_covers : y_CN_covers.cls ≠ "java/lang/invoke/MethodHandle" ∧ y_CN_covers.cls ≠ "java/lang/invoke/VarHandle" ∧ (parseMethodDescriptor y_CN_covers.desc).map (fun d => d.parameters.length) = some 3 := by decide +kernel
abbrev b_Net_hasJoinSome : ByteArray := prog_3_method_5_code
def y_Net_hasJoinSome : MethodName := ⟨"CaseNet$Net", "hasJoinSome", "()Z"⟩
abbrev w_Net_hasJoinSome : List Cond := Cond.code y_Net_hasJoinSome b_Net_hasJoinSome 2 (some .boolean) :: wAll
theorem ac_Net_hasJoinSome : Cond.code y_Net_hasJoinSome b_Net_hasJoinSome 2 (some .boolean) ∈ wAll := a_439
theorem hd_Net_hasJoinSome : y_Net_hasJoinSome.cls ≠ "java/lang/invoke/MethodHandle" ∧ y_Net_hasJoinSome.cls ≠ "java/lang/invoke/VarHandle" ∧ (parseMethodDescriptor y_Net_hasJoinSome.desc).map (fun d => d.parameters.length) = some 0 := by decide +kernel
abbrev b_Net_addReached : ByteArray := prog_3_method_13_code
def y_Net_addReached : MethodName := ⟨"CaseNet$Net", "addReached", "(I)V"⟩
abbrev w_Net_addReached : List Cond := Cond.code y_Net_addReached b_Net_addReached 2 none :: wAll
theorem ac_Net_addReached : Cond.code y_Net_addReached b_Net_addReached 2 none ∈ wAll := a_447
theorem hd_Net_addReached : y_Net_addReached.cls ≠ "java/lang/invoke/MethodHandle" ∧ y_Net_addReached.cls ≠ "java/lang/invoke/VarHandle" ∧ (parseMethodDescriptor y_Net_addReached.desc).map (fun d => d.parameters.length) = some 1 := by decide +kernel
abbrev b_Net_goOnByBegin : ByteArray := prog_3_method_11_code
def y_Net_goOnByBegin : MethodName := ⟨"CaseNet$Net", "goOnByBegin", "(II)V"⟩
abbrev w_Net_goOnByBegin : List Cond := Cond.code y_Net_goOnByBegin b_Net_goOnByBegin 6 none :: wAll
theorem ac_Net_goOnByBegin : Cond.code y_Net_goOnByBegin b_Net_goOnByBegin 6 none ∈ wAll := a_451
theorem hd_Net_goOnByBegin : y_Net_goOnByBegin.cls ≠ "java/lang/invoke/MethodHandle" ∧ y_Net_goOnByBegin.cls ≠ "java/lang/invoke/VarHandle" ∧ (parseMethodDescriptor y_Net_goOnByBegin.desc).map (fun d => d.parameters.length) = some 2 := by decide +kernel
abbrev b_Net_goOnByEnd : ByteArray := prog_3_method_12_code
def y_Net_goOnByEnd : MethodName := ⟨"CaseNet$Net", "goOnByEnd", "(LCaseNet$Task;I)V"⟩
abbrev w_Net_goOnByEnd : List Cond := Cond.code y_Net_goOnByEnd b_Net_goOnByEnd 5 none :: wAll
theorem ac_Net_goOnByEnd : Cond.code y_Net_goOnByEnd b_Net_goOnByEnd 5 none ∈ wAll := a_455
theorem hd_Net_goOnByEnd : y_Net_goOnByEnd.cls ≠ "java/lang/invoke/MethodHandle" ∧ y_Net_goOnByEnd.cls ≠ "java/lang/invoke/VarHandle" ∧ (parseMethodDescriptor y_Net_goOnByEnd.desc).map (fun d => d.parameters.length) = some 2 := by decide +kernel
abbrev b_Net_reachFromStart : ByteArray := prog_3_method_10_code
def y_Net_reachFromStart : MethodName := ⟨"CaseNet$Net", "reachFromStart", "()V"⟩
abbrev w_Net_reachFromStart : List Cond := Cond.code y_Net_reachFromStart b_Net_reachFromStart 4 none :: wAll
theorem ac_Net_reachFromStart : Cond.code y_Net_reachFromStart b_Net_reachFromStart 4 none ∈ wAll := a_443
theorem hd_Net_reachFromStart : y_Net_reachFromStart.cls ≠ "java/lang/invoke/MethodHandle" ∧ y_Net_reachFromStart.cls ≠ "java/lang/invoke/VarHandle" ∧ (parseMethodDescriptor y_Net_reachFromStart.desc).map (fun d => d.parameters.length) = some 0 := by decide +kernel
abbrev b_MS_isWithin : ByteArray := prog_2_method_7_code
def y_MS_isWithin : MethodName := ⟨"CaseNet$MaskSet", "isWithin", "(LCaseNet$MaskSet;)Z"⟩
abbrev w_MS_isWithin : List Cond := Cond.code y_MS_isWithin b_MS_isWithin 3 (some .boolean) :: wAll
theorem ac_MS_isWithin : Cond.code y_MS_isWithin b_MS_isWithin 3 (some .boolean) ∈ wAll := a_460
theorem hd_MS_isWithin : y_MS_isWithin.cls ≠ "java/lang/invoke/MethodHandle" ∧ y_MS_isWithin.cls ≠ "java/lang/invoke/VarHandle" ∧ (parseMethodDescriptor y_MS_isWithin.desc).map (fun d => d.parameters.length) = some 1 := by decide +kernel
abbrev b_Net_judge : ByteArray := prog_3_method_4_code
def y_Net_judge : MethodName := ⟨"CaseNet$Net", "judge", "()I"⟩
abbrev w_Net_judge : List Cond := Cond.code y_Net_judge b_Net_judge 2 (some .int) :: wAll
theorem ac_Net_judge : Cond.code y_Net_judge b_Net_judge 2 (some .int) ∈ wAll := a_434
theorem hd_Net_judge : y_Net_judge.cls ≠ "java/lang/invoke/MethodHandle" ∧ y_Net_judge.cls ≠ "java/lang/invoke/VarHandle" ∧ (parseMethodDescriptor y_Net_judge.desc).map (fun d => d.parameters.length) = some 0 := by decide +kernel
abbrev b_CN_verdict : ByteArray := prog_1_method_19_code
def y_CN_verdict : MethodName := ⟨"CaseNet", "verdict", "()I"⟩
abbrev w_CN_verdict : List Cond := Cond.code y_CN_verdict b_CN_verdict 1 (some .int) :: wAll
theorem ac_CN_verdict : Cond.code y_CN_verdict b_CN_verdict 1 (some .int) ∈ wAll := a_430
theorem hd_CN_verdict : y_CN_verdict.cls ≠ "java/lang/invoke/MethodHandle" ∧ y_CN_verdict.cls ≠ "java/lang/invoke/VarHandle" ∧ (parseMethodDescriptor y_CN_verdict.desc).map (fun d => d.parameters.length) = some 0 := by decide +kernel
abbrev b_Md_isTask : ByteArray := prog_7_method_2_code
def y_Md_isTask : MethodName := ⟨"CaseNetModel", "isTask", "(I)Z"⟩
abbrev w_Md_isTask : List Cond := Cond.code y_Md_isTask b_Md_isTask 1 (some .boolean) :: wAll
theorem ac_Md_isTask : Cond.code y_Md_isTask b_Md_isTask 1 (some .boolean) ∈ wAll := a_559
theorem hd_Md_isTask : y_Md_isTask.cls ≠ "java/lang/invoke/MethodHandle" ∧ y_Md_isTask.cls ≠ "java/lang/invoke/VarHandle" ∧ (parseMethodDescriptor y_Md_isTask.desc).map (fun d => d.parameters.length) = some 1 := by decide +kernel
abbrev b_Md_isDefined : ByteArray := prog_7_method_3_code
def y_Md_isDefined : MethodName := ⟨"CaseNetModel", "isDefined", "(I)Z"⟩
abbrev w_Md_isDefined : List Cond := Cond.code y_Md_isDefined b_Md_isDefined 2 (some .boolean) :: wAll
theorem ac_Md_isDefined : Cond.code y_Md_isDefined b_Md_isDefined 2 (some .boolean) ∈ wAll := a_572
theorem hd_Md_isDefined : y_Md_isDefined.cls ≠ "java/lang/invoke/MethodHandle" ∧ y_Md_isDefined.cls ≠ "java/lang/invoke/VarHandle" ∧ (parseMethodDescriptor y_Md_isDefined.desc).map (fun d => d.parameters.length) = some 1 := by decide +kernel
abbrev b_Md_isPlaces : ByteArray := prog_7_method_4_code
def y_Md_isPlaces : MethodName := ⟨"CaseNetModel", "isPlaces", "(I)Z"⟩
abbrev w_Md_isPlaces : List Cond := Cond.code y_Md_isPlaces b_Md_isPlaces 1 (some .boolean) :: wAll
theorem ac_Md_isPlaces : Cond.code y_Md_isPlaces b_Md_isPlaces 1 (some .boolean) ∈ wAll := a_575
theorem hd_Md_isPlaces : y_Md_isPlaces.cls ≠ "java/lang/invoke/MethodHandle" ∧ y_Md_isPlaces.cls ≠ "java/lang/invoke/VarHandle" ∧ (parseMethodDescriptor y_Md_isPlaces.desc).map (fun d => d.parameters.length) = some 1 := by decide +kernel
abbrev b_Md_count : ByteArray := prog_7_method_5_code
def y_Md_count : MethodName := ⟨"CaseNetModel", "count", "(I)I"⟩
abbrev w_Md_count : List Cond := Cond.code y_Md_count b_Md_count 3 (some .int) :: wAll
theorem ac_Md_count : Cond.code y_Md_count b_Md_count 3 (some .int) ∈ wAll := a_562
theorem hd_Md_count : y_Md_count.cls ≠ "java/lang/invoke/MethodHandle" ∧ y_Md_count.cls ≠ "java/lang/invoke/VarHandle" ∧ (parseMethodDescriptor y_Md_count.desc).map (fun d => d.parameters.length) = some 1 := by decide +kernel
abbrev b_Md_runs : ByteArray := prog_7_method_6_code
def y_Md_runs : MethodName := ⟨"CaseNetModel", "runs", "(I)Z"⟩
abbrev w_Md_runs : List Cond := Cond.code y_Md_runs b_Md_runs 2 (some .boolean) :: wAll
theorem ac_Md_runs : Cond.code y_Md_runs b_Md_runs 2 (some .boolean) ∈ wAll := a_619
theorem hd_Md_runs : y_Md_runs.cls ≠ "java/lang/invoke/MethodHandle" ∧ y_Md_runs.cls ≠ "java/lang/invoke/VarHandle" ∧ (parseMethodDescriptor y_Md_runs.desc).map (fun d => d.parameters.length) = some 1 := by decide +kernel
abbrev b_Md_task : ByteArray := prog_7_method_7_code
def y_Md_task : MethodName := ⟨"CaseNetModel", "task", "(IIIII)Z"⟩
abbrev w_Md_task : List Cond := Cond.code y_Md_task b_Md_task 9 (some .boolean) :: wAll
theorem ac_Md_task : Cond.code y_Md_task b_Md_task 9 (some .boolean) ∈ wAll := a_556
theorem hd_Md_task : y_Md_task.cls ≠ "java/lang/invoke/MethodHandle" ∧ y_Md_task.cls ≠ "java/lang/invoke/VarHandle" ∧ (parseMethodDescriptor y_Md_task.desc).map (fun d => d.parameters.length) = some 5 := by decide +kernel
abbrev b_Md_region : ByteArray := prog_7_method_8_code
def y_Md_region : MethodName := ⟨"CaseNetModel", "region", "(II)Z"⟩
abbrev w_Md_region : List Cond := Cond.code y_Md_region b_Md_region 3 (some .boolean) :: wAll
theorem ac_Md_region : Cond.code y_Md_region b_Md_region 3 (some .boolean) ∈ wAll := a_568
theorem hd_Md_region : y_Md_region.cls ≠ "java/lang/invoke/MethodHandle" ∧ y_Md_region.cls ≠ "java/lang/invoke/VarHandle" ∧ (parseMethodDescriptor y_Md_region.desc).map (fun d => d.parameters.length) = some 2 := by decide +kernel
abbrev b_Md_guard : ByteArray := prog_7_method_9_code
def y_Md_guard : MethodName := ⟨"CaseNetModel", "guard", "(IIIII)Z"⟩
abbrev w_Md_guard : List Cond := Cond.code y_Md_guard b_Md_guard 6 (some .boolean) :: wAll
theorem ac_Md_guard : Cond.code y_Md_guard b_Md_guard 6 (some .boolean) ∈ wAll := a_579
theorem hd_Md_guard : y_Md_guard.cls ≠ "java/lang/invoke/MethodHandle" ∧ y_Md_guard.cls ≠ "java/lang/invoke/VarHandle" ∧ (parseMethodDescriptor y_Md_guard.desc).map (fun d => d.parameters.length) = some 5 := by decide +kernel
abbrev b_Md_items : ByteArray := prog_7_method_10_code
def y_Md_items : MethodName := ⟨"CaseNetModel", "items", "(IIIII)Z"⟩
abbrev w_Md_items : List Cond := Cond.code y_Md_items b_Md_items 6 (some .boolean) :: wAll
theorem ac_Md_items : Cond.code y_Md_items b_Md_items 6 (some .boolean) ∈ wAll := a_583
theorem hd_Md_items : y_Md_items.cls ≠ "java/lang/invoke/MethodHandle" ∧ y_Md_items.cls ≠ "java/lang/invoke/VarHandle" ∧ (parseMethodDescriptor y_Md_items.desc).map (fun d => d.parameters.length) = some 5 := by decide +kernel
abbrev b_Md_isAny : ByteArray := prog_7_method_11_code
def y_Md_isAny : MethodName := ⟨"CaseNetModel", "isAny", "()Z"⟩
abbrev w_Md_isAny : List Cond := Cond.code y_Md_isAny b_Md_isAny 3 (some .boolean) :: wAll
theorem ac_Md_isAny : Cond.code y_Md_isAny b_Md_isAny 3 (some .boolean) ∈ wAll := a_611
theorem hd_Md_isAny : y_Md_isAny.cls ≠ "java/lang/invoke/MethodHandle" ∧ y_Md_isAny.cls ≠ "java/lang/invoke/VarHandle" ∧ (parseMethodDescriptor y_Md_isAny.desc).map (fun d => d.parameters.length) = some 0 := by decide +kernel
abbrev b_Md_outputs : ByteArray := prog_7_method_12_code
def y_Md_outputs : MethodName := ⟨"CaseNetModel", "outputs", "(II)I"⟩
abbrev w_Md_outputs : List Cond := Cond.code y_Md_outputs b_Md_outputs 5 (some .int) :: wAll
theorem ac_Md_outputs : Cond.code y_Md_outputs b_Md_outputs 5 (some .int) ∈ wAll := a_603
theorem hd_Md_outputs : y_Md_outputs.cls ≠ "java/lang/invoke/MethodHandle" ∧ y_Md_outputs.cls ≠ "java/lang/invoke/VarHandle" ∧ (parseMethodDescriptor y_Md_outputs.desc).map (fun d => d.parameters.length) = some 2 := by decide +kernel
abbrev b_Md_after : ByteArray := prog_7_method_13_code
def y_Md_after : MethodName := ⟨"CaseNetModel", "after", "(III)I"⟩
abbrev w_Md_after : List Cond := Cond.code y_Md_after b_Md_after 8 (some .int) :: wAll
theorem ac_Md_after : Cond.code y_Md_after b_Md_after 8 (some .int) ∈ wAll := a_599
theorem hd_Md_after : y_Md_after.cls ≠ "java/lang/invoke/MethodHandle" ∧ y_Md_after.cls ≠ "java/lang/invoke/VarHandle" ∧ (parseMethodDescriptor y_Md_after.desc).map (fun d => d.parameters.length) = some 3 := by decide +kernel
abbrev b_Md_meet : ByteArray := prog_7_method_14_code
def y_Md_meet : MethodName := ⟨"CaseNetModel", "meet", "(I)V"⟩
abbrev w_Md_meet : List Cond := Cond.code y_Md_meet b_Md_meet 2 none :: wAll
theorem ac_Md_meet : Cond.code y_Md_meet b_Md_meet 2 none ∈ wAll := a_595
theorem hd_Md_meet : y_Md_meet.cls ≠ "java/lang/invoke/MethodHandle" ∧ y_Md_meet.cls ≠ "java/lang/invoke/VarHandle" ∧ (parseMethodDescriptor y_Md_meet.desc).map (fun d => d.parameters.length) = some 1 := by decide +kernel
abbrev b_Md_search : ByteArray := prog_7_method_15_code
def y_Md_search : MethodName := ⟨"CaseNetModel", "search", "(III)Z"⟩
abbrev w_Md_search : List Cond := Cond.code y_Md_search b_Md_search 9 (some .boolean) :: wAll
theorem ac_Md_search : Cond.code y_Md_search b_Md_search 9 (some .boolean) ∈ wAll := a_591
theorem hd_Md_search : y_Md_search.cls ≠ "java/lang/invoke/MethodHandle" ∧ y_Md_search.cls ≠ "java/lang/invoke/VarHandle" ∧ (parseMethodDescriptor y_Md_search.desc).map (fun d => d.parameters.length) = some 3 := by decide +kernel
abbrev b_Md_covers : ByteArray := prog_7_method_16_code
def y_Md_covers : MethodName := ⟨"CaseNetModel", "covers", "(III)I"⟩
abbrev w_Md_covers : List Cond := Cond.code y_Md_covers b_Md_covers 4 (some .int) :: wAll
theorem ac_Md_covers : Cond.code y_Md_covers b_Md_covers 4 (some .int) ∈ wAll := a_587
theorem hd_Md_covers : y_Md_covers.cls ≠ "java/lang/invoke/MethodHandle" ∧ y_Md_covers.cls ≠ "java/lang/invoke/VarHandle" ∧ (parseMethodDescriptor y_Md_covers.desc).map (fun d => d.parameters.length) = some 3 := by decide +kernel
abbrev b_Md_launch : ByteArray := prog_7_method_17_code
def y_Md_launch : MethodName := ⟨"CaseNetModel", "launch", "()Z"⟩
abbrev w_Md_launch : List Cond := Cond.code y_Md_launch b_Md_launch 1 (some .boolean) :: wAll
theorem ac_Md_launch : Cond.code y_Md_launch b_Md_launch 1 (some .boolean) ∈ wAll := a_607
theorem hd_Md_launch : y_Md_launch.cls ≠ "java/lang/invoke/MethodHandle" ∧ y_Md_launch.cls ≠ "java/lang/invoke/VarHandle" ∧ (parseMethodDescriptor y_Md_launch.desc).map (fun d => d.parameters.length) = some 0 := by decide +kernel
abbrev b_Md_stop : ByteArray := prog_7_method_18_code
def y_Md_stop : MethodName := ⟨"CaseNetModel", "stop", "(I)V"⟩
abbrev w_Md_stop : List Cond := Cond.code y_Md_stop b_Md_stop 3 none :: wAll
theorem ac_Md_stop : Cond.code y_Md_stop b_Md_stop 3 none ∈ wAll := a_623
theorem hd_Md_stop : y_Md_stop.cls ≠ "java/lang/invoke/MethodHandle" ∧ y_Md_stop.cls ≠ "java/lang/invoke/VarHandle" ∧ (parseMethodDescriptor y_Md_stop.desc).map (fun d => d.parameters.length) = some 1 := by decide +kernel
abbrev b_Md_cancel : ByteArray := prog_7_method_19_code
def y_Md_cancel : MethodName := ⟨"CaseNetModel", "cancel", "()Z"⟩
abbrev w_Md_cancel : List Cond := Cond.code y_Md_cancel b_Md_cancel 2 (some .boolean) :: wAll
theorem ac_Md_cancel : Cond.code y_Md_cancel b_Md_cancel 2 (some .boolean) ∈ wAll := a_615
theorem hd_Md_cancel : y_Md_cancel.cls ≠ "java/lang/invoke/MethodHandle" ∧ y_Md_cancel.cls ≠ "java/lang/invoke/VarHandle" ∧ (parseMethodDescriptor y_Md_cancel.desc).map (fun d => d.parameters.length) = some 0 := by decide +kernel
abbrev b_Md_isLast : ByteArray := prog_7_method_20_code
def y_Md_isLast : MethodName := ⟨"CaseNetModel", "isLast", "(I)Z"⟩
abbrev w_Md_isLast : List Cond := Cond.code y_Md_isLast b_Md_isLast 5 (some .boolean) :: wAll
theorem ac_Md_isLast : Cond.code y_Md_isLast b_Md_isLast 5 (some .boolean) ∈ wAll := a_635
theorem hd_Md_isLast : y_Md_isLast.cls ≠ "java/lang/invoke/MethodHandle" ∧ y_Md_isLast.cls ≠ "java/lang/invoke/VarHandle" ∧ (parseMethodDescriptor y_Md_isLast.desc).map (fun d => d.parameters.length) = some 1 := by decide +kernel
abbrev b_Md_isEnabled : ByteArray := prog_7_method_21_code
def y_Md_isEnabled : MethodName := ⟨"CaseNetModel", "isEnabled", "(I)Z"⟩
abbrev w_Md_isEnabled : List Cond := Cond.code y_Md_isEnabled b_Md_isEnabled 3 (some .boolean) :: wAll
theorem ac_Md_isEnabled : Cond.code y_Md_isEnabled b_Md_isEnabled 3 (some .boolean) ∈ wAll := a_631
theorem hd_Md_isEnabled : y_Md_isEnabled.cls ≠ "java/lang/invoke/MethodHandle" ∧ y_Md_isEnabled.cls ≠ "java/lang/invoke/VarHandle" ∧ (parseMethodDescriptor y_Md_isEnabled.desc).map (fun d => d.parameters.length) = some 1 := by decide +kernel
abbrev b_Md_enabled : ByteArray := prog_7_method_22_code
def y_Md_enabled : MethodName := ⟨"CaseNetModel", "enabled", "()I"⟩
abbrev w_Md_enabled : List Cond := Cond.code y_Md_enabled b_Md_enabled 3 (some .int) :: wAll
theorem ac_Md_enabled : Cond.code y_Md_enabled b_Md_enabled 3 (some .int) ∈ wAll := a_627
theorem hd_Md_enabled : y_Md_enabled.cls ≠ "java/lang/invoke/MethodHandle" ∧ y_Md_enabled.cls ≠ "java/lang/invoke/VarHandle" ∧ (parseMethodDescriptor y_Md_enabled.desc).map (fun d => d.parameters.length) = some 0 := by decide +kernel
abbrev b_Md_fire : ByteArray := prog_7_method_23_code
def y_Md_fire : MethodName := ⟨"CaseNetModel", "fire", "(I)I"⟩
abbrev w_Md_fire : List Cond := Cond.code y_Md_fire b_Md_fire 4 (some .int) :: wAll
theorem ac_Md_fire : Cond.code y_Md_fire b_Md_fire 4 (some .int) ∈ wAll := a_639
theorem hd_Md_fire : y_Md_fire.cls ≠ "java/lang/invoke/MethodHandle" ∧ y_Md_fire.cls ≠ "java/lang/invoke/VarHandle" ∧ (parseMethodDescriptor y_Md_fire.desc).map (fun d => d.parameters.length) = some 1 := by decide +kernel
abbrev b_Md_isItem : ByteArray := prog_7_method_24_code
def y_Md_isItem : MethodName := ⟨"CaseNetModel", "isItem", "(I)Z"⟩
abbrev w_Md_isItem : List Cond := Cond.code y_Md_isItem b_Md_isItem 2 (some .boolean) :: wAll
theorem ac_Md_isItem : Cond.code y_Md_isItem b_Md_isItem 2 (some .boolean) ∈ wAll := a_647
theorem hd_Md_isItem : y_Md_isItem.cls ≠ "java/lang/invoke/MethodHandle" ∧ y_Md_isItem.cls ≠ "java/lang/invoke/VarHandle" ∧ (parseMethodDescriptor y_Md_isItem.desc).map (fun d => d.parameters.length) = some 1 := by decide +kernel
abbrev b_Md_inState : ByteArray := prog_7_method_25_code
def y_Md_inState : MethodName := ⟨"CaseNetModel", "inState", "(III)I"⟩
abbrev w_Md_inState : List Cond := Cond.code y_Md_inState b_Md_inState 6 (some .int) :: wAll
theorem ac_Md_inState : Cond.code y_Md_inState b_Md_inState 6 (some .int) ∈ wAll := a_655
theorem hd_Md_inState : y_Md_inState.cls ≠ "java/lang/invoke/MethodHandle" ∧ y_Md_inState.cls ≠ "java/lang/invoke/VarHandle" ∧ (parseMethodDescriptor y_Md_inState.desc).map (fun d => d.parameters.length) = some 3 := by decide +kernel
abbrev b_Md_end : ByteArray := prog_7_method_26_code
def y_Md_end : MethodName := ⟨"CaseNetModel", "end", "(I)V"⟩
abbrev w_Md_end : List Cond := Cond.code y_Md_end b_Md_end 6 none :: wAll
theorem ac_Md_end : Cond.code y_Md_end b_Md_end 6 none ∈ wAll := a_659
theorem hd_Md_end : y_Md_end.cls ≠ "java/lang/invoke/MethodHandle" ∧ y_Md_end.cls ≠ "java/lang/invoke/VarHandle" ∧ (parseMethodDescriptor y_Md_end.desc).map (fun d => d.parameters.length) = some 1 := by decide +kernel
abbrev b_Md_start : ByteArray := prog_7_method_27_code
def y_Md_start : MethodName := ⟨"CaseNetModel", "start", "(I)I"⟩
abbrev w_Md_start : List Cond := Cond.code y_Md_start b_Md_start 2 (some .int) :: wAll
theorem ac_Md_start : Cond.code y_Md_start b_Md_start 2 (some .int) ∈ wAll := a_643
theorem hd_Md_start : y_Md_start.cls ≠ "java/lang/invoke/MethodHandle" ∧ y_Md_start.cls ≠ "java/lang/invoke/VarHandle" ∧ (parseMethodDescriptor y_Md_start.desc).map (fun d => d.parameters.length) = some 1 := by decide +kernel
abbrev b_Md_finish : ByteArray := prog_7_method_28_code
def y_Md_finish : MethodName := ⟨"CaseNetModel", "finish", "(II)I"⟩
abbrev w_Md_finish : List Cond := Cond.code y_Md_finish b_Md_finish 4 (some .int) :: wAll
theorem ac_Md_finish : Cond.code y_Md_finish b_Md_finish 4 (some .int) ∈ wAll := a_651
theorem hd_Md_finish : y_Md_finish.cls ≠ "java/lang/invoke/MethodHandle" ∧ y_Md_finish.cls ≠ "java/lang/invoke/VarHandle" ∧ (parseMethodDescriptor y_Md_finish.desc).map (fun d => d.parameters.length) = some 2 := by decide +kernel
abbrev b_Md_failed : ByteArray := prog_7_method_29_code
def y_Md_failed : MethodName := ⟨"CaseNetModel", "failed", "(I)I"⟩
abbrev w_Md_failed : List Cond := Cond.code y_Md_failed b_Md_failed 3 (some .int) :: wAll
theorem ac_Md_failed : Cond.code y_Md_failed b_Md_failed 3 (some .int) ∈ wAll := a_667
theorem hd_Md_failed : y_Md_failed.cls ≠ "java/lang/invoke/MethodHandle" ∧ y_Md_failed.cls ≠ "java/lang/invoke/VarHandle" ∧ (parseMethodDescriptor y_Md_failed.desc).map (fun d => d.parameters.length) = some 1 := by decide +kernel
abbrev b_Md_fail : ByteArray := prog_7_method_30_code
def y_Md_fail : MethodName := ⟨"CaseNetModel", "fail", "(I)I"⟩
abbrev w_Md_fail : List Cond := Cond.code y_Md_fail b_Md_fail 2 (some .int) :: wAll
theorem ac_Md_fail : Cond.code y_Md_fail b_Md_fail 2 (some .int) ∈ wAll := a_663
theorem hd_Md_fail : y_Md_fail.cls ≠ "java/lang/invoke/MethodHandle" ∧ y_Md_fail.cls ≠ "java/lang/invoke/VarHandle" ∧ (parseMethodDescriptor y_Md_fail.desc).map (fun d => d.parameters.length) = some 1 := by decide +kernel
abbrev b_Md_tick : ByteArray := prog_7_method_31_code
def y_Md_tick : MethodName := ⟨"CaseNetModel", "tick", "(I)I"⟩
abbrev w_Md_tick : List Cond := Cond.code y_Md_tick b_Md_tick 4 (some .int) :: wAll
theorem ac_Md_tick : Cond.code y_Md_tick b_Md_tick 4 (some .int) ∈ wAll := a_671
theorem hd_Md_tick : y_Md_tick.cls ≠ "java/lang/invoke/MethodHandle" ∧ y_Md_tick.cls ≠ "java/lang/invoke/VarHandle" ∧ (parseMethodDescriptor y_Md_tick.desc).map (fun d => d.parameters.length) = some 1 := by decide +kernel
abbrev b_Md_set : ByteArray := prog_7_method_32_code
def y_Md_set : MethodName := ⟨"CaseNetModel", "set", "(II)Z"⟩
abbrev w_Md_set : List Cond := Cond.code y_Md_set b_Md_set 3 (some .boolean) :: wAll
theorem ac_Md_set : Cond.code y_Md_set b_Md_set 3 (some .boolean) ∈ wAll := a_675
theorem hd_Md_set : y_Md_set.cls ≠ "java/lang/invoke/MethodHandle" ∧ y_Md_set.cls ≠ "java/lang/invoke/VarHandle" ∧ (parseMethodDescriptor y_Md_set.desc).map (fun d => d.parameters.length) = some 2 := by decide +kernel
abbrev b_Md_variable : ByteArray := prog_7_method_33_code
def y_Md_variable : MethodName := ⟨"CaseNetModel", "variable", "(I)I"⟩
abbrev w_Md_variable : List Cond := Cond.code y_Md_variable b_Md_variable 2 (some .int) :: wAll
theorem ac_Md_variable : Cond.code y_Md_variable b_Md_variable 2 (some .int) ∈ wAll := a_679
theorem hd_Md_variable : y_Md_variable.cls ≠ "java/lang/invoke/MethodHandle" ∧ y_Md_variable.cls ≠ "java/lang/invoke/VarHandle" ∧ (parseMethodDescriptor y_Md_variable.desc).map (fun d => d.parameters.length) = some 1 := by decide +kernel
abbrev b_Md_marking : ByteArray := prog_7_method_34_code
def y_Md_marking : MethodName := ⟨"CaseNetModel", "marking", "()I"⟩
abbrev w_Md_marking : List Cond := Cond.code y_Md_marking b_Md_marking 1 (some .int) :: wAll
theorem ac_Md_marking : Cond.code y_Md_marking b_Md_marking 1 (some .int) ∈ wAll := a_683
theorem hd_Md_marking : y_Md_marking.cls ≠ "java/lang/invoke/MethodHandle" ∧ y_Md_marking.cls ≠ "java/lang/invoke/VarHandle" ∧ (parseMethodDescriptor y_Md_marking.desc).map (fun d => d.parameters.length) = some 0 := by decide +kernel
abbrev b_Md_item : ByteArray := prog_7_method_35_code
def y_Md_item : MethodName := ⟨"CaseNetModel", "item", "(II)I"⟩
abbrev w_Md_item : List Cond := Cond.code y_Md_item b_Md_item 3 (some .int) :: wAll
theorem ac_Md_item : Cond.code y_Md_item b_Md_item 3 (some .int) ∈ wAll := a_687
theorem hd_Md_item : y_Md_item.cls ≠ "java/lang/invoke/MethodHandle" ∧ y_Md_item.cls ≠ "java/lang/invoke/VarHandle" ∧ (parseMethodDescriptor y_Md_item.desc).map (fun d => d.parameters.length) = some 2 := by decide +kernel
abbrev b_Md_isGood : ByteArray := prog_7_method_36_code
def y_Md_isGood : MethodName := ⟨"CaseNetModel", "isGood", "(I)Z"⟩
abbrev w_Md_isGood : List Cond := Cond.code y_Md_isGood b_Md_isGood 2 (some .boolean) :: wAll
theorem ac_Md_isGood : Cond.code y_Md_isGood b_Md_isGood 2 (some .boolean) ∈ wAll := a_703
theorem hd_Md_isGood : y_Md_isGood.cls ≠ "java/lang/invoke/MethodHandle" ∧ y_Md_isGood.cls ≠ "java/lang/invoke/VarHandle" ∧ (parseMethodDescriptor y_Md_isGood.desc).map (fun d => d.parameters.length) = some 1 := by decide +kernel
abbrev b_Md_leads : ByteArray := prog_7_method_37_code
def y_Md_leads : MethodName := ⟨"CaseNetModel", "leads", "(I)Z"⟩
abbrev w_Md_leads : List Cond := Cond.code y_Md_leads b_Md_leads 5 (some .boolean) :: wAll
theorem ac_Md_leads : Cond.code y_Md_leads b_Md_leads 5 (some .boolean) ∈ wAll := a_707
theorem hd_Md_leads : y_Md_leads.cls ≠ "java/lang/invoke/MethodHandle" ∧ y_Md_leads.cls ≠ "java/lang/invoke/VarHandle" ∧ (parseMethodDescriptor y_Md_leads.desc).map (fun d => d.parameters.length) = some 1 := by decide +kernel
abbrev b_Md_allEnd : ByteArray := prog_7_method_38_code
def y_Md_allEnd : MethodName := ⟨"CaseNetModel", "allEnd", "()Z"⟩
abbrev w_Md_allEnd : List Cond := Cond.code y_Md_allEnd b_Md_allEnd 5 (some .boolean) :: wAll
theorem ac_Md_allEnd : Cond.code y_Md_allEnd b_Md_allEnd 5 (some .boolean) ∈ wAll := a_699
theorem hd_Md_allEnd : y_Md_allEnd.cls ≠ "java/lang/invoke/MethodHandle" ∧ y_Md_allEnd.cls ≠ "java/lang/invoke/VarHandle" ∧ (parseMethodDescriptor y_Md_allEnd.desc).map (fun d => d.parameters.length) = some 0 := by decide +kernel
abbrev b_Md_canBegin : ByteArray := prog_7_method_39_code
def y_Md_canBegin : MethodName := ⟨"CaseNetModel", "canBegin", "(I)Z"⟩
abbrev w_Md_canBegin : List Cond := Cond.code y_Md_canBegin b_Md_canBegin 5 (some .boolean) :: wAll
theorem ac_Md_canBegin : Cond.code y_Md_canBegin b_Md_canBegin 5 (some .boolean) ∈ wAll := a_695
theorem hd_Md_canBegin : y_Md_canBegin.cls ≠ "java/lang/invoke/MethodHandle" ∧ y_Md_canBegin.cls ≠ "java/lang/invoke/VarHandle" ∧ (parseMethodDescriptor y_Md_canBegin.desc).map (fun d => d.parameters.length) = some 1 := by decide +kernel
abbrev b_Md_verdict : ByteArray := prog_7_method_40_code
def y_Md_verdict : MethodName := ⟨"CaseNetModel", "verdict", "()I"⟩
abbrev w_Md_verdict : List Cond := Cond.code y_Md_verdict b_Md_verdict 5 (some .int) :: wAll
theorem ac_Md_verdict : Cond.code y_Md_verdict b_Md_verdict 5 (some .int) ∈ wAll := a_691
theorem hd_Md_verdict : y_Md_verdict.cls ≠ "java/lang/invoke/MethodHandle" ∧ y_Md_verdict.cls ≠ "java/lang/invoke/VarHandle" ∧ (parseMethodDescriptor y_Md_verdict.desc).map (fun d => d.parameters.length) = some 0 := by decide +kernel
abbrev b_MS_init : ByteArray := prog_2_method_1_code
def y_MS_init : MethodName := ⟨"CaseNet$MaskSet", "<init>", "()V"⟩
abbrev w_MS_init : List Cond := Cond.code y_MS_init b_MS_init 1 none :: wAll
theorem ac_MS_init : Cond.code y_MS_init b_MS_init 1 none ∈ wAll := a_30
theorem hd_MS_init : y_MS_init.cls ≠ "java/lang/invoke/MethodHandle" ∧ y_MS_init.cls ≠ "java/lang/invoke/VarHandle" ∧ (parseMethodDescriptor y_MS_init.desc).map (fun d => d.parameters.length) = some 0 := by decide +kernel
abbrev b_Task_init : ByteArray := prog_4_method_1_code
def y_Task_init : MethodName := ⟨"CaseNet$Task", "<init>", "(I)V"⟩
abbrev w_Task_init : List Cond := Cond.code y_Task_init b_Task_init 2 none :: wAll
theorem ac_Task_init : Cond.code y_Task_init b_Task_init 2 none ∈ wAll := a_43
theorem hd_Task_init : y_Task_init.cls ≠ "java/lang/invoke/MethodHandle" ∧ y_Task_init.cls ≠ "java/lang/invoke/VarHandle" ∧ (parseMethodDescriptor y_Task_init.desc).map (fun d => d.parameters.length) = some 1 := by decide +kernel
abbrev b_Work_init : ByteArray := prog_5_method_1_code
def y_Work_init : MethodName := ⟨"CaseNet$WorkList", "<init>", "()V"⟩
abbrev w_Work_init : List Cond := Cond.code y_Work_init b_Work_init 1 none :: wAll
theorem ac_Work_init : Cond.code y_Work_init b_Work_init 1 none ∈ wAll := a_145
theorem hd_Work_init : y_Work_init.cls ≠ "java/lang/invoke/MethodHandle" ∧ y_Work_init.cls ≠ "java/lang/invoke/VarHandle" ∧ (parseMethodDescriptor y_Work_init.desc).map (fun d => d.parameters.length) = some 0 := by decide +kernel
abbrev b_Net_init : ByteArray := prog_3_method_1_code
def y_Net_init : MethodName := ⟨"CaseNet$Net", "<init>", "()V"⟩
abbrev w_Net_init : List Cond := Cond.code y_Net_init b_Net_init 2 none :: wAll
theorem ac_Net_init : Cond.code y_Net_init b_Net_init 2 none ∈ wAll := a_22
theorem hd_Net_init : y_Net_init.cls ≠ "java/lang/invoke/MethodHandle" ∧ y_Net_init.cls ≠ "java/lang/invoke/VarHandle" ∧ (parseMethodDescriptor y_Net_init.desc).map (fun d => d.parameters.length) = some 0 := by decide +kernel
abbrev b_CN_init : ByteArray := prog_1_method_1_code
def y_CN_init : MethodName := ⟨"CaseNet", "<init>", "()V"⟩
abbrev w_CN_init : List Cond := Cond.code y_CN_init b_CN_init 1 none :: wAll
theorem ac_CN_init : Cond.code y_CN_init b_CN_init 1 none ∈ wAll := a_14
theorem hd_CN_init : y_CN_init.cls ≠ "java/lang/invoke/MethodHandle" ∧ y_CN_init.cls ≠ "java/lang/invoke/VarHandle" ∧ (parseMethodDescriptor y_CN_init.desc).map (fun d => d.parameters.length) = some 0 := by decide +kernel
abbrev b_Md_init : ByteArray := prog_7_method_1_code
def y_Md_init : MethodName := ⟨"CaseNetModel", "<init>", "()V"⟩
abbrev w_Md_init : List Cond := Cond.code y_Md_init b_Md_init 1 none :: wAll
theorem ac_Md_init : Cond.code y_Md_init b_Md_init 1 none ∈ wAll := a_465
theorem hd_Md_init : y_Md_init.cls ≠ "java/lang/invoke/MethodHandle" ∧ y_Md_init.cls ≠ "java/lang/invoke/VarHandle" ∧ (parseMethodDescriptor y_Md_init.desc).map (fun d => d.parameters.length) = some 0 := by decide +kernel
abbrev b_Law_law : ByteArray := code
theorem i0_CaseNet : ∀ w ∈ u_ws R_CaseNet F_CaseNet 6, w ∈ wAll := by
  have e : u_ws R_CaseNet F_CaseNet 6 = [(Jvm.Cond.laysFinal "CaseNet" "CaseNet" "net" "LCaseNet$Net;"), (Jvm.Cond.laysFinal "CaseNet" "CaseNet" "work" "LCaseNet$WorkList;"), (Jvm.Cond.laysFinal "CaseNet" "CaseNet" "variables" "[I"), (Jvm.Cond.lays "CaseNet" "CaseNet" "on" "Z"), (Jvm.Cond.lays "CaseNet" "CaseNet" "present" "I"), (Jvm.Cond.lays "CaseNet" "CaseNet" "clock" "I")] := by decide +kernel
  rw [e]
  exact List.forall_mem_cons.mpr ⟨a_170, List.forall_mem_cons.mpr ⟨a_172, List.forall_mem_cons.mpr ⟨a_174, List.forall_mem_cons.mpr ⟨a_176, List.forall_mem_cons.mpr ⟨a_178, List.forall_mem_cons.mpr ⟨a_180, fun _ h => absurd h List.not_mem_nil⟩⟩⟩⟩⟩⟩
theorem i_CaseNet {x : Cond} : ∀ w ∈ u_ws R_CaseNet F_CaseNet 6, w ∈ x :: wAll := fun w h => List.mem_cons_of_mem _ (i0_CaseNet w h)
theorem i0_Net : ∀ w ∈ u_ws R_Net F_Net 6, w ∈ wAll := by
  have e : u_ws R_Net F_Net 6 = [(Jvm.Cond.laysFinal "CaseNet$Net" "CaseNet$Net" "tasks" "[LCaseNet$Task;"), (Jvm.Cond.laysFinal "CaseNet$Net" "CaseNet$Net" "open" "LCaseNet$MaskSet;"), (Jvm.Cond.laysFinal "CaseNet$Net" "CaseNet$Net" "reached" "LCaseNet$MaskSet;"), (Jvm.Cond.laysFinal "CaseNet$Net" "CaseNet$Net" "covering" "LCaseNet$MaskSet;"), (Jvm.Cond.lays "CaseNet$Net" "CaseNet$Net" "begun" "I"), (Jvm.Cond.lays "CaseNet$Net" "CaseNet$Net" "endStandsAlone" "Z")] := by decide +kernel
  rw [e]
  exact List.forall_mem_cons.mpr ⟨a_128, List.forall_mem_cons.mpr ⟨a_130, List.forall_mem_cons.mpr ⟨a_132, List.forall_mem_cons.mpr ⟨a_134, List.forall_mem_cons.mpr ⟨a_136, List.forall_mem_cons.mpr ⟨a_138, fun _ h => absurd h List.not_mem_nil⟩⟩⟩⟩⟩⟩
theorem i_Net {x : Cond} : ∀ w ∈ u_ws R_Net F_Net 6, w ∈ x :: wAll := fun w h => List.mem_cons_of_mem _ (i0_Net w h)
theorem i0_Task : ∀ w ∈ u_ws R_Task F_Task 19, w ∈ wAll := by
  have e : u_ws R_Task F_Task 19 = [(Jvm.Cond.laysFinal "CaseNet$Task" "CaseNet$Task" "place" "I"), (Jvm.Cond.lays "CaseNet$Task" "CaseNet$Task" "defined" "Z"), (Jvm.Cond.lays "CaseNet$Task" "CaseNet$Task" "join" "I"), (Jvm.Cond.lays "CaseNet$Task" "CaseNet$Task" "split" "I"), (Jvm.Cond.lays "CaseNet$Task" "CaseNet$Task" "ins" "I"), (Jvm.Cond.lays "CaseNet$Task" "CaseNet$Task" "outs" "I"), (Jvm.Cond.lays "CaseNet$Task" "CaseNet$Task" "cleared" "I"), (Jvm.Cond.lays "CaseNet$Task" "CaseNet$Task" "number" "I"), (Jvm.Cond.lays "CaseNet$Task" "CaseNet$Task" "threshold" "I"), (Jvm.Cond.lays "CaseNet$Task" "CaseNet$Task" "variable" "I"), (Jvm.Cond.lays "CaseNet$Task" "CaseNet$Task" "deadline" "I"), (Jvm.Cond.lays "CaseNet$Task" "CaseNet$Task" "firstItem" "I"), (Jvm.Cond.laysFinal "CaseNet$Task" "CaseNet$Task" "takes" "[I"), (Jvm.Cond.laysFinal "CaseNet$Task" "CaseNet$Task" "puts" "[I"), (Jvm.Cond.lays "CaseNet$Task" "CaseNet$Task" "takesCount" "I"), (Jvm.Cond.lays "CaseNet$Task" "CaseNet$Task" "putsCount" "I"), (Jvm.Cond.laysFinal "CaseNet$Task" "CaseNet$Task" "guardVariable" "[I"), (Jvm.Cond.laysFinal "CaseNet$Task" "CaseNet$Task" "guardLow" "[I"), (Jvm.Cond.laysFinal "CaseNet$Task" "CaseNet$Task" "guardHigh" "[I")] := by decide +kernel
  rw [e]
  exact List.forall_mem_cons.mpr ⟨a_81, List.forall_mem_cons.mpr ⟨a_83, List.forall_mem_cons.mpr ⟨a_85, List.forall_mem_cons.mpr ⟨a_87, List.forall_mem_cons.mpr ⟨a_89, List.forall_mem_cons.mpr ⟨a_91, List.forall_mem_cons.mpr ⟨a_93, List.forall_mem_cons.mpr ⟨a_95, List.forall_mem_cons.mpr ⟨a_97, List.forall_mem_cons.mpr ⟨a_99, List.forall_mem_cons.mpr ⟨a_101, List.forall_mem_cons.mpr ⟨a_103, List.forall_mem_cons.mpr ⟨a_105, List.forall_mem_cons.mpr ⟨a_107, List.forall_mem_cons.mpr ⟨a_109, List.forall_mem_cons.mpr ⟨a_111, List.forall_mem_cons.mpr ⟨a_113, List.forall_mem_cons.mpr ⟨a_115, List.forall_mem_cons.mpr ⟨a_117, fun _ h => absurd h List.not_mem_nil⟩⟩⟩⟩⟩⟩⟩⟩⟩⟩⟩⟩⟩⟩⟩⟩⟩⟩⟩
theorem i_Task {x : Cond} : ∀ w ∈ u_ws R_Task F_Task 19, w ∈ x :: wAll := fun w h => List.mem_cons_of_mem _ (i0_Task w h)
theorem i0_WorkList : ∀ w ∈ u_ws R_WorkList F_WorkList 4, w ∈ wAll := by
  have e : u_ws R_WorkList F_WorkList 4 = [(Jvm.Cond.laysFinal "CaseNet$WorkList" "CaseNet$WorkList" "task" "[I"), (Jvm.Cond.laysFinal "CaseNet$WorkList" "CaseNet$WorkList" "state" "[I"), (Jvm.Cond.laysFinal "CaseNet$WorkList" "CaseNet$WorkList" "offeredAt" "[I"), (Jvm.Cond.lays "CaseNet$WorkList" "CaseNet$WorkList" "made" "I")] := by decide +kernel
  rw [e]
  exact List.forall_mem_cons.mpr ⟨a_155, List.forall_mem_cons.mpr ⟨a_157, List.forall_mem_cons.mpr ⟨a_159, List.forall_mem_cons.mpr ⟨a_161, fun _ h => absurd h List.not_mem_nil⟩⟩⟩⟩
theorem i_WorkList {x : Cond} : ∀ w ∈ u_ws R_WorkList F_WorkList 4, w ∈ x :: wAll := fun w h => List.mem_cons_of_mem _ (i0_WorkList w h)
theorem i0_MaskSet : ∀ w ∈ u_ws R_MaskSet F_MaskSet 2, w ∈ wAll := by
  have e : u_ws R_MaskSet F_MaskSet 2 = [(Jvm.Cond.laysFinal "CaseNet$MaskSet" "CaseNet$MaskSet" "words" "[J"), (Jvm.Cond.lays "CaseNet$MaskSet" "CaseNet$MaskSet" "firstUsed" "I")] := by decide +kernel
  rw [e]
  exact List.forall_mem_cons.mpr ⟨a_34, List.forall_mem_cons.mpr ⟨a_36, fun _ h => absurd h List.not_mem_nil⟩⟩
theorem i_MaskSet {x : Cond} : ∀ w ∈ u_ws R_MaskSet F_MaskSet 2, w ∈ x :: wAll := fun w h => List.mem_cons_of_mem _ (i0_MaskSet w h)
theorem i0_Model : ∀ w ∈ u_ws R_Model F_Model 28, w ∈ wAll := by
  have e : u_ws R_Model F_Model 28 = [(Jvm.Cond.lays "CaseNetModel" "CaseNetModel" "defined" "[Z"), (Jvm.Cond.lays "CaseNetModel" "CaseNetModel" "joins" "[I"), (Jvm.Cond.lays "CaseNetModel" "CaseNetModel" "splits" "[I"), (Jvm.Cond.lays "CaseNetModel" "CaseNetModel" "insOf" "[I"), (Jvm.Cond.lays "CaseNetModel" "CaseNetModel" "outsOf" "[I"), (Jvm.Cond.lays "CaseNetModel" "CaseNetModel" "inBits" "[I"), (Jvm.Cond.lays "CaseNetModel" "CaseNetModel" "outBits" "[I"), (Jvm.Cond.lays "CaseNetModel" "CaseNetModel" "regions" "[I"), (Jvm.Cond.lays "CaseNetModel" "CaseNetModel" "guardOf" "[I"), (Jvm.Cond.lays "CaseNetModel" "CaseNetModel" "lows" "[I"), (Jvm.Cond.lays "CaseNetModel" "CaseNetModel" "highs" "[I"), (Jvm.Cond.lays "CaseNetModel" "CaseNetModel" "numbers" "[I"), (Jvm.Cond.lays "CaseNetModel" "CaseNetModel" "thresholds" "[I"), (Jvm.Cond.lays "CaseNetModel" "CaseNetModel" "variableOf" "[I"), (Jvm.Cond.lays "CaseNetModel" "CaseNetModel" "deadlines" "[I"), (Jvm.Cond.lays "CaseNetModel" "CaseNetModel" "on" "Z"), (Jvm.Cond.lays "CaseNetModel" "CaseNetModel" "mask" "I"), (Jvm.Cond.lays "CaseNetModel" "CaseNetModel" "clock" "I"), (Jvm.Cond.lays "CaseNetModel" "CaseNetModel" "variables" "[I"), (Jvm.Cond.lays "CaseNetModel" "CaseNetModel" "made" "I"), (Jvm.Cond.lays "CaseNetModel" "CaseNetModel" "taskOf" "[I"), (Jvm.Cond.lays "CaseNetModel" "CaseNetModel" "stateOf" "[I"), (Jvm.Cond.lays "CaseNetModel" "CaseNetModel" "offeredAt" "[I"), (Jvm.Cond.lays "CaseNetModel" "CaseNetModel" "firstItem" "[I"), (Jvm.Cond.lays "CaseNetModel" "CaseNetModel" "met" "[J"), (Jvm.Cond.lays "CaseNetModel" "CaseNetModel" "masks" "[I"), (Jvm.Cond.lays "CaseNetModel" "CaseNetModel" "many" "I"), (Jvm.Cond.lays "CaseNetModel" "CaseNetModel" "good" "[J")] := by decide +kernel
  rw [e]
  exact List.forall_mem_cons.mpr ⟨a_495, List.forall_mem_cons.mpr ⟨a_497, List.forall_mem_cons.mpr ⟨a_499, List.forall_mem_cons.mpr ⟨a_501, List.forall_mem_cons.mpr ⟨a_503, List.forall_mem_cons.mpr ⟨a_505, List.forall_mem_cons.mpr ⟨a_507, List.forall_mem_cons.mpr ⟨a_509, List.forall_mem_cons.mpr ⟨a_511, List.forall_mem_cons.mpr ⟨a_513, List.forall_mem_cons.mpr ⟨a_515, List.forall_mem_cons.mpr ⟨a_517, List.forall_mem_cons.mpr ⟨a_519, List.forall_mem_cons.mpr ⟨a_521, List.forall_mem_cons.mpr ⟨a_523, List.forall_mem_cons.mpr ⟨a_525, List.forall_mem_cons.mpr ⟨a_527, List.forall_mem_cons.mpr ⟨a_529, List.forall_mem_cons.mpr ⟨a_531, List.forall_mem_cons.mpr ⟨a_533, List.forall_mem_cons.mpr ⟨a_535, List.forall_mem_cons.mpr ⟨a_537, List.forall_mem_cons.mpr ⟨a_539, List.forall_mem_cons.mpr ⟨a_541, List.forall_mem_cons.mpr ⟨a_543, List.forall_mem_cons.mpr ⟨a_545, List.forall_mem_cons.mpr ⟨a_547, List.forall_mem_cons.mpr ⟨a_549, fun _ h => absurd h List.not_mem_nil⟩⟩⟩⟩⟩⟩⟩⟩⟩⟩⟩⟩⟩⟩⟩⟩⟩⟩⟩⟩⟩⟩⟩⟩⟩⟩⟩⟩
theorem i_Model {x : Cond} : ∀ w ∈ u_ws R_Model F_Model 28, w ∈ x :: wAll := fun w h => List.mem_cons_of_mem _ (i0_Model w h)
theorem gi_c {x w : Cond} {ws : List Cond} (h : ∀ z ∈ ws, z ∈ wAll) : GoodIn (x :: wAll) ws := fun z hz => ⟨List.mem_cons_of_mem _ (h z hz), good_of_word (List.mem_filter.mp (h z hz)).2⟩
section CWS
variable {R : Room} {s : State} {args : Array Value} {own C host : String} {idx maxL n : Nat} {y : MethodName} {bytes : ByteArray} {ret : Option FieldType} {rm : Room} {x : Cond}
theorem cw_S (hts : ∀ w ∈ x :: wAll, w.before args s = true) (h1 : Cond.methodLink own idx y ∈ wAll) (h2 : Cond.static y ∈ wAll) (h3 : Cond.initialized y.cls ∈ wAll) (h4 : Cond.code y bytes maxL ret ∈ wAll) (hrc : rm.cells = 0) (hrs : rm.slots = 0) (hd : y.cls ≠ "java/lang/invoke/MethodHandle" ∧ y.cls ≠ "java/lang/invoke/VarHandle" ∧ (parseMethodDescriptor y.desc).map (fun d => d.parameters.length) = some n) (hR : rm.frames + 1 ≤ R.frames ∧ 8 + (maxL + 11) + rm.locals ≤ R.locals) :
    CallB R s args own idx y bytes maxL ret (Cond.code y bytes maxL ret :: wAll) rm 0 0 n ∧ (Cond.static y).before args s = true :=
  ⟨callB_of n hts (gi_c (w := x) (fun z hz => (List.mem_cons.mp hz).elim (fun e => e ▸ h4) id)) rfl hrc hrs (hts _ (List.mem_cons_of_mem _ h3)) (hts _ (List.mem_cons_of_mem _ h1)) hd hR, hts _ (List.mem_cons_of_mem _ h2)⟩
theorem cw_V (hts : ∀ w ∈ x :: wAll, w.before args s = true) (h1 : Cond.methodLink own idx y ∈ wAll) (h2 : Cond.instanceMethod y ∈ wAll) (h5 : Cond.selects C y y ∈ wAll) (h3 : Cond.initialized y.cls ∈ wAll) (h4 : Cond.code y bytes maxL ret ∈ wAll) (hrc : rm.cells = 0) (hrs : rm.slots = 0) (_hC : y.cls = C) (hd : y.cls ≠ "java/lang/invoke/MethodHandle" ∧ y.cls ≠ "java/lang/invoke/VarHandle" ∧ (parseMethodDescriptor y.desc).map (fun d => d.parameters.length) = some n) (hR : rm.frames + 1 ≤ R.frames ∧ 8 + (maxL + 11) + rm.locals ≤ R.locals) :
    CallW R s args own C idx y bytes maxL ret (Cond.code y bytes maxL ret :: wAll) rm 0 0 n :=
  ⟨callB_of n hts (gi_c (w := x) (fun z hz => (List.mem_cons.mp hz).elim (fun e => e ▸ h4) id)) rfl hrc hrs (hts _ (List.mem_cons_of_mem _ h3)) (hts _ (List.mem_cons_of_mem _ h1)) hd hR, hts _ (List.mem_cons_of_mem _ h2), hts _ (List.mem_cons_of_mem _ h5)⟩
theorem cw_SN (hts : ∀ w ∈ x :: wAll, w.before args s = true) (h1 : va_Nw (.methodLinkNest own idx y host) s) (h2 : Cond.static y ∈ wAll) (h3 : Cond.initialized y.cls ∈ wAll) (h4 : Cond.code y bytes maxL ret ∈ wAll) (hrc : rm.cells = 0) (hrs : rm.slots = 0) (hd : y.cls ≠ "java/lang/invoke/MethodHandle" ∧ y.cls ≠ "java/lang/invoke/VarHandle" ∧ (parseMethodDescriptor y.desc).map (fun d => d.parameters.length) = some n) (hR : rm.frames + 1 ≤ R.frames ∧ 8 + (maxL + 11) + rm.locals ≤ R.locals) :
    va_CN R s args own idx y host bytes maxL ret (Cond.code y bytes maxL ret :: wAll) rm 0 0 n ∧ (Cond.static y).before args s = true ∧ True :=
  ⟨va_cnB n hts (gi_c (w := x) (fun z hz => (List.mem_cons.mp hz).elim (fun e => e ▸ h4) id)) rfl hrc hrs h1 (hts _ (List.mem_cons_of_mem _ h3)) hd hR, hts _ (List.mem_cons_of_mem _ h2), trivial⟩
theorem cw_VN (hts : ∀ w ∈ x :: wAll, w.before args s = true) (h1 : va_Nw (.methodLinkNest own idx y host) s) (h2 : Cond.instanceMethod y ∈ wAll) (h5 : Cond.selects C y y ∈ wAll) (h3 : Cond.initialized y.cls ∈ wAll) (h4 : Cond.code y bytes maxL ret ∈ wAll) (hrc : rm.cells = 0) (hrs : rm.slots = 0) (_hC : y.cls = C) (hd : y.cls ≠ "java/lang/invoke/MethodHandle" ∧ y.cls ≠ "java/lang/invoke/VarHandle" ∧ (parseMethodDescriptor y.desc).map (fun d => d.parameters.length) = some n) (hR : rm.frames + 1 ≤ R.frames ∧ 8 + (maxL + 11) + rm.locals ≤ R.locals) :
    va_CN R s args own idx y host bytes maxL ret (Cond.code y bytes maxL ret :: wAll) rm 0 0 n ∧ (Cond.instanceMethod y).before args s = true ∧ (Cond.selects C y y).before args s = true :=
  ⟨va_cnB n hts (gi_c (w := x) (fun z hz => (List.mem_cons.mp hz).elim (fun e => e ▸ h4) id)) rfl hrc hrs h1 (hts _ (List.mem_cons_of_mem _ h3)) hd hR, hts _ (List.mem_cons_of_mem _ h2), hts _ (List.mem_cons_of_mem _ h5)⟩
end CWS
