def uC0 : St := (fun k => match k with
  | 3 => fun j => if j = 1 then 256 else 0
  | 5 => fun j => if j = 1 then 256 else 0
  | 7 => fun j => if j = 1 then 256 else 0
  | 9 => fun j => if j = 0 then ((1 : Int32) <<< (((8 : Int32) + (0 : Int32)) &&& 31)) else 0
  | 15 => fun j => if j = 0 then ((1 : Int32) <<< (((8 : Int32) + (1 : Int32)) &&& 31)) else 0
  | 21 => fun j => if j = 0 then ((1 : Int32) <<< (((8 : Int32) + (2 : Int32)) &&& 31)) else 0
  | 27 => fun j => if j = 0 then ((1 : Int32) <<< (((8 : Int32) + (3 : Int32)) &&& 31)) else 0
  | 33 => fun j => if j = 0 then ((1 : Int32) <<< (((8 : Int32) + (4 : Int32)) &&& 31)) else 0
  | 39 => fun j => if j = 0 then ((1 : Int32) <<< (((8 : Int32) + (5 : Int32)) &&& 31)) else 0
  | _ => fun _ => 0, fun _ _ => 0)
def uM0 : St := (fun _ _ => 0, fun _ _ => 0)
def RS_task (RR : St → St → Prop) (F : Nat) : Prop := ∀ (uC uM : St), RR uC uM → ∀ (a1 a2 a3 a4 a5 : Int32), ∃ (r : Int32) (uC' uM' : St), sp_CN_task F a1 a2 a3 a4 a5 uC = some (r, uC') ∧ sp_Md_task F a1 a2 a3 a4 a5 uM = some (r, uM') ∧ RR uC' uM'
def RS_region (RR : St → St → Prop) (F : Nat) : Prop := ∀ (uC uM : St), RR uC uM → ∀ (a1 a2 : Int32), ∃ (r : Int32) (uC' uM' : St), sp_CN_region a1 a2 uC = some (r, uC') ∧ sp_Md_region a1 a2 uM = some (r, uM') ∧ RR uC' uM'
def RS_guard (RR : St → St → Prop) (F : Nat) : Prop := ∀ (uC uM : St), RR uC uM → ∀ (a1 a2 a3 a4 a5 : Int32), ∃ (r : Int32) (uC' uM' : St), sp_CN_guard a1 a2 a3 a4 a5 uC = some (r, uC') ∧ sp_Md_guard a1 a2 a3 a4 a5 uM = some (r, uM') ∧ RR uC' uM'
def RS_items (RR : St → St → Prop) (F : Nat) : Prop := ∀ (uC uM : St), RR uC uM → ∀ (a1 a2 a3 a4 a5 : Int32), ∃ (r : Int32) (uC' uM' : St), sp_CN_items a1 a2 a3 a4 a5 uC = some (r, uC') ∧ sp_Md_items a1 a2 a3 a4 a5 uM = some (r, uM') ∧ RR uC' uM'
def RS_launch (RR : St → St → Prop) (F : Nat) : Prop := ∀ (uC uM : St), RR uC uM → ∃ (r : Int32) (uC' uM' : St), sp_CN_launch F uC = some (r, uC') ∧ sp_Md_launch F uM = some (r, uM') ∧ RR uC' uM'
def RS_cancel (RR : St → St → Prop) (F : Nat) : Prop := ∀ (uC uM : St), RR uC uM → ∃ (r : Int32) (uC' uM' : St), sp_CN_cancel F uC = some (r, uC') ∧ sp_Md_cancel F uM = some (r, uM') ∧ RR uC' uM'
def RS_enabled (RR : St → St → Prop) (F : Nat) : Prop := ∀ (uC uM : St), RR uC uM → ∃ (r : Int32) (uC' uM' : St), sp_CN_enabled F uC = some (r, uC') ∧ sp_Md_enabled F uM = some (r, uM') ∧ RR uC' uM'
def RS_fire (RR : St → St → Prop) (F : Nat) : Prop := ∀ (uC uM : St), RR uC uM → ∀ (a1 : Int32), ∃ (r : Int32) (uC' uM' : St), sp_CN_fire F a1 uC = some (r, uC') ∧ sp_Md_fire F a1 uM = some (r, uM') ∧ RR uC' uM'
def RS_start (RR : St → St → Prop) (F : Nat) : Prop := ∀ (uC uM : St), RR uC uM → ∀ (a1 : Int32), ∃ (r : Int32) (uC' uM' : St), sp_CN_start a1 uC = some (r, uC') ∧ sp_Md_start a1 uM = some (r, uM') ∧ RR uC' uM'
def RS_finish (RR : St → St → Prop) (F : Nat) : Prop := ∀ (uC uM : St), RR uC uM → ∀ (a1 a2 : Int32), ∃ (r : Int32) (uC' uM' : St), sp_CN_finish F a1 a2 uC = some (r, uC') ∧ sp_Md_finish F a1 a2 uM = some (r, uM') ∧ RR uC' uM'
def RS_fail (RR : St → St → Prop) (F : Nat) : Prop := ∀ (uC uM : St), RR uC uM → ∀ (a1 : Int32), ∃ (r : Int32) (uC' uM' : St), sp_CN_fail F a1 uC = some (r, uC') ∧ sp_Md_fail F a1 uM = some (r, uM') ∧ RR uC' uM'
def RS_tick (RR : St → St → Prop) (F : Nat) : Prop := ∀ (uC uM : St), RR uC uM → ∀ (a1 : Int32), ∃ (r : Int32) (uC' uM' : St), sp_CN_tick F a1 uC = some (r, uC') ∧ sp_Md_tick F a1 uM = some (r, uM') ∧ RR uC' uM'
def RS_set (RR : St → St → Prop) (F : Nat) : Prop := ∀ (uC uM : St), RR uC uM → ∀ (a1 a2 : Int32), ∃ (r : Int32) (uC' uM' : St), sp_CN_set a1 a2 uC = some (r, uC') ∧ sp_Md_set a1 a2 uM = some (r, uM') ∧ RR uC' uM'
def RS_variable (RR : St → St → Prop) (F : Nat) : Prop := ∀ (uC uM : St), RR uC uM → ∀ (a1 : Int32), ∃ (r : Int32) (uC' uM' : St), sp_CN_variable a1 uC = some (r, uC') ∧ sp_Md_variable a1 uM = some (r, uM') ∧ RR uC' uM'
def RS_marking (RR : St → St → Prop) (F : Nat) : Prop := ∀ (uC uM : St), RR uC uM → ∃ (r : Int32) (uC' uM' : St), sp_CN_marking uC = some (r, uC') ∧ sp_Md_marking uM = some (r, uM') ∧ RR uC' uM'
def RS_item (RR : St → St → Prop) (F : Nat) : Prop := ∀ (uC uM : St), RR uC uM → ∀ (a1 a2 : Int32), ∃ (r : Int32) (uC' uM' : St), sp_CN_item a1 a2 uC = some (r, uC') ∧ sp_Md_item a1 a2 uM = some (r, uM') ∧ RR uC' uM'
def RS_covers (RR : St → St → Prop) (F : Nat) : Prop := ∀ (uC uM : St), RR uC uM → ∀ (a1 a2 a3 : Int32), ∃ (r : Int32) (uC' uM' : St), sp_CN_covers F a1 a2 a3 uC = some (r, uC') ∧ sp_Md_covers F a1 a2 a3 uM = some (r, uM') ∧ RR uC' uM'
def RS_verdict (RR : St → St → Prop) (F : Nat) : Prop := ∀ (uC uM : St), RR uC uM → ∃ (r : Int32) (uC' uM' : St), sp_CN_verdict F uC = some (r, uC') ∧ sp_Md_verdict F uM = some (r, uM') ∧ RR uC' uM'
def RS_all (RR : St → St → Prop) (F : Nat) : Prop := RS_task RR F ∧ RS_region RR F ∧ RS_guard RR F ∧ RS_items RR F ∧ RS_launch RR F ∧ RS_cancel RR F ∧ RS_enabled RR F ∧ RS_fire RR F ∧ RS_start RR F ∧ RS_finish RR F ∧ RS_fail RR F ∧ RS_tick RR F ∧ RS_set RR F ∧ RS_variable RR F ∧ RS_marking RR F ∧ RS_item RR F ∧ RS_covers RR F ∧ RS_verdict RR F
def adC (h0 q1 q2 q3 q4 q5 q6 q7 q8 q9 q10 q11 q12 q13 q14 q15 q16 q17 q18 q19 q20 q21 q22 q23 q24 q25 q26 q27 q28 q29 q30 q31 q32 q33 q34 q35 q36 q37 q38 q39 q40 q41 q42 q43 q44 q79 q80 q81 q82 q86 : Nat) : Nat → Nat := fun k => match k with
  | 0 => h0
  | 1 => q1
  | 2 => q2
  | 3 => q3
  | 4 => q4
  | 5 => q5
  | 6 => q6
  | 7 => q7
  | 8 => q8
  | 9 => q9
  | 10 => q10
  | 11 => q11
  | 12 => q12
  | 13 => q13
  | 14 => q14
  | 15 => q15
  | 16 => q16
  | 17 => q17
  | 18 => q18
  | 19 => q19
  | 20 => q20
  | 21 => q21
  | 22 => q22
  | 23 => q23
  | 24 => q24
  | 25 => q25
  | 26 => q26
  | 27 => q27
  | 28 => q28
  | 29 => q29
  | 30 => q30
  | 31 => q31
  | 32 => q32
  | 33 => q33
  | 34 => q34
  | 35 => q35
  | 36 => q36
  | 37 => q37
  | 38 => q38
  | 39 => q39
  | 40 => q40
  | 41 => q41
  | 42 => q42
  | 43 => q43
  | 44 => q44
  | 45 => q79
  | 46 => q80
  | 47 => q81
  | 48 => q82
  | _ => q86
def caC (cA45 cA46 cA47 cA48 cA49 cA50 cA51 cA52 cA53 cA54 cA55 cA56 cA57 cA58 cA59 cA60 cA61 cA62 cA63 cA64 cA65 cA66 cA67 cA68 cA69 cA70 cA71 cA72 cA73 cA74 cA75 cA76 cA77 cA78 cA83 cA84 cA85 cA86 : ClassId) : Nat → ClassId := fun k => match k with
  | 2 => cA45
  | 4 => cA46
  | 6 => cA47
  | 8 => cA48
  | 10 => cA49
  | 11 => cA50
  | 12 => cA51
  | 13 => cA52
  | 14 => cA53
  | 16 => cA54
  | 17 => cA55
  | 18 => cA56
  | 19 => cA57
  | 20 => cA58
  | 22 => cA59
  | 23 => cA60
  | 24 => cA61
  | 25 => cA62
  | 26 => cA63
  | 28 => cA64
  | 29 => cA65
  | 30 => cA66
  | 31 => cA67
  | 32 => cA68
  | 34 => cA69
  | 35 => cA70
  | 36 => cA71
  | 37 => cA72
  | 38 => cA73
  | 40 => cA74
  | 41 => cA75
  | 42 => cA76
  | 43 => cA77
  | 44 => cA78
  | 46 => cA83
  | 47 => cA84
  | 48 => cA85
  | 49 => cA86
  | _ => cA45
set_option maxRecDepth 100000 in
set_option maxHeartbeats 4000000 in
theorem cv_C {D : va_G} {pre : va_W} {A : Nat → Prop} {H : Heap} {h0 q1 q2 q3 q4 q5 q6 q7 q8 q9 q10 q11 q12 q13 q14 q15 q16 q17 q18 q19 q20 q21 q22 q23 q24 q25 q26 q27 q28 q29 q30 q31 q32 q33 q34 q35 q36 q37 q38 q39 q40 q41 q42 q43 q44 q79 q80 q81 q82 q86 : Nat} {cA45 cA46 cA47 cA48 cA49 cA50 cA51 cA52 cA53 cA54 cA55 cA56 cA57 cA58 cA59 cA60 cA61 cA62 cA63 cA64 cA65 cA66 cA67 cA68 cA69 cA70 cA71 cA72 cA73 cA74 cA75 cA76 cA77 cA78 cA83 cA84 cA85 cA86 : ClassId} (hP : va_P D clA (pre ++ ((h0, .inr (0, [.ref q1, .ref q79, .ref q86, .int 0, .int 0, .int 0])) :: (q1, .inr (1, [.ref q2, .ref q3, .ref q5, .ref q7, .int 0, .int 0])) :: (q2, .inl (cA45, 6, .inr (.inr (.inr (.inr (va_up (va_up (va_up (va_up (va_up (va_up (fun _ => none) 0 (some q9)) 1 (some q15)) 2 (some q21)) 3 (some q27)) 4 (some q33)) 5 (some q39))))))) :: (q3, .inr (4, [.ref q4, .int (256 : Int32)])) :: (q4, .inl (cA46, 256, .inr (.inl (fun _ => 0)))) :: (q5, .inr (4, [.ref q6, .int (256 : Int32)])) :: (q6, .inl (cA47, 256, .inr (.inl (fun _ => 0)))) :: (q7, .inr (4, [.ref q8, .int (256 : Int32)])) :: (q8, .inl (cA48, 256, .inr (.inl (fun _ => 0)))) :: (q9, .inr (2, [.int ((1 : Int32) <<< (((8 : Int32) + (0 : Int32)) &&& 31)), .int 0, .int 0, .int 0, .int 0, .int 0, .int 0, .int 0, .int 0, .int 0, .int 0, .int 0, .ref q10, .ref q11, .int 0, .int 0, .ref q12, .ref q13, .ref q14])) :: (q10, .inl (cA49, 3, .inl (fun _ => 0))) :: (q11, .inl (cA50, 7, .inl (fun _ => 0))) :: (q12, .inl (cA51, 8, .inl (fun _ => 0))) :: (q13, .inl (cA52, 8, .inl (fun _ => 0))) :: (q14, .inl (cA53, 8, .inl (fun _ => 0))) :: (q15, .inr (2, [.int ((1 : Int32) <<< (((8 : Int32) + (1 : Int32)) &&& 31)), .int 0, .int 0, .int 0, .int 0, .int 0, .int 0, .int 0, .int 0, .int 0, .int 0, .int 0, .ref q16, .ref q17, .int 0, .int 0, .ref q18, .ref q19, .ref q20])) :: (q16, .inl (cA54, 3, .inl (fun _ => 0))) :: (q17, .inl (cA55, 7, .inl (fun _ => 0))) :: (q18, .inl (cA56, 8, .inl (fun _ => 0))) :: (q19, .inl (cA57, 8, .inl (fun _ => 0))) :: (q20, .inl (cA58, 8, .inl (fun _ => 0))) :: (q21, .inr (2, [.int ((1 : Int32) <<< (((8 : Int32) + (2 : Int32)) &&& 31)), .int 0, .int 0, .int 0, .int 0, .int 0, .int 0, .int 0, .int 0, .int 0, .int 0, .int 0, .ref q22, .ref q23, .int 0, .int 0, .ref q24, .ref q25, .ref q26])) :: (q22, .inl (cA59, 3, .inl (fun _ => 0))) :: (q23, .inl (cA60, 7, .inl (fun _ => 0))) :: (q24, .inl (cA61, 8, .inl (fun _ => 0))) :: (q25, .inl (cA62, 8, .inl (fun _ => 0))) :: (q26, .inl (cA63, 8, .inl (fun _ => 0))) :: (q27, .inr (2, [.int ((1 : Int32) <<< (((8 : Int32) + (3 : Int32)) &&& 31)), .int 0, .int 0, .int 0, .int 0, .int 0, .int 0, .int 0, .int 0, .int 0, .int 0, .int 0, .ref q28, .ref q29, .int 0, .int 0, .ref q30, .ref q31, .ref q32])) :: (q28, .inl (cA64, 3, .inl (fun _ => 0))) :: (q29, .inl (cA65, 7, .inl (fun _ => 0))) :: (q30, .inl (cA66, 8, .inl (fun _ => 0))) :: (q31, .inl (cA67, 8, .inl (fun _ => 0))) :: (q32, .inl (cA68, 8, .inl (fun _ => 0))) :: (q33, .inr (2, [.int ((1 : Int32) <<< (((8 : Int32) + (4 : Int32)) &&& 31)), .int 0, .int 0, .int 0, .int 0, .int 0, .int 0, .int 0, .int 0, .int 0, .int 0, .int 0, .ref q34, .ref q35, .int 0, .int 0, .ref q36, .ref q37, .ref q38])) :: (q34, .inl (cA69, 3, .inl (fun _ => 0))) :: (q35, .inl (cA70, 7, .inl (fun _ => 0))) :: (q36, .inl (cA71, 8, .inl (fun _ => 0))) :: (q37, .inl (cA72, 8, .inl (fun _ => 0))) :: (q38, .inl (cA73, 8, .inl (fun _ => 0))) :: (q39, .inr (2, [.int ((1 : Int32) <<< (((8 : Int32) + (5 : Int32)) &&& 31)), .int 0, .int 0, .int 0, .int 0, .int 0, .int 0, .int 0, .int 0, .int 0, .int 0, .int 0, .ref q40, .ref q41, .int 0, .int 0, .ref q42, .ref q43, .ref q44])) :: (q40, .inl (cA74, 3, .inl (fun _ => 0))) :: (q41, .inl (cA75, 7, .inl (fun _ => 0))) :: (q42, .inl (cA76, 8, .inl (fun _ => 0))) :: (q43, .inl (cA77, 8, .inl (fun _ => 0))) :: (q44, .inl (cA78, 8, .inl (fun _ => 0))) :: (q79, .inr (3, [.ref q80, .ref q81, .ref q82, .int 0])) :: (q80, .inl (cA83, 61, .inl (fun _ => 0))) :: (q81, .inl (cA84, 61, .inl (fun _ => 0))) :: (q82, .inl (cA85, 61, .inl (fun _ => 0))) :: (q86, .inl (cA86, 4, .inl (fun _ => 0))) :: [])) H) (hD : va_D A (pre ++ ((h0, .inr (0, [.ref q1, .ref q79, .ref q86, .int 0, .int 0, .int 0])) :: (q1, .inr (1, [.ref q2, .ref q3, .ref q5, .ref q7, .int 0, .int 0])) :: (q2, .inl (cA45, 6, .inr (.inr (.inr (.inr (va_up (va_up (va_up (va_up (va_up (va_up (fun _ => none) 0 (some q9)) 1 (some q15)) 2 (some q21)) 3 (some q27)) 4 (some q33)) 5 (some q39))))))) :: (q3, .inr (4, [.ref q4, .int (256 : Int32)])) :: (q4, .inl (cA46, 256, .inr (.inl (fun _ => 0)))) :: (q5, .inr (4, [.ref q6, .int (256 : Int32)])) :: (q6, .inl (cA47, 256, .inr (.inl (fun _ => 0)))) :: (q7, .inr (4, [.ref q8, .int (256 : Int32)])) :: (q8, .inl (cA48, 256, .inr (.inl (fun _ => 0)))) :: (q9, .inr (2, [.int ((1 : Int32) <<< (((8 : Int32) + (0 : Int32)) &&& 31)), .int 0, .int 0, .int 0, .int 0, .int 0, .int 0, .int 0, .int 0, .int 0, .int 0, .int 0, .ref q10, .ref q11, .int 0, .int 0, .ref q12, .ref q13, .ref q14])) :: (q10, .inl (cA49, 3, .inl (fun _ => 0))) :: (q11, .inl (cA50, 7, .inl (fun _ => 0))) :: (q12, .inl (cA51, 8, .inl (fun _ => 0))) :: (q13, .inl (cA52, 8, .inl (fun _ => 0))) :: (q14, .inl (cA53, 8, .inl (fun _ => 0))) :: (q15, .inr (2, [.int ((1 : Int32) <<< (((8 : Int32) + (1 : Int32)) &&& 31)), .int 0, .int 0, .int 0, .int 0, .int 0, .int 0, .int 0, .int 0, .int 0, .int 0, .int 0, .ref q16, .ref q17, .int 0, .int 0, .ref q18, .ref q19, .ref q20])) :: (q16, .inl (cA54, 3, .inl (fun _ => 0))) :: (q17, .inl (cA55, 7, .inl (fun _ => 0))) :: (q18, .inl (cA56, 8, .inl (fun _ => 0))) :: (q19, .inl (cA57, 8, .inl (fun _ => 0))) :: (q20, .inl (cA58, 8, .inl (fun _ => 0))) :: (q21, .inr (2, [.int ((1 : Int32) <<< (((8 : Int32) + (2 : Int32)) &&& 31)), .int 0, .int 0, .int 0, .int 0, .int 0, .int 0, .int 0, .int 0, .int 0, .int 0, .int 0, .ref q22, .ref q23, .int 0, .int 0, .ref q24, .ref q25, .ref q26])) :: (q22, .inl (cA59, 3, .inl (fun _ => 0))) :: (q23, .inl (cA60, 7, .inl (fun _ => 0))) :: (q24, .inl (cA61, 8, .inl (fun _ => 0))) :: (q25, .inl (cA62, 8, .inl (fun _ => 0))) :: (q26, .inl (cA63, 8, .inl (fun _ => 0))) :: (q27, .inr (2, [.int ((1 : Int32) <<< (((8 : Int32) + (3 : Int32)) &&& 31)), .int 0, .int 0, .int 0, .int 0, .int 0, .int 0, .int 0, .int 0, .int 0, .int 0, .int 0, .ref q28, .ref q29, .int 0, .int 0, .ref q30, .ref q31, .ref q32])) :: (q28, .inl (cA64, 3, .inl (fun _ => 0))) :: (q29, .inl (cA65, 7, .inl (fun _ => 0))) :: (q30, .inl (cA66, 8, .inl (fun _ => 0))) :: (q31, .inl (cA67, 8, .inl (fun _ => 0))) :: (q32, .inl (cA68, 8, .inl (fun _ => 0))) :: (q33, .inr (2, [.int ((1 : Int32) <<< (((8 : Int32) + (4 : Int32)) &&& 31)), .int 0, .int 0, .int 0, .int 0, .int 0, .int 0, .int 0, .int 0, .int 0, .int 0, .int 0, .ref q34, .ref q35, .int 0, .int 0, .ref q36, .ref q37, .ref q38])) :: (q34, .inl (cA69, 3, .inl (fun _ => 0))) :: (q35, .inl (cA70, 7, .inl (fun _ => 0))) :: (q36, .inl (cA71, 8, .inl (fun _ => 0))) :: (q37, .inl (cA72, 8, .inl (fun _ => 0))) :: (q38, .inl (cA73, 8, .inl (fun _ => 0))) :: (q39, .inr (2, [.int ((1 : Int32) <<< (((8 : Int32) + (5 : Int32)) &&& 31)), .int 0, .int 0, .int 0, .int 0, .int 0, .int 0, .int 0, .int 0, .int 0, .int 0, .int 0, .ref q40, .ref q41, .int 0, .int 0, .ref q42, .ref q43, .ref q44])) :: (q40, .inl (cA74, 3, .inl (fun _ => 0))) :: (q41, .inl (cA75, 7, .inl (fun _ => 0))) :: (q42, .inl (cA76, 8, .inl (fun _ => 0))) :: (q43, .inl (cA77, 8, .inl (fun _ => 0))) :: (q44, .inl (cA78, 8, .inl (fun _ => 0))) :: (q79, .inr (3, [.ref q80, .ref q81, .ref q82, .int 0])) :: (q80, .inl (cA83, 61, .inl (fun _ => 0))) :: (q81, .inl (cA84, 61, .inl (fun _ => 0))) :: (q82, .inl (cA85, 61, .inl (fun _ => 0))) :: (q86, .inl (cA86, 4, .inl (fun _ => 0))) :: []))) : va_P D clA (pre ++ ly_W layC (adC h0 q1 q2 q3 q4 q5 q6 q7 q8 q9 q10 q11 q12 q13 q14 q15 q16 q17 q18 q19 q20 q21 q22 q23 q24 q25 q26 q27 q28 q29 q30 q31 q32 q33 q34 q35 q36 q37 q38 q39 q40 q41 q42 q43 q44 q79 q80 q81 q82 q86) (caC cA45 cA46 cA47 cA48 cA49 cA50 cA51 cA52 cA53 cA54 cA55 cA56 cA57 cA58 cA59 cA60 cA61 cA62 cA63 cA64 cA65 cA66 cA67 cA68 cA69 cA70 cA71 cA72 cA73 cA74 cA75 cA76 cA77 cA78 cA83 cA84 cA85 cA86) uC0) H ∧ va_D A (pre ++ ly_W layC (adC h0 q1 q2 q3 q4 q5 q6 q7 q8 q9 q10 q11 q12 q13 q14 q15 q16 q17 q18 q19 q20 q21 q22 q23 q24 q25 q26 q27 q28 q29 q30 q31 q32 q33 q34 q35 q36 q37 q38 q39 q40 q41 q42 q43 q44 q79 q80 q81 q82 q86) (caC cA45 cA46 cA47 cA48 cA49 cA50 cA51 cA52 cA53 cA54 cA55 cA56 cA57 cA58 cA59 cA60 cA61 cA62 cA63 cA64 cA65 cA66 cA67 cA68 cA69 cA70 cA71 cA72 cA73 cA74 cA75 cA76 cA77 cA78 cA83 cA84 cA85 cA86) uC0) := by
  refine cv_by2 hP hD (fun k e he => ?_)
  exact (match k, he with
    | 0, he => (Option.some.inj he) ▸ ⟨_, rfl, rfl, fun h => cv_o h⟩
    | 1, he => (Option.some.inj he) ▸ ⟨_, rfl, rfl, fun h => cv_o h⟩
    | 2, he => (Option.some.inj he) ▸ ⟨_, rfl, rfl, fun h => cv_q rfl rfl (fun j hj => (match j, hj with | 0, _ => rfl | 1, _ => rfl | 2, _ => rfl | 3, _ => rfl | 4, _ => rfl | 5, _ => rfl)) h⟩
    | 3, he => (Option.some.inj he) ▸ ⟨_, rfl, rfl, fun h => cv_o h⟩
    | 4, he => (Option.some.inj he) ▸ ⟨_, rfl, rfl, fun h => h⟩
    | 5, he => (Option.some.inj he) ▸ ⟨_, rfl, rfl, fun h => cv_o h⟩
    | 6, he => (Option.some.inj he) ▸ ⟨_, rfl, rfl, fun h => h⟩
    | 7, he => (Option.some.inj he) ▸ ⟨_, rfl, rfl, fun h => cv_o h⟩
    | 8, he => (Option.some.inj he) ▸ ⟨_, rfl, rfl, fun h => h⟩
    | 9, he => (Option.some.inj he) ▸ ⟨_, rfl, rfl, fun h => cv_o h⟩
    | 10, he => (Option.some.inj he) ▸ ⟨_, rfl, rfl, fun h => h⟩
    | 11, he => (Option.some.inj he) ▸ ⟨_, rfl, rfl, fun h => h⟩
    | 12, he => (Option.some.inj he) ▸ ⟨_, rfl, rfl, fun h => h⟩
    | 13, he => (Option.some.inj he) ▸ ⟨_, rfl, rfl, fun h => h⟩
    | 14, he => (Option.some.inj he) ▸ ⟨_, rfl, rfl, fun h => h⟩
    | 15, he => (Option.some.inj he) ▸ ⟨_, rfl, rfl, fun h => cv_o h⟩
    | 16, he => (Option.some.inj he) ▸ ⟨_, rfl, rfl, fun h => h⟩
    | 17, he => (Option.some.inj he) ▸ ⟨_, rfl, rfl, fun h => h⟩
    | 18, he => (Option.some.inj he) ▸ ⟨_, rfl, rfl, fun h => h⟩
    | 19, he => (Option.some.inj he) ▸ ⟨_, rfl, rfl, fun h => h⟩
    | 20, he => (Option.some.inj he) ▸ ⟨_, rfl, rfl, fun h => h⟩
    | 21, he => (Option.some.inj he) ▸ ⟨_, rfl, rfl, fun h => cv_o h⟩
    | 22, he => (Option.some.inj he) ▸ ⟨_, rfl, rfl, fun h => h⟩
    | 23, he => (Option.some.inj he) ▸ ⟨_, rfl, rfl, fun h => h⟩
    | 24, he => (Option.some.inj he) ▸ ⟨_, rfl, rfl, fun h => h⟩
    | 25, he => (Option.some.inj he) ▸ ⟨_, rfl, rfl, fun h => h⟩
    | 26, he => (Option.some.inj he) ▸ ⟨_, rfl, rfl, fun h => h⟩
    | 27, he => (Option.some.inj he) ▸ ⟨_, rfl, rfl, fun h => cv_o h⟩
    | 28, he => (Option.some.inj he) ▸ ⟨_, rfl, rfl, fun h => h⟩
    | 29, he => (Option.some.inj he) ▸ ⟨_, rfl, rfl, fun h => h⟩
    | 30, he => (Option.some.inj he) ▸ ⟨_, rfl, rfl, fun h => h⟩
    | 31, he => (Option.some.inj he) ▸ ⟨_, rfl, rfl, fun h => h⟩
    | 32, he => (Option.some.inj he) ▸ ⟨_, rfl, rfl, fun h => h⟩
    | 33, he => (Option.some.inj he) ▸ ⟨_, rfl, rfl, fun h => cv_o h⟩
    | 34, he => (Option.some.inj he) ▸ ⟨_, rfl, rfl, fun h => h⟩
    | 35, he => (Option.some.inj he) ▸ ⟨_, rfl, rfl, fun h => h⟩
    | 36, he => (Option.some.inj he) ▸ ⟨_, rfl, rfl, fun h => h⟩
    | 37, he => (Option.some.inj he) ▸ ⟨_, rfl, rfl, fun h => h⟩
    | 38, he => (Option.some.inj he) ▸ ⟨_, rfl, rfl, fun h => h⟩
    | 39, he => (Option.some.inj he) ▸ ⟨_, rfl, rfl, fun h => cv_o h⟩
    | 40, he => (Option.some.inj he) ▸ ⟨_, rfl, rfl, fun h => h⟩
    | 41, he => (Option.some.inj he) ▸ ⟨_, rfl, rfl, fun h => h⟩
    | 42, he => (Option.some.inj he) ▸ ⟨_, rfl, rfl, fun h => h⟩
    | 43, he => (Option.some.inj he) ▸ ⟨_, rfl, rfl, fun h => h⟩
    | 44, he => (Option.some.inj he) ▸ ⟨_, rfl, rfl, fun h => h⟩
    | 45, he => (Option.some.inj he) ▸ ⟨_, rfl, rfl, fun h => cv_o h⟩
    | 46, he => (Option.some.inj he) ▸ ⟨_, rfl, rfl, fun h => h⟩
    | 47, he => (Option.some.inj he) ▸ ⟨_, rfl, rfl, fun h => h⟩
    | 48, he => (Option.some.inj he) ▸ ⟨_, rfl, rfl, fun h => h⟩
    | 49, he => (Option.some.inj he) ▸ ⟨_, rfl, rfl, fun h => h⟩
    | n + 50, he => nomatch he)
set_option maxRecDepth 100000 in
set_option maxHeartbeats 4000000 in
theorem ck_C {D : va_G} {s : State} {cA45 cA46 cA47 cA48 cA49 cA50 cA51 cA52 cA53 cA54 cA55 cA56 cA57 cA58 cA59 cA60 cA61 cA62 cA63 cA64 cA65 cA66 cA67 cA68 cA69 cA70 cA71 cA72 cA73 cA74 cA75 cA76 cA77 cA78 cA83 cA84 cA85 cA86 : ClassId} (hK : va_K D clA ((cA45, (.object "CaseNet$Task")) :: (cA46, .long) :: (cA47, .long) :: (cA48, .long) :: (cA49, .int) :: (cA50, .int) :: (cA51, .int) :: (cA52, .int) :: (cA53, .int) :: (cA54, .int) :: (cA55, .int) :: (cA56, .int) :: (cA57, .int) :: (cA58, .int) :: (cA59, .int) :: (cA60, .int) :: (cA61, .int) :: (cA62, .int) :: (cA63, .int) :: (cA64, .int) :: (cA65, .int) :: (cA66, .int) :: (cA67, .int) :: (cA68, .int) :: (cA69, .int) :: (cA70, .int) :: (cA71, .int) :: (cA72, .int) :: (cA73, .int) :: (cA74, .int) :: (cA75, .int) :: (cA76, .int) :: (cA77, .int) :: (cA78, .int) :: (cA83, .int) :: (cA84, .int) :: (cA85, .int) :: (cA86, .int) :: []) s) : ly_K D clA layC (caC cA45 cA46 cA47 cA48 cA49 cA50 cA51 cA52 cA53 cA54 cA55 cA56 cA57 cA58 cA59 cA60 cA61 cA62 cA63 cA64 cA65 cA66 cA67 cA68 cA69 cA70 cA71 cA72 cA73 cA74 cA75 cA76 cA77 cA78 cA83 cA84 cA85 cA86) s := by
  refine ⟨hK.sub (tys' := []) [] rfl, fun k ty h => ?_⟩
  exact (match k, h with
    | 0, h => nomatch h
    | 1, h => nomatch h
    | 2, h => (Option.some.inj h) ▸ hK.sub [0] rfl
    | 3, h => nomatch h
    | 4, h => (Option.some.inj h) ▸ hK.sub [1] rfl
    | 5, h => nomatch h
    | 6, h => (Option.some.inj h) ▸ hK.sub [2] rfl
    | 7, h => nomatch h
    | 8, h => (Option.some.inj h) ▸ hK.sub [3] rfl
    | 9, h => nomatch h
    | 10, h => (Option.some.inj h) ▸ hK.sub [4] rfl
    | 11, h => (Option.some.inj h) ▸ hK.sub [5] rfl
    | 12, h => (Option.some.inj h) ▸ hK.sub [6] rfl
    | 13, h => (Option.some.inj h) ▸ hK.sub [7] rfl
    | 14, h => (Option.some.inj h) ▸ hK.sub [8] rfl
    | 15, h => nomatch h
    | 16, h => (Option.some.inj h) ▸ hK.sub [9] rfl
    | 17, h => (Option.some.inj h) ▸ hK.sub [10] rfl
    | 18, h => (Option.some.inj h) ▸ hK.sub [11] rfl
    | 19, h => (Option.some.inj h) ▸ hK.sub [12] rfl
    | 20, h => (Option.some.inj h) ▸ hK.sub [13] rfl
    | 21, h => nomatch h
    | 22, h => (Option.some.inj h) ▸ hK.sub [14] rfl
    | 23, h => (Option.some.inj h) ▸ hK.sub [15] rfl
    | 24, h => (Option.some.inj h) ▸ hK.sub [16] rfl
    | 25, h => (Option.some.inj h) ▸ hK.sub [17] rfl
    | 26, h => (Option.some.inj h) ▸ hK.sub [18] rfl
    | 27, h => nomatch h
    | 28, h => (Option.some.inj h) ▸ hK.sub [19] rfl
    | 29, h => (Option.some.inj h) ▸ hK.sub [20] rfl
    | 30, h => (Option.some.inj h) ▸ hK.sub [21] rfl
    | 31, h => (Option.some.inj h) ▸ hK.sub [22] rfl
    | 32, h => (Option.some.inj h) ▸ hK.sub [23] rfl
    | 33, h => nomatch h
    | 34, h => (Option.some.inj h) ▸ hK.sub [24] rfl
    | 35, h => (Option.some.inj h) ▸ hK.sub [25] rfl
    | 36, h => (Option.some.inj h) ▸ hK.sub [26] rfl
    | 37, h => (Option.some.inj h) ▸ hK.sub [27] rfl
    | 38, h => (Option.some.inj h) ▸ hK.sub [28] rfl
    | 39, h => nomatch h
    | 40, h => (Option.some.inj h) ▸ hK.sub [29] rfl
    | 41, h => (Option.some.inj h) ▸ hK.sub [30] rfl
    | 42, h => (Option.some.inj h) ▸ hK.sub [31] rfl
    | 43, h => (Option.some.inj h) ▸ hK.sub [32] rfl
    | 44, h => (Option.some.inj h) ▸ hK.sub [33] rfl
    | 45, h => nomatch h
    | 46, h => (Option.some.inj h) ▸ hK.sub [34] rfl
    | 47, h => (Option.some.inj h) ▸ hK.sub [35] rfl
    | 48, h => (Option.some.inj h) ▸ hK.sub [36] rfl
    | 49, h => (Option.some.inj h) ▸ hK.sub [37] rfl
    | n + 50, h => nomatch h)
def adM (h0 q1 q2 q3 q4 q5 q6 q7 q8 q9 q10 q11 q12 q13 q14 q15 q16 q17 q18 q19 q20 q21 q22 q23 : Nat) : Nat → Nat := fun k => match k with
  | 0 => h0
  | 1 => q1
  | 2 => q2
  | 3 => q3
  | 4 => q4
  | 5 => q5
  | 6 => q6
  | 7 => q7
  | 8 => q8
  | 9 => q9
  | 10 => q10
  | 11 => q11
  | 12 => q12
  | 13 => q13
  | 14 => q14
  | 15 => q15
  | 16 => q16
  | 17 => q17
  | 18 => q18
  | 19 => q19
  | 20 => q20
  | 21 => q21
  | 22 => q22
  | _ => q23
def caM (cA1 cA2 cA3 cA4 cA5 cA6 cA7 cA8 cA9 cA10 cA11 cA12 cA13 cA14 cA15 cA16 cA17 cA18 cA19 cA20 cA21 cA22 cA23 : ClassId) : Nat → ClassId := fun k => match k with
  | 1 => cA1
  | 2 => cA2
  | 3 => cA3
  | 4 => cA4
  | 5 => cA5
  | 6 => cA6
  | 7 => cA7
  | 8 => cA8
  | 9 => cA9
  | 10 => cA10
  | 11 => cA11
  | 12 => cA12
  | 13 => cA13
  | 14 => cA14
  | 15 => cA15
  | 16 => cA16
  | 17 => cA17
  | 18 => cA18
  | 19 => cA19
  | 20 => cA20
  | 21 => cA21
  | 22 => cA22
  | 23 => cA23
  | _ => cA1
set_option maxRecDepth 100000 in
set_option maxHeartbeats 4000000 in
theorem cv_M {D : va_G} {pre : va_W} {A : Nat → Prop} {H : Heap} {h0 q1 q2 q3 q4 q5 q6 q7 q8 q9 q10 q11 q12 q13 q14 q15 q16 q17 q18 q19 q20 q21 q22 q23 : Nat} {cA1 cA2 cA3 cA4 cA5 cA6 cA7 cA8 cA9 cA10 cA11 cA12 cA13 cA14 cA15 cA16 cA17 cA18 cA19 cA20 cA21 cA22 cA23 : ClassId} (hP : va_P D clA (pre ++ ((h0, .inr (5, [.ref q1, .ref q2, .ref q3, .ref q4, .ref q5, .ref q6, .ref q7, .ref q8, .ref q9, .ref q10, .ref q11, .ref q12, .ref q13, .ref q14, .ref q15, .int 0, .int 0, .int 0, .ref q16, .int 0, .ref q17, .ref q18, .ref q19, .ref q20, .ref q21, .ref q22, .int 0, .ref q23])) :: (q1, .inl (cA1, 6, .inl (fun _ => 0))) :: (q2, .inl (cA2, 6, .inl (fun _ => 0))) :: (q3, .inl (cA3, 6, .inl (fun _ => 0))) :: (q4, .inl (cA4, 6, .inl (fun _ => 0))) :: (q5, .inl (cA5, 6, .inl (fun _ => 0))) :: (q6, .inl (cA6, 18, .inl (fun _ => 0))) :: (q7, .inl (cA7, 18, .inl (fun _ => 0))) :: (q8, .inl (cA8, 6, .inl (fun _ => 0))) :: (q9, .inl (cA9, 48, .inl (fun _ => 0))) :: (q10, .inl (cA10, 48, .inl (fun _ => 0))) :: (q11, .inl (cA11, 48, .inl (fun _ => 0))) :: (q12, .inl (cA12, 6, .inl (fun _ => 0))) :: (q13, .inl (cA13, 6, .inl (fun _ => 0))) :: (q14, .inl (cA14, 6, .inl (fun _ => 0))) :: (q15, .inl (cA15, 6, .inl (fun _ => 0))) :: (q16, .inl (cA16, 4, .inl (fun _ => 0))) :: (q17, .inl (cA17, 61, .inl (fun _ => 0))) :: (q18, .inl (cA18, 61, .inl (fun _ => 0))) :: (q19, .inl (cA19, 61, .inl (fun _ => 0))) :: (q20, .inl (cA20, 6, .inl (fun _ => 0))) :: (q21, .inl (cA21, 256, .inr (.inl (fun _ => 0)))) :: (q22, .inl (cA22, 16384, .inl (fun _ => 0))) :: (q23, .inl (cA23, 256, .inr (.inl (fun _ => 0)))) :: [])) H) (hD : va_D A (pre ++ ((h0, .inr (5, [.ref q1, .ref q2, .ref q3, .ref q4, .ref q5, .ref q6, .ref q7, .ref q8, .ref q9, .ref q10, .ref q11, .ref q12, .ref q13, .ref q14, .ref q15, .int 0, .int 0, .int 0, .ref q16, .int 0, .ref q17, .ref q18, .ref q19, .ref q20, .ref q21, .ref q22, .int 0, .ref q23])) :: (q1, .inl (cA1, 6, .inl (fun _ => 0))) :: (q2, .inl (cA2, 6, .inl (fun _ => 0))) :: (q3, .inl (cA3, 6, .inl (fun _ => 0))) :: (q4, .inl (cA4, 6, .inl (fun _ => 0))) :: (q5, .inl (cA5, 6, .inl (fun _ => 0))) :: (q6, .inl (cA6, 18, .inl (fun _ => 0))) :: (q7, .inl (cA7, 18, .inl (fun _ => 0))) :: (q8, .inl (cA8, 6, .inl (fun _ => 0))) :: (q9, .inl (cA9, 48, .inl (fun _ => 0))) :: (q10, .inl (cA10, 48, .inl (fun _ => 0))) :: (q11, .inl (cA11, 48, .inl (fun _ => 0))) :: (q12, .inl (cA12, 6, .inl (fun _ => 0))) :: (q13, .inl (cA13, 6, .inl (fun _ => 0))) :: (q14, .inl (cA14, 6, .inl (fun _ => 0))) :: (q15, .inl (cA15, 6, .inl (fun _ => 0))) :: (q16, .inl (cA16, 4, .inl (fun _ => 0))) :: (q17, .inl (cA17, 61, .inl (fun _ => 0))) :: (q18, .inl (cA18, 61, .inl (fun _ => 0))) :: (q19, .inl (cA19, 61, .inl (fun _ => 0))) :: (q20, .inl (cA20, 6, .inl (fun _ => 0))) :: (q21, .inl (cA21, 256, .inr (.inl (fun _ => 0)))) :: (q22, .inl (cA22, 16384, .inl (fun _ => 0))) :: (q23, .inl (cA23, 256, .inr (.inl (fun _ => 0)))) :: []))) : va_P D clA (pre ++ ly_W layM (adM h0 q1 q2 q3 q4 q5 q6 q7 q8 q9 q10 q11 q12 q13 q14 q15 q16 q17 q18 q19 q20 q21 q22 q23) (caM cA1 cA2 cA3 cA4 cA5 cA6 cA7 cA8 cA9 cA10 cA11 cA12 cA13 cA14 cA15 cA16 cA17 cA18 cA19 cA20 cA21 cA22 cA23) uM0) H ∧ va_D A (pre ++ ly_W layM (adM h0 q1 q2 q3 q4 q5 q6 q7 q8 q9 q10 q11 q12 q13 q14 q15 q16 q17 q18 q19 q20 q21 q22 q23) (caM cA1 cA2 cA3 cA4 cA5 cA6 cA7 cA8 cA9 cA10 cA11 cA12 cA13 cA14 cA15 cA16 cA17 cA18 cA19 cA20 cA21 cA22 cA23) uM0) := by
  refine cv_by2 hP hD (fun k e he => ?_)
  exact (match k, he with
    | 0, he => (Option.some.inj he) ▸ ⟨_, rfl, rfl, fun h => cv_o h⟩
    | 1, he => (Option.some.inj he) ▸ ⟨_, rfl, rfl, fun h => h⟩
    | 2, he => (Option.some.inj he) ▸ ⟨_, rfl, rfl, fun h => h⟩
    | 3, he => (Option.some.inj he) ▸ ⟨_, rfl, rfl, fun h => h⟩
    | 4, he => (Option.some.inj he) ▸ ⟨_, rfl, rfl, fun h => h⟩
    | 5, he => (Option.some.inj he) ▸ ⟨_, rfl, rfl, fun h => h⟩
    | 6, he => (Option.some.inj he) ▸ ⟨_, rfl, rfl, fun h => h⟩
    | 7, he => (Option.some.inj he) ▸ ⟨_, rfl, rfl, fun h => h⟩
    | 8, he => (Option.some.inj he) ▸ ⟨_, rfl, rfl, fun h => h⟩
    | 9, he => (Option.some.inj he) ▸ ⟨_, rfl, rfl, fun h => h⟩
    | 10, he => (Option.some.inj he) ▸ ⟨_, rfl, rfl, fun h => h⟩
    | 11, he => (Option.some.inj he) ▸ ⟨_, rfl, rfl, fun h => h⟩
    | 12, he => (Option.some.inj he) ▸ ⟨_, rfl, rfl, fun h => h⟩
    | 13, he => (Option.some.inj he) ▸ ⟨_, rfl, rfl, fun h => h⟩
    | 14, he => (Option.some.inj he) ▸ ⟨_, rfl, rfl, fun h => h⟩
    | 15, he => (Option.some.inj he) ▸ ⟨_, rfl, rfl, fun h => h⟩
    | 16, he => (Option.some.inj he) ▸ ⟨_, rfl, rfl, fun h => h⟩
    | 17, he => (Option.some.inj he) ▸ ⟨_, rfl, rfl, fun h => h⟩
    | 18, he => (Option.some.inj he) ▸ ⟨_, rfl, rfl, fun h => h⟩
    | 19, he => (Option.some.inj he) ▸ ⟨_, rfl, rfl, fun h => h⟩
    | 20, he => (Option.some.inj he) ▸ ⟨_, rfl, rfl, fun h => h⟩
    | 21, he => (Option.some.inj he) ▸ ⟨_, rfl, rfl, fun h => h⟩
    | 22, he => (Option.some.inj he) ▸ ⟨_, rfl, rfl, fun h => h⟩
    | 23, he => (Option.some.inj he) ▸ ⟨_, rfl, rfl, fun h => h⟩
    | n + 24, he => nomatch he)
set_option maxRecDepth 100000 in
set_option maxHeartbeats 4000000 in
theorem ck_M {D : va_G} {s : State} {cA1 cA2 cA3 cA4 cA5 cA6 cA7 cA8 cA9 cA10 cA11 cA12 cA13 cA14 cA15 cA16 cA17 cA18 cA19 cA20 cA21 cA22 cA23 : ClassId} (hK : va_K D clA ((cA1, .boolean) :: (cA2, .int) :: (cA3, .int) :: (cA4, .int) :: (cA5, .int) :: (cA6, .int) :: (cA7, .int) :: (cA8, .int) :: (cA9, .int) :: (cA10, .int) :: (cA11, .int) :: (cA12, .int) :: (cA13, .int) :: (cA14, .int) :: (cA15, .int) :: (cA16, .int) :: (cA17, .int) :: (cA18, .int) :: (cA19, .int) :: (cA20, .int) :: (cA21, .long) :: (cA22, .int) :: (cA23, .long) :: []) s) : ly_K D clA layM (caM cA1 cA2 cA3 cA4 cA5 cA6 cA7 cA8 cA9 cA10 cA11 cA12 cA13 cA14 cA15 cA16 cA17 cA18 cA19 cA20 cA21 cA22 cA23) s := by
  refine ⟨hK.sub (tys' := []) [] rfl, fun k ty h => ?_⟩
  exact (match k, h with
    | 0, h => nomatch h
    | 1, h => (Option.some.inj h) ▸ hK.sub [0] rfl
    | 2, h => (Option.some.inj h) ▸ hK.sub [1] rfl
    | 3, h => (Option.some.inj h) ▸ hK.sub [2] rfl
    | 4, h => (Option.some.inj h) ▸ hK.sub [3] rfl
    | 5, h => (Option.some.inj h) ▸ hK.sub [4] rfl
    | 6, h => (Option.some.inj h) ▸ hK.sub [5] rfl
    | 7, h => (Option.some.inj h) ▸ hK.sub [6] rfl
    | 8, h => (Option.some.inj h) ▸ hK.sub [7] rfl
    | 9, h => (Option.some.inj h) ▸ hK.sub [8] rfl
    | 10, h => (Option.some.inj h) ▸ hK.sub [9] rfl
    | 11, h => (Option.some.inj h) ▸ hK.sub [10] rfl
    | 12, h => (Option.some.inj h) ▸ hK.sub [11] rfl
    | 13, h => (Option.some.inj h) ▸ hK.sub [12] rfl
    | 14, h => (Option.some.inj h) ▸ hK.sub [13] rfl
    | 15, h => (Option.some.inj h) ▸ hK.sub [14] rfl
    | 16, h => (Option.some.inj h) ▸ hK.sub [15] rfl
    | 17, h => (Option.some.inj h) ▸ hK.sub [16] rfl
    | 18, h => (Option.some.inj h) ▸ hK.sub [17] rfl
    | 19, h => (Option.some.inj h) ▸ hK.sub [18] rfl
    | 20, h => (Option.some.inj h) ▸ hK.sub [19] rfl
    | 21, h => (Option.some.inj h) ▸ hK.sub [20] rfl
    | 22, h => (Option.some.inj h) ▸ hK.sub [21] rfl
    | 23, h => (Option.some.inj h) ▸ hK.sub [22] rfl
    | n + 24, h => nomatch h)
