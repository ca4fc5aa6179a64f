/-! Steps -/
abbrev b_Steps_clear : ByteArray := prog_5_method_2_code
def y_Steps_clear : MethodName := ⟨R_Steps, "clear", "()V"⟩
abbrev b_Steps_add : ByteArray := prog_5_method_3_code
def y_Steps_add : MethodName := ⟨R_Steps, "add", "(III)V"⟩
abbrev b_Steps_endExpression : ByteArray := prog_5_method_4_code
def y_Steps_endExpression : MethodName := ⟨R_Steps, "endExpression", "(C)V"⟩
abbrev b_Text_clear : ByteArray := prog_6_method_2_code
def y_Text_clear : MethodName := ⟨R_Text, "clear", "()V"⟩
abbrev b_Text_openCell : ByteArray := prog_6_method_4_code
def y_Text_openCell : MethodName := ⟨R_Text, "openCell", "()I"⟩
abbrev b_Text_mentionCell : ByteArray := prog_6_method_6_code
def y_Text_mentionCell : MethodName := ⟨R_Text, "mentionCell", "(I)V"⟩
theorem fl_Steps_21 : Cond.fieldLink "PartFormulas$Steps" 21 "PartFormulas$Steps" "count" "I" ∈ wsAll := wa_of 127 (by decide +kernel) (by decide +kernel)
theorem fl_Steps_32 : Cond.fieldLink "PartFormulas$Steps" 32 "PartFormulas$Steps" "expressions" "I" ∈ wsAll := wa_of 132 (by decide +kernel) (by decide +kernel)
theorem fl_Steps_25 : Cond.fieldLink "PartFormulas$Steps" 25 "PartFormulas$Steps" "start" "[I" ∈ wsAll := wa_of 128 (by decide +kernel) (by decide +kernel)
theorem fl_Steps_9 : Cond.fieldLink "PartFormulas$Steps" 9 "PartFormulas$Steps" "kind" "[I" ∈ wsAll := wa_of 121 (by decide +kernel) (by decide +kernel)
theorem fl_Steps_15 : Cond.fieldLink "PartFormulas$Steps" 15 "PartFormulas$Steps" "first" "[I" ∈ wsAll := wa_of 123 (by decide +kernel) (by decide +kernel)
theorem fl_Steps_18 : Cond.fieldLink "PartFormulas$Steps" 18 "PartFormulas$Steps" "second" "[I" ∈ wsAll := wa_of 125 (by decide +kernel) (by decide +kernel)
theorem fl_Steps_28 : Cond.fieldLink "PartFormulas$Steps" 28 "PartFormulas$Steps" "signBehind" "[C" ∈ wsAll := wa_of 130 (by decide +kernel) (by decide +kernel)
theorem fl_Text_15 : Cond.fieldLink "PartFormulas$Text" 15 "PartFormulas$Text" "printedLength" "I" ∈ wsAll := wa_of 156 (by decide +kernel) (by decide +kernel)
theorem fl_Text_22 : Cond.fieldLink "PartFormulas$Text" 22 "PartFormulas$Text" "steps" "LPartFormulas$Steps;" ∈ wsAll := wa_of 159 (by decide +kernel) (by decide +kernel)
theorem cd_Steps_clear : Cond.code ⟨"PartFormulas$Steps", "clear", "()V"⟩ prog_5_method_2_code 1 (none : Option Jvm.ClassFile.FieldType) ∈ wsAll := wa_of 356 (by decide +kernel) (by decide +kernel)
theorem ml_Text_55 : Cond.methodLink "PartFormulas$Text" 55 ⟨"PartFormulas$Steps", "clear", "()V"⟩ ∈ wsAll := wa_of 353 (by decide +kernel) (by decide +kernel)
theorem im_Steps_clear : Cond.instanceMethod ⟨"PartFormulas$Steps", "clear", "()V"⟩ ∈ wsAll := wa_of 354 (by decide +kernel) (by decide +kernel)
theorem se_Steps_clear : Cond.selects "PartFormulas$Steps" ⟨"PartFormulas$Steps", "clear", "()V"⟩ ⟨"PartFormulas$Steps", "clear", "()V"⟩ ∈ wsAll := wa_of 355 (by decide +kernel) (by decide +kernel)
theorem ini_Steps : Cond.initialized "PartFormulas$Steps" ∈ wsAll := wa_of 77 (by decide +kernel) (by decide +kernel)
theorem fl_Text_26 : Cond.fieldLink "PartFormulas$Text" 26 "PartFormulas$Text" "statements" "I" ∈ wsAll := wa_of 162 (by decide +kernel) (by decide +kernel)
theorem fl_Text_52 : Cond.fieldLink "PartFormulas$Text" 52 "PartFormulas$Text" "orderLength" "I" ∈ wsAll := wa_of 180 (by decide +kernel) (by decide +kernel)
theorem fl_Text_39 : Cond.fieldLink "PartFormulas$Text" 39 "PartFormulas$Text" "definedBy" "[I" ∈ wsAll := wa_of 173 (by decide +kernel) (by decide +kernel)
theorem fl_Text_42 : Cond.fieldLink "PartFormulas$Text" 42 "PartFormulas$Text" "needed" "[J" ∈ wsAll := wa_of 176 (by decide +kernel) (by decide +kernel)
theorem fl_Text_46 : Cond.fieldLink "PartFormulas$Text" 46 "PartFormulas$Text" "letters" "[I" ∈ wsAll := wa_of 177 (by decide +kernel) (by decide +kernel)
theorem fl_Text_29 : Cond.fieldLink "PartFormulas$Text" 29 "PartFormulas$Text" "cellOf" "[I" ∈ wsAll := wa_of 166 (by decide +kernel) (by decide +kernel)
theorem cd_Steps_add : Cond.code ⟨"PartFormulas$Steps", "add", "(III)V"⟩ prog_5_method_3_code 4 (none : Option Jvm.ClassFile.FieldType) ∈ wsAll := wa_of 408 (by decide +kernel) (by decide +kernel)
theorem ml_Text_61 : Cond.methodLink "PartFormulas$Text" 61 ⟨"PartFormulas$Steps", "add", "(III)V"⟩ ∈ wsAll := wa_of 413 (by decide +kernel) (by decide +kernel)
theorem im_Steps_add : Cond.instanceMethod ⟨"PartFormulas$Steps", "add", "(III)V"⟩ ∈ wsAll := wa_of 406 (by decide +kernel) (by decide +kernel)
theorem se_Steps_add : Cond.selects "PartFormulas$Steps" ⟨"PartFormulas$Steps", "add", "(III)V"⟩ ⟨"PartFormulas$Steps", "add", "(III)V"⟩ ∈ wsAll := wa_of 407 (by decide +kernel) (by decide +kernel)
theorem cd_Text_openCell : Cond.code ⟨"PartFormulas$Text", "openCell", "()I"⟩ prog_6_method_4_code 1 (some .int) ∈ wsAll := wa_of 417 (by decide +kernel) (by decide +kernel)
theorem ml_Text_65 : Cond.methodLink "PartFormulas$Text" 65 ⟨"PartFormulas$Text", "openCell", "()I"⟩ ∈ wsAll := wa_of 414 (by decide +kernel) (by decide +kernel)
theorem im_Text_openCell : Cond.instanceMethod ⟨"PartFormulas$Text", "openCell", "()I"⟩ ∈ wsAll := wa_of 415 (by decide +kernel) (by decide +kernel)
theorem se_Text_openCell : Cond.selects "PartFormulas$Text" ⟨"PartFormulas$Text", "openCell", "()I"⟩ ⟨"PartFormulas$Text", "openCell", "()I"⟩ ∈ wsAll := wa_of 416 (by decide +kernel) (by decide +kernel)
theorem ini_Text : Cond.initialized "PartFormulas$Text" ∈ wsAll := wa_of 76 (by decide +kernel) (by decide +kernel)
theorem d_Steps_add_0 : decode b_Steps_add 0 = .ok (.aload_n 0, 1) := by decide +kernel
theorem d_Steps_add_1 : decode b_Steps_add 1 = .ok (.getfield 21, 3) := by decide +kernel
theorem d_Steps_add_4 : decode b_Steps_add 4 = .ok (.sipush 400, 3) := by decide +kernel
theorem d_Steps_add_7 : decode b_Steps_add 7 = .ok (.if_icmp .ge 43, 3) := by decide +kernel
theorem d_Steps_add_10 : decode b_Steps_add 10 = .ok (.aload_n 0, 1) := by decide +kernel
theorem d_Steps_add_11 : decode b_Steps_add 11 = .ok (.getfield 9, 3) := by decide +kernel
theorem d_Steps_add_14 : decode b_Steps_add 14 = .ok (.aload_n 0, 1) := by decide +kernel
theorem d_Steps_add_15 : decode b_Steps_add 15 = .ok (.getfield 21, 3) := by decide +kernel
theorem d_Steps_add_18 : decode b_Steps_add 18 = .ok (.iload_n 1, 1) := by decide +kernel
theorem d_Steps_add_19 : decode b_Steps_add 19 = .ok (.iastore, 1) := by decide +kernel
theorem d_Steps_add_20 : decode b_Steps_add 20 = .ok (.aload_n 0, 1) := by decide +kernel
theorem d_Steps_add_21 : decode b_Steps_add 21 = .ok (.getfield 15, 3) := by decide +kernel
theorem d_Steps_add_24 : decode b_Steps_add 24 = .ok (.aload_n 0, 1) := by decide +kernel
theorem d_Steps_add_25 : decode b_Steps_add 25 = .ok (.getfield 21, 3) := by decide +kernel
theorem d_Steps_add_28 : decode b_Steps_add 28 = .ok (.iload_n 2, 1) := by decide +kernel
theorem d_Steps_add_29 : decode b_Steps_add 29 = .ok (.iastore, 1) := by decide +kernel
theorem d_Steps_add_30 : decode b_Steps_add 30 = .ok (.aload_n 0, 1) := by decide +kernel
theorem d_Steps_add_31 : decode b_Steps_add 31 = .ok (.getfield 18, 3) := by decide +kernel
theorem d_Steps_add_34 : decode b_Steps_add 34 = .ok (.aload_n 0, 1) := by decide +kernel
theorem d_Steps_add_35 : decode b_Steps_add 35 = .ok (.getfield 21, 3) := by decide +kernel
theorem d_Steps_add_38 : decode b_Steps_add 38 = .ok (.iload_n 3, 1) := by decide +kernel
theorem d_Steps_add_39 : decode b_Steps_add 39 = .ok (.iastore, 1) := by decide +kernel
theorem d_Steps_add_40 : decode b_Steps_add 40 = .ok (.aload_n 0, 1) := by decide +kernel
theorem d_Steps_add_41 : decode b_Steps_add 41 = .ok (.dup, 1) := by decide +kernel
theorem d_Steps_add_42 : decode b_Steps_add 42 = .ok (.getfield 21, 3) := by decide +kernel
theorem d_Steps_add_45 : decode b_Steps_add 45 = .ok (.iconst 1, 1) := by decide +kernel
theorem d_Steps_add_46 : decode b_Steps_add 46 = .ok (.iadd, 1) := by decide +kernel
theorem d_Steps_add_47 : decode b_Steps_add 47 = .ok (.putfield 21, 3) := by decide +kernel
theorem d_Steps_add_50 : decode b_Steps_add 50 = .ok (.return_, 1) := by decide +kernel
theorem d_Text_clear_0 : decode b_Text_clear 0 = .ok (.aload_n 0, 1) := by decide +kernel
theorem d_Steps_clear_0 : decode b_Steps_clear 0 = .ok (.aload_n 0, 1) := by decide +kernel
theorem d_Steps_clear_1 : decode b_Steps_clear 1 = .ok (.iconst 0, 1) := by decide +kernel
theorem d_Text_clear_1 : decode b_Text_clear 1 = .ok (.iconst 0, 1) := by decide +kernel
theorem d_Steps_clear_2 : decode b_Steps_clear 2 = .ok (.putfield 21, 3) := by decide +kernel
theorem d_Text_clear_2 : decode b_Text_clear 2 = .ok (.putfield 15, 3) := by decide +kernel
theorem d_Text_clear_5 : decode b_Text_clear 5 = .ok (.aload_n 0, 1) := by decide +kernel
theorem d_Steps_clear_5 : decode b_Steps_clear 5 = .ok (.aload_n 0, 1) := by decide +kernel
theorem d_Steps_clear_6 : decode b_Steps_clear 6 = .ok (.iconst 0, 1) := by decide +kernel
theorem d_Text_clear_6 : decode b_Text_clear 6 = .ok (.getfield 22, 3) := by decide +kernel
theorem d_Steps_clear_7 : decode b_Steps_clear 7 = .ok (.putfield 32, 3) := by decide +kernel
theorem d_Text_clear_9 : decode b_Text_clear 9 = .ok (.invokevirtual 55, 3) := by decide +kernel
theorem d_Steps_clear_10 : decode b_Steps_clear 10 = .ok (.aload_n 0, 1) := by decide +kernel
theorem d_Steps_clear_11 : decode b_Steps_clear 11 = .ok (.getfield 25, 3) := by decide +kernel
theorem d_Text_clear_12 : decode b_Text_clear 12 = .ok (.aload_n 0, 1) := by decide +kernel
theorem d_Text_clear_13 : decode b_Text_clear 13 = .ok (.iconst 0, 1) := by decide +kernel
theorem d_Text_clear_14 : decode b_Text_clear 14 = .ok (.putfield 26, 3) := by decide +kernel
theorem d_Steps_clear_14 : decode b_Steps_clear 14 = .ok (.iconst 0, 1) := by decide +kernel
theorem d_Steps_clear_15 : decode b_Steps_clear 15 = .ok (.iconst 0, 1) := by decide +kernel
theorem d_Steps_clear_16 : decode b_Steps_clear 16 = .ok (.iastore, 1) := by decide +kernel
theorem d_Text_clear_17 : decode b_Text_clear 17 = .ok (.aload_n 0, 1) := by decide +kernel
theorem d_Steps_clear_17 : decode b_Steps_clear 17 = .ok (.return_, 1) := by decide +kernel
theorem d_Text_clear_18 : decode b_Text_clear 18 = .ok (.iconst 0, 1) := by decide +kernel
theorem d_Text_clear_19 : decode b_Text_clear 19 = .ok (.putfield 52, 3) := by decide +kernel
theorem d_Text_clear_22 : decode b_Text_clear 22 = .ok (.iconst 0, 1) := by decide +kernel
theorem d_Text_clear_23 : decode b_Text_clear 23 = .ok (.istore_n 1, 1) := by decide +kernel
theorem d_Text_clear_24 : decode b_Text_clear 24 = .ok (.iload_n 1, 1) := by decide +kernel
theorem d_Text_clear_25 : decode b_Text_clear 25 = .ok (.bipush 60, 2) := by decide +kernel
theorem d_Text_clear_27 : decode b_Text_clear 27 = .ok (.if_icmp .ge 30, 3) := by decide +kernel
theorem d_Text_clear_30 : decode b_Text_clear 30 = .ok (.aload_n 0, 1) := by decide +kernel
theorem d_Text_clear_31 : decode b_Text_clear 31 = .ok (.getfield 39, 3) := by decide +kernel
theorem d_Text_clear_34 : decode b_Text_clear 34 = .ok (.iload_n 1, 1) := by decide +kernel
theorem d_Text_clear_35 : decode b_Text_clear 35 = .ok (.iconst (-1), 1) := by decide +kernel
theorem d_Text_clear_36 : decode b_Text_clear 36 = .ok (.iastore, 1) := by decide +kernel
theorem d_Text_clear_37 : decode b_Text_clear 37 = .ok (.aload_n 0, 1) := by decide +kernel
theorem d_Text_clear_38 : decode b_Text_clear 38 = .ok (.getfield 42, 3) := by decide +kernel
theorem d_Text_clear_41 : decode b_Text_clear 41 = .ok (.iload_n 1, 1) := by decide +kernel
theorem d_Text_clear_42 : decode b_Text_clear 42 = .ok (.lconst 0, 1) := by decide +kernel
theorem d_Text_clear_43 : decode b_Text_clear 43 = .ok (.lastore, 1) := by decide +kernel
theorem d_Text_clear_44 : decode b_Text_clear 44 = .ok (.aload_n 0, 1) := by decide +kernel
theorem d_Text_clear_45 : decode b_Text_clear 45 = .ok (.getfield 46, 3) := by decide +kernel
theorem d_Text_clear_48 : decode b_Text_clear 48 = .ok (.iload_n 1, 1) := by decide +kernel
theorem d_Text_clear_49 : decode b_Text_clear 49 = .ok (.iconst 0, 1) := by decide +kernel
theorem d_Text_clear_50 : decode b_Text_clear 50 = .ok (.iastore, 1) := by decide +kernel
theorem d_Text_clear_51 : decode b_Text_clear 51 = .ok (.iinc 1 1, 3) := by decide +kernel
theorem d_Text_clear_54 : decode b_Text_clear 54 = .ok (.goto (-30), 3) := by decide +kernel
theorem d_Text_clear_57 : decode b_Text_clear 57 = .ok (.return_, 1) := by decide +kernel
theorem d_Steps_endExpression_0 : decode b_Steps_endExpression 0 = .ok (.aload_n 0, 1) := by decide +kernel
theorem d_Steps_endExpression_1 : decode b_Steps_endExpression 1 = .ok (.getfield 32, 3) := by decide +kernel
theorem d_Steps_endExpression_4 : decode b_Steps_endExpression 4 = .ok (.sipush 400, 3) := by decide +kernel
theorem d_Steps_endExpression_7 : decode b_Steps_endExpression 7 = .ok (.if_icmp .ge 36, 3) := by decide +kernel
theorem d_Steps_endExpression_10 : decode b_Steps_endExpression 10 = .ok (.aload_n 0, 1) := by decide +kernel
theorem d_Steps_endExpression_11 : decode b_Steps_endExpression 11 = .ok (.getfield 28, 3) := by decide +kernel
theorem d_Steps_endExpression_14 : decode b_Steps_endExpression 14 = .ok (.aload_n 0, 1) := by decide +kernel
theorem d_Steps_endExpression_15 : decode b_Steps_endExpression 15 = .ok (.getfield 32, 3) := by decide +kernel
theorem d_Steps_endExpression_18 : decode b_Steps_endExpression 18 = .ok (.iload_n 1, 1) := by decide +kernel
theorem d_Steps_endExpression_19 : decode b_Steps_endExpression 19 = .ok (.castore, 1) := by decide +kernel
theorem d_Steps_endExpression_20 : decode b_Steps_endExpression 20 = .ok (.aload_n 0, 1) := by decide +kernel
theorem d_Steps_endExpression_21 : decode b_Steps_endExpression 21 = .ok (.dup, 1) := by decide +kernel
theorem d_Steps_endExpression_22 : decode b_Steps_endExpression 22 = .ok (.getfield 32, 3) := by decide +kernel
theorem d_Steps_endExpression_25 : decode b_Steps_endExpression 25 = .ok (.iconst 1, 1) := by decide +kernel
theorem d_Steps_endExpression_26 : decode b_Steps_endExpression 26 = .ok (.iadd, 1) := by decide +kernel
theorem d_Steps_endExpression_27 : decode b_Steps_endExpression 27 = .ok (.putfield 32, 3) := by decide +kernel
theorem d_Steps_endExpression_30 : decode b_Steps_endExpression 30 = .ok (.aload_n 0, 1) := by decide +kernel
theorem d_Steps_endExpression_31 : decode b_Steps_endExpression 31 = .ok (.getfield 25, 3) := by decide +kernel
theorem d_Steps_endExpression_34 : decode b_Steps_endExpression 34 = .ok (.aload_n 0, 1) := by decide +kernel
theorem d_Steps_endExpression_35 : decode b_Steps_endExpression 35 = .ok (.getfield 32, 3) := by decide +kernel
theorem d_Steps_endExpression_38 : decode b_Steps_endExpression 38 = .ok (.aload_n 0, 1) := by decide +kernel
theorem d_Steps_endExpression_39 : decode b_Steps_endExpression 39 = .ok (.getfield 21, 3) := by decide +kernel
theorem d_Steps_endExpression_42 : decode b_Steps_endExpression 42 = .ok (.iastore, 1) := by decide +kernel
theorem d_Steps_endExpression_43 : decode b_Steps_endExpression 43 = .ok (.return_, 1) := by decide +kernel
theorem d_Text_mentionCell_0 : decode b_Text_mentionCell 0 = .ok (.aload_n 0, 1) := by decide +kernel
theorem d_Text_mentionCell_1 : decode b_Text_mentionCell 1 = .ok (.getfield 22, 3) := by decide +kernel
theorem d_Text_mentionCell_4 : decode b_Text_mentionCell 4 = .ok (.iconst 3, 1) := by decide +kernel
theorem d_Text_mentionCell_5 : decode b_Text_mentionCell 5 = .ok (.iload_n 1, 1) := by decide +kernel
theorem d_Text_mentionCell_6 : decode b_Text_mentionCell 6 = .ok (.iconst 0, 1) := by decide +kernel
theorem d_Text_mentionCell_7 : decode b_Text_mentionCell 7 = .ok (.invokevirtual 61, 3) := by decide +kernel
theorem d_Text_mentionCell_10 : decode b_Text_mentionCell 10 = .ok (.aload_n 0, 1) := by decide +kernel
theorem d_Text_mentionCell_11 : decode b_Text_mentionCell 11 = .ok (.invokevirtual 65, 3) := by decide +kernel
theorem d_Text_mentionCell_14 : decode b_Text_mentionCell 14 = .ok (.istore_n 2, 1) := by decide +kernel
theorem d_Text_mentionCell_15 : decode b_Text_mentionCell 15 = .ok (.iload_n 2, 1) := by decide +kernel
theorem d_Text_mentionCell_16 : decode b_Text_mentionCell 16 = .ok (.iconst (-1), 1) := by decide +kernel
theorem d_Text_mentionCell_17 : decode b_Text_mentionCell 17 = .ok (.if_icmp .eq 15, 3) := by decide +kernel
theorem d_Text_mentionCell_20 : decode b_Text_mentionCell 20 = .ok (.aload_n 0, 1) := by decide +kernel
theorem d_Text_mentionCell_21 : decode b_Text_mentionCell 21 = .ok (.getfield 42, 3) := by decide +kernel
theorem d_Text_mentionCell_24 : decode b_Text_mentionCell 24 = .ok (.iload_n 2, 1) := by decide +kernel
theorem d_Text_mentionCell_25 : decode b_Text_mentionCell 25 = .ok (.dup2, 1) := by decide +kernel
theorem d_Text_mentionCell_26 : decode b_Text_mentionCell 26 = .ok (.laload, 1) := by decide +kernel
theorem d_Text_mentionCell_27 : decode b_Text_mentionCell 27 = .ok (.lconst 1, 1) := by decide +kernel
theorem d_Text_mentionCell_28 : decode b_Text_mentionCell 28 = .ok (.iload_n 1, 1) := by decide +kernel
theorem d_Text_mentionCell_29 : decode b_Text_mentionCell 29 = .ok (.lshl, 1) := by decide +kernel
theorem d_Text_mentionCell_30 : decode b_Text_mentionCell 30 = .ok (.lor, 1) := by decide +kernel
theorem d_Text_mentionCell_31 : decode b_Text_mentionCell 31 = .ok (.lastore, 1) := by decide +kernel
theorem d_Text_mentionCell_32 : decode b_Text_mentionCell 32 = .ok (.return_, 1) := by decide +kernel
theorem d_Text_openCell_0 : decode b_Text_openCell 0 = .ok (.aload_n 0, 1) := by decide +kernel
theorem d_Text_openCell_1 : decode b_Text_openCell 1 = .ok (.getfield 26, 3) := by decide +kernel
theorem d_Text_openCell_4 : decode b_Text_openCell 4 = .ok (.ifCond .le 17, 3) := by decide +kernel
theorem d_Text_openCell_7 : decode b_Text_openCell 7 = .ok (.aload_n 0, 1) := by decide +kernel
theorem d_Text_openCell_8 : decode b_Text_openCell 8 = .ok (.getfield 29, 3) := by decide +kernel
theorem d_Text_openCell_11 : decode b_Text_openCell 11 = .ok (.aload_n 0, 1) := by decide +kernel
theorem d_Text_openCell_12 : decode b_Text_openCell 12 = .ok (.getfield 26, 3) := by decide +kernel
theorem d_Text_openCell_15 : decode b_Text_openCell 15 = .ok (.iconst 1, 1) := by decide +kernel
theorem d_Text_openCell_16 : decode b_Text_openCell 16 = .ok (.isub, 1) := by decide +kernel
theorem d_Text_openCell_17 : decode b_Text_openCell 17 = .ok (.iaload, 1) := by decide +kernel
theorem d_Text_openCell_18 : decode b_Text_openCell 18 = .ok (.goto 4, 3) := by decide +kernel
theorem d_Text_openCell_21 : decode b_Text_openCell 21 = .ok (.iconst (-1), 1) := by decide +kernel
theorem d_Text_openCell_22 : decode b_Text_openCell 22 = .ok (.ireturn, 1) := by decide +kernel
def F_Steps_clear  (o0 : Ob) : Option (Ob) :=
  chk (inb (0 : Int32) 401) (some (s32 (s32 (s32 o0 3 0 (0 : Int32)) 6 0 (0 : Int32)) 4 (Int32.toNatClampNeg (0 : Int32)) (0 : Int32)))
abbrev ws_Steps_clear : List Cond := Cond.code y_Steps_clear b_Steps_clear 1 (none : Option Jvm.ClassFile.FieldType) :: wsAll
abbrev rm_Steps_clear : Room := { frames := 0, cells := 0, slots := 0, locals := 0 }
set_option maxHeartbeats 4000000 in
set_option maxRecDepth 100000 in
theorem c_Steps_clear (l : Launch) (ct dC : Nat → ClassId) (dI : Nat → Nat → Nat) (a0 : Nat → Nat)  (sz : Nat)  (o0 : Ob) (n0 : Ob) (hF : F_Steps_clear o0 = some n0) : Met l y_Steps_clear ws_Steps_clear rm_Steps_clear (bw_Pc [.ref (a0 0)] (dC, dI) vwCl (tyA ct) [wSteps ct a0 o0] sz nx) (bw_Q (dC, dI) vwCl none [wSteps ct a0 n0] (bw_A [adSteps a0] sz)) 0 0 (bw_A [adSteps a0] sz) := by
  refine Met.ofW (cc := b_Steps_clear) (maxL := 1) (ret := (none : Option Jvm.ClassFile.FieldType)) (by decide) rfl ?_
  intro p e s m args below meth c s₁ B hml hv
  obtain ⟨rfl, hsz, hP, hK, hN0, hnx⟩ := hv
  have hx := B.exec
  have hb := B.bytes
  have hr := B.returns
  have hts : ∀ w ∈ wsAll, w.before [.ref (a0 0)].toArray s = true := fun w h9 => atoms_spec (ws := ws_Steps_clear) B.pre w (List.mem_cons_of_mem _ h9)
  have hown : s.vm.findClass R_Steps = some m.cls := findClass_of_methodNamed B.named
  have hlocks := B.notSynchronized
  subst hsz
  have hN : bw_N (bw_A [adSteps a0] s.heap.size) [adSteps a0] := hN0.self s.heap.size
  generalize hAe : bw_A [adSteps a0] s.heap.size = A at hN ⊢
  have hA : ∀ q : Nat, s.heap.size ≤ q → A q := fun q h => by rw [← hAe]; exact Or.inr h
  have hS : va_S A s.heap s.heap [] := va_S.rf
  have hl := lv_entry ([.ref (a0 0)]) (n := 1) (Nat.le_of_ble_eq_true rfl)
  rw [lg_entry_eq]
  generalize (lg_sl ([.ref (a0 0)]) ++ List.replicate (1 - (lg_sl ([.ref (a0 0)])).length) Slot.unset).toArray = ls at hl ⊢
  have hl : lv_has ls 1 [(0, .ref (a0 0))] := hl
  have C0 : cx wsAll vwCl nx p s m [.ref (a0 0)].toArray meth c (dC, dI) (tyA ct) b_Steps_clear 1 (none : Option Jvm.ClassFile.FieldType) R_Steps A [adSteps a0] := ⟨hx, hb, hr, hml, hown, hlocks, hts, hK, hN, hA, hnx⟩
  have h := hF
  rw [F_Steps_clear] at h
  refine lv_aload_n hx hb d_Steps_clear_0 rfl (lv_at hl 0 rfl) ?_
  refine lv_iconst (v := 0) hx hb d_Steps_clear_1 (by decide) ?_
  refine bw_put (D := (dC, dI)) (ci := 0) (v := .int (0 : Int32)) (ty := .int) (C := R_Steps) (T := T_Steps) (N := 7) hx hb hts in_Steps ty_Steps tyok_Steps nm_Steps hown hK hP hN hS 0 0 rfl rfl rfl 3 (by decide) (hts _ fl_Steps_21) (fun _ h9 => h9) rfl (by decide +kernel) rfl rfl (Nat.le_of_ble_eq_true rfl) d_Steps_clear_2 (fun H locs hP hS => ?_)
  have hP : bw_P (dC, dI) vwCl [wSteps ct a0 (s32 o0 3 0 (0 : Int32))] H := hP
  refine lv_aload_n hx hb d_Steps_clear_5 rfl (lv_at hl 0 rfl) ?_
  refine lv_iconst (v := 0) hx hb d_Steps_clear_6 (by decide) ?_
  refine bw_put (D := (dC, dI)) (ci := 0) (v := .int (0 : Int32)) (ty := .int) (C := R_Steps) (T := T_Steps) (N := 7) hx hb hts in_Steps ty_Steps tyok_Steps nm_Steps hown hK hP hN hS 0 0 rfl rfl rfl 6 (by decide) (hts _ fl_Steps_32) (fun _ h9 => h9) rfl (by decide +kernel) rfl rfl (Nat.le_of_ble_eq_true rfl) d_Steps_clear_7 (fun H locs hP hS => ?_)
  have hP : bw_P (dC, dI) vwCl [wSteps ct a0 (s32 (s32 o0 3 0 (0 : Int32)) 6 0 (0 : Int32))] H := hP
  refine lv_aload_n hx hb d_Steps_clear_10 rfl (lv_at hl 0 rfl) ?_
  refine va_get (D := (dC, dI)) (ci := 0) (v := .ref (a0 4)) (C := R_Steps) (T := T_Steps) (N := 7) hx hb hts in_Steps hown hK (hP 0 _ rfl) 0 rfl rfl 4 (by decide) (hts _ fl_Steps_25) (fun _ h9 => h9) rfl d_Steps_clear_11 ?_
  refine lv_iconst (v := 0) hx hb d_Steps_clear_14 (by decide) ?_
  refine lv_iconst (v := 0) hx hb d_Steps_clear_15 (by decide) ?_
  obtain ⟨hi1, h⟩ := chk_some h
  refine bw_iast hx hb hK hP hN hS 0 4 0 rfl rfl rfl (inb_in hi1) d_Steps_clear_16 (fun H locs hP hS => ?_)
  have hP : bw_P (dC, dI) vwCl [wSteps ct a0 (s32 (s32 (s32 o0 3 0 (0 : Int32)) 6 0 (0 : Int32)) 4 (Int32.toNatClampNeg (0 : Int32)) (0 : Int32))] H := hP
  cases h
  exact W.vret hx hb hr (fun t ht hW => ⟨rfl, by rw [ht]; exact hP, hS.F ht⟩) hS.2.2 d_Steps_clear_17
def F_Steps_add (x1 : Int32) (x2 : Int32) (x3 : Int32) (o0 : Ob) : Option (Ob) :=
  if (400 : Int32) ≤ (g32 o0 3 0) then (some o0) else (chk (inb (g32 o0 3 0) 400) (some (s32 (s32 (s32 (s32 o0 0 (Int32.toNatClampNeg (g32 o0 3 0)) x1) 1 (Int32.toNatClampNeg (g32 o0 3 0)) x2) 2 (Int32.toNatClampNeg (g32 o0 3 0)) x3) 3 0 ((g32 o0 3 0) + (1 : Int32)))))
abbrev ws_Steps_add : List Cond := Cond.code y_Steps_add b_Steps_add 4 (none : Option Jvm.ClassFile.FieldType) :: wsAll
abbrev rm_Steps_add : Room := { frames := 0, cells := 0, slots := 0, locals := 0 }
set_option maxHeartbeats 4000000 in
set_option maxRecDepth 100000 in
theorem c_Steps_add (l : Launch) (ct dC : Nat → ClassId) (dI : Nat → Nat → Nat) (a0 : Nat → Nat)  (sz : Nat) (x1 : Int32) (x2 : Int32) (x3 : Int32) (o0 : Ob) (n0 : Ob) (hF : F_Steps_add x1 x2 x3 o0 = some n0) : Met l y_Steps_add ws_Steps_add rm_Steps_add (bw_Pc [.ref (a0 0), .int x1, .int x2, .int x3] (dC, dI) vwCl (tyA ct) [wSteps ct a0 o0] sz nx) (bw_Q (dC, dI) vwCl none [wSteps ct a0 n0] (bw_A [adSteps a0] sz)) 0 0 (bw_A [adSteps a0] sz) := by
  refine Met.ofW (cc := b_Steps_add) (maxL := 4) (ret := (none : Option Jvm.ClassFile.FieldType)) (by decide) rfl ?_
  intro p e s m args below meth c s₁ B hml hv
  obtain ⟨rfl, hsz, hP, hK, hN0, hnx⟩ := hv
  have hx := B.exec
  have hb := B.bytes
  have hr := B.returns
  have hts : ∀ w ∈ wsAll, w.before [.ref (a0 0), .int x1, .int x2, .int x3].toArray s = true := fun w h9 => atoms_spec (ws := ws_Steps_add) B.pre w (List.mem_cons_of_mem _ h9)
  have hown : s.vm.findClass R_Steps = some m.cls := findClass_of_methodNamed B.named
  have hlocks := B.notSynchronized
  subst hsz
  have hN : bw_N (bw_A [adSteps a0] s.heap.size) [adSteps a0] := hN0.self s.heap.size
  generalize hAe : bw_A [adSteps a0] s.heap.size = A at hN ⊢
  have hA : ∀ q : Nat, s.heap.size ≤ q → A q := fun q h => by rw [← hAe]; exact Or.inr h
  have hS : va_S A s.heap s.heap [] := va_S.rf
  have hl := lv_entry ([.ref (a0 0), .int x1, .int x2, .int x3]) (n := 4) (Nat.le_of_ble_eq_true rfl)
  rw [lg_entry_eq]
  generalize (lg_sl ([.ref (a0 0), .int x1, .int x2, .int x3]) ++ List.replicate (4 - (lg_sl ([.ref (a0 0), .int x1, .int x2, .int x3])).length) Slot.unset).toArray = ls at hl ⊢
  have hl : lv_has ls 4 [(0, .ref (a0 0)), (1, .int x1), (2, .int x2), (3, .int x3)] := hl
  have C0 : cx wsAll vwCl nx p s m [.ref (a0 0), .int x1, .int x2, .int x3].toArray meth c (dC, dI) (tyA ct) b_Steps_add 4 (none : Option Jvm.ClassFile.FieldType) R_Steps A [adSteps a0] := ⟨hx, hb, hr, hml, hown, hlocks, hts, hK, hN, hA, hnx⟩
  have h := hF
  rw [F_Steps_add] at h
  refine lv_aload_n hx hb d_Steps_add_0 rfl (lv_at hl 0 rfl) ?_
  refine va_get (D := (dC, dI)) (ci := 0) (v := .int (g32 o0 3 0)) (C := R_Steps) (T := T_Steps) (N := 7) hx hb hts in_Steps hown hK (hP 0 _ rfl) 0 rfl rfl 3 (by decide) (hts _ fl_Steps_21) (fun _ h9 => h9) rfl d_Steps_add_1 ?_
  refine lv_sipush (v := 400) hx hb d_Steps_add_4 (by decide) ?_
  refine lv_icmp_ge (tgt := 50) hx hb d_Steps_add_7 (by decide) (fun c1 => ?_) (fun c1 => ?_)
  · have h := ite_t c1 h
    cases h
    exact W.vret hx hb hr (fun t ht hW => ⟨rfl, by rw [ht]; exact hP, hS.F ht⟩) hS.2.2 d_Steps_add_50
  · have h := ite_f c1 h
    refine lv_aload_n hx hb d_Steps_add_10 rfl (lv_at hl 0 rfl) ?_
    refine va_get (D := (dC, dI)) (ci := 0) (v := .ref (a0 1)) (C := R_Steps) (T := T_Steps) (N := 7) hx hb hts in_Steps hown hK (hP 0 _ rfl) 0 rfl rfl 0 (by decide) (hts _ fl_Steps_9) (fun _ h9 => h9) rfl d_Steps_add_11 ?_
    refine lv_aload_n hx hb d_Steps_add_14 rfl (lv_at hl 0 rfl) ?_
    refine va_get (D := (dC, dI)) (ci := 0) (v := .int (g32 o0 3 0)) (C := R_Steps) (T := T_Steps) (N := 7) hx hb hts in_Steps hown hK (hP 0 _ rfl) 0 rfl rfl 3 (by decide) (hts _ fl_Steps_21) (fun _ h9 => h9) rfl d_Steps_add_15 ?_
    refine lv_iload_n hx hb d_Steps_add_18 rfl (lv_at hl 1 rfl) ?_
    obtain ⟨hi2, h⟩ := chk_some h
    refine bw_iast hx hb hK hP hN hS 0 1 0 rfl rfl rfl (inb_in hi2) d_Steps_add_19 (fun H locs hP hS => ?_)
    have hP : bw_P (dC, dI) vwCl [wSteps ct a0 (s32 o0 0 (Int32.toNatClampNeg (g32 o0 3 0)) x1)] H := hP
    refine lv_aload_n hx hb d_Steps_add_20 rfl (lv_at hl 0 rfl) ?_
    refine va_get (D := (dC, dI)) (ci := 0) (v := .ref (a0 2)) (C := R_Steps) (T := T_Steps) (N := 7) hx hb hts in_Steps hown hK (hP 0 _ rfl) 0 rfl rfl 1 (by decide) (hts _ fl_Steps_15) (fun _ h9 => h9) rfl d_Steps_add_21 ?_
    refine lv_aload_n hx hb d_Steps_add_24 rfl (lv_at hl 0 rfl) ?_
    refine va_get (D := (dC, dI)) (ci := 0) (v := .int (g32 o0 3 0)) (C := R_Steps) (T := T_Steps) (N := 7) hx hb hts in_Steps hown hK (hP 0 _ rfl) 0 rfl rfl 3 (by decide) (hts _ fl_Steps_21) (fun _ h9 => h9) rfl d_Steps_add_25 ?_
    refine lv_iload_n hx hb d_Steps_add_28 rfl (lv_at hl 2 rfl) ?_
    refine bw_iast hx hb hK hP hN hS 0 2 0 rfl rfl rfl (inb_in hi2) d_Steps_add_29 (fun H locs hP hS => ?_)
    have hP : bw_P (dC, dI) vwCl [wSteps ct a0 (s32 (s32 o0 0 (Int32.toNatClampNeg (g32 o0 3 0)) x1) 1 (Int32.toNatClampNeg (g32 o0 3 0)) x2)] H := hP
    refine lv_aload_n hx hb d_Steps_add_30 rfl (lv_at hl 0 rfl) ?_
    refine va_get (D := (dC, dI)) (ci := 0) (v := .ref (a0 3)) (C := R_Steps) (T := T_Steps) (N := 7) hx hb hts in_Steps hown hK (hP 0 _ rfl) 0 rfl rfl 2 (by decide) (hts _ fl_Steps_18) (fun _ h9 => h9) rfl d_Steps_add_31 ?_
    refine lv_aload_n hx hb d_Steps_add_34 rfl (lv_at hl 0 rfl) ?_
    refine va_get (D := (dC, dI)) (ci := 0) (v := .int (g32 o0 3 0)) (C := R_Steps) (T := T_Steps) (N := 7) hx hb hts in_Steps hown hK (hP 0 _ rfl) 0 rfl rfl 3 (by decide) (hts _ fl_Steps_21) (fun _ h9 => h9) rfl d_Steps_add_35 ?_
    refine lv_iload_n hx hb d_Steps_add_38 rfl (lv_at hl 3 rfl) ?_
    refine bw_iast hx hb hK hP hN hS 0 3 0 rfl rfl rfl (inb_in hi2) d_Steps_add_39 (fun H locs hP hS => ?_)
    have hP : bw_P (dC, dI) vwCl [wSteps ct a0 (s32 (s32 (s32 o0 0 (Int32.toNatClampNeg (g32 o0 3 0)) x1) 1 (Int32.toNatClampNeg (g32 o0 3 0)) x2) 2 (Int32.toNatClampNeg (g32 o0 3 0)) x3)] H := hP
    refine lv_aload_n hx hb d_Steps_add_40 rfl (lv_at hl 0 rfl) ?_
    refine lv_dup hx hb d_Steps_add_41 rfl ?_
    refine va_get (D := (dC, dI)) (ci := 0) (v := .int (g32 o0 3 0)) (C := R_Steps) (T := T_Steps) (N := 7) hx hb hts in_Steps hown hK (hP 0 _ rfl) 0 rfl rfl 3 (by decide) (hts _ fl_Steps_21) (fun _ h9 => h9) rfl d_Steps_add_42 ?_
    refine lv_iconst (v := 1) hx hb d_Steps_add_45 (by decide) ?_
    refine lv_iadd hx hb d_Steps_add_46 ?_
    refine bw_put (D := (dC, dI)) (ci := 0) (v := .int ((g32 o0 3 0) + (1 : Int32))) (ty := .int) (C := R_Steps) (T := T_Steps) (N := 7) hx hb hts in_Steps ty_Steps tyok_Steps nm_Steps hown hK hP hN hS 0 0 rfl rfl rfl 3 (by decide) (hts _ fl_Steps_21) (fun _ h9 => h9) rfl (by decide +kernel) rfl rfl (Nat.le_of_ble_eq_true rfl) d_Steps_add_47 (fun H locs hP hS => ?_)
    have hP : bw_P (dC, dI) vwCl [wSteps ct a0 (s32 (s32 (s32 (s32 o0 0 (Int32.toNatClampNeg (g32 o0 3 0)) x1) 1 (Int32.toNatClampNeg (g32 o0 3 0)) x2) 2 (Int32.toNatClampNeg (g32 o0 3 0)) x3) 3 0 ((g32 o0 3 0) + (1 : Int32)))] H := hP
    cases h
    exact W.vret hx hb hr (fun t ht hW => ⟨rfl, by rw [ht]; exact hP, hS.F ht⟩) hS.2.2 d_Steps_add_50
def F_Steps_endExpression (x1 : Int32) (o0 : Ob) : Option (Ob) :=
  if (400 : Int32) ≤ (g32 o0 6 0) then (some o0) else (chk (inb (g32 o0 6 0) 401) (chk (inb ((g32 o0 6 0) + (1 : Int32)) 401) (some (s32 (s32 (s32 o0 5 (Int32.toNatClampNeg (g32 o0 6 0)) (vp_nar .char x1)) 6 0 ((g32 o0 6 0) + (1 : Int32))) 4 (Int32.toNatClampNeg ((g32 o0 6 0) + (1 : Int32))) (g32 o0 3 0)))))
abbrev ws_Steps_endExpression : List Cond := Cond.code y_Steps_endExpression b_Steps_endExpression 2 (none : Option Jvm.ClassFile.FieldType) :: wsAll
abbrev rm_Steps_endExpression : Room := { frames := 0, cells := 0, slots := 0, locals := 0 }
set_option maxHeartbeats 4000000 in
set_option maxRecDepth 100000 in
theorem c_Steps_endExpression (l : Launch) (ct dC : Nat → ClassId) (dI : Nat → Nat → Nat) (a0 : Nat → Nat)  (sz : Nat) (x1 : Int32) (o0 : Ob) (n0 : Ob) (hF : F_Steps_endExpression x1 o0 = some n0) : Met l y_Steps_endExpression ws_Steps_endExpression rm_Steps_endExpression (bw_Pc [.ref (a0 0), .int x1] (dC, dI) vwCl (tyA ct) [wSteps ct a0 o0] sz nx) (bw_Q (dC, dI) vwCl none [wSteps ct a0 n0] (bw_A [adSteps a0] sz)) 0 0 (bw_A [adSteps a0] sz) := by
  refine Met.ofW (cc := b_Steps_endExpression) (maxL := 2) (ret := (none : Option Jvm.ClassFile.FieldType)) (by decide) rfl ?_
  intro p e s m args below meth c s₁ B hml hv
  obtain ⟨rfl, hsz, hP, hK, hN0, hnx⟩ := hv
  have hx := B.exec
  have hb := B.bytes
  have hr := B.returns
  have hts : ∀ w ∈ wsAll, w.before [.ref (a0 0), .int x1].toArray s = true := fun w h9 => atoms_spec (ws := ws_Steps_endExpression) B.pre w (List.mem_cons_of_mem _ h9)
  have hown : s.vm.findClass R_Steps = some m.cls := findClass_of_methodNamed B.named
  have hlocks := B.notSynchronized
  subst hsz
  have hN : bw_N (bw_A [adSteps a0] s.heap.size) [adSteps a0] := hN0.self s.heap.size
  generalize hAe : bw_A [adSteps a0] s.heap.size = A at hN ⊢
  have hA : ∀ q : Nat, s.heap.size ≤ q → A q := fun q h => by rw [← hAe]; exact Or.inr h
  have hS : va_S A s.heap s.heap [] := va_S.rf
  have hl := lv_entry ([.ref (a0 0), .int x1]) (n := 2) (Nat.le_of_ble_eq_true rfl)
  rw [lg_entry_eq]
  generalize (lg_sl ([.ref (a0 0), .int x1]) ++ List.replicate (2 - (lg_sl ([.ref (a0 0), .int x1])).length) Slot.unset).toArray = ls at hl ⊢
  have hl : lv_has ls 2 [(0, .ref (a0 0)), (1, .int x1)] := hl
  have C0 : cx wsAll vwCl nx p s m [.ref (a0 0), .int x1].toArray meth c (dC, dI) (tyA ct) b_Steps_endExpression 2 (none : Option Jvm.ClassFile.FieldType) R_Steps A [adSteps a0] := ⟨hx, hb, hr, hml, hown, hlocks, hts, hK, hN, hA, hnx⟩
  have h := hF
  rw [F_Steps_endExpression] at h
  refine lv_aload_n hx hb d_Steps_endExpression_0 rfl (lv_at hl 0 rfl) ?_
  refine va_get (D := (dC, dI)) (ci := 0) (v := .int (g32 o0 6 0)) (C := R_Steps) (T := T_Steps) (N := 7) hx hb hts in_Steps hown hK (hP 0 _ rfl) 0 rfl rfl 6 (by decide) (hts _ fl_Steps_32) (fun _ h9 => h9) rfl d_Steps_endExpression_1 ?_
  refine lv_sipush (v := 400) hx hb d_Steps_endExpression_4 (by decide) ?_
  refine lv_icmp_ge (tgt := 43) hx hb d_Steps_endExpression_7 (by decide) (fun c1 => ?_) (fun c1 => ?_)
  · have h := ite_t c1 h
    cases h
    exact W.vret hx hb hr (fun t ht hW => ⟨rfl, by rw [ht]; exact hP, hS.F ht⟩) hS.2.2 d_Steps_endExpression_43
  · have h := ite_f c1 h
    refine lv_aload_n hx hb d_Steps_endExpression_10 rfl (lv_at hl 0 rfl) ?_
    refine va_get (D := (dC, dI)) (ci := 0) (v := .ref (a0 5)) (C := R_Steps) (T := T_Steps) (N := 7) hx hb hts in_Steps hown hK (hP 0 _ rfl) 0 rfl rfl 5 (by decide) (hts _ fl_Steps_28) (fun _ h9 => h9) rfl d_Steps_endExpression_11 ?_
    refine lv_aload_n hx hb d_Steps_endExpression_14 rfl (lv_at hl 0 rfl) ?_
    refine va_get (D := (dC, dI)) (ci := 0) (v := .int (g32 o0 6 0)) (C := R_Steps) (T := T_Steps) (N := 7) hx hb hts in_Steps hown hK (hP 0 _ rfl) 0 rfl rfl 6 (by decide) (hts _ fl_Steps_32) (fun _ h9 => h9) rfl d_Steps_endExpression_15 ?_
    refine lv_iload_n hx hb d_Steps_endExpression_18 rfl (lv_at hl 1 rfl) ?_
    obtain ⟨hi2, h⟩ := chk_some h
    refine bw_cast hx hb hK hP hN hS 0 5 2 rfl rfl rfl (inb_in hi2) d_Steps_endExpression_19 (fun H locs hP hS => ?_)
    have hP : bw_P (dC, dI) vwCl [wSteps ct a0 (s32 o0 5 (Int32.toNatClampNeg (g32 o0 6 0)) (vp_nar .char x1))] H := hP
    refine lv_aload_n hx hb d_Steps_endExpression_20 rfl (lv_at hl 0 rfl) ?_
    refine lv_dup hx hb d_Steps_endExpression_21 rfl ?_
    refine va_get (D := (dC, dI)) (ci := 0) (v := .int (g32 o0 6 0)) (C := R_Steps) (T := T_Steps) (N := 7) hx hb hts in_Steps hown hK (hP 0 _ rfl) 0 rfl rfl 6 (by decide) (hts _ fl_Steps_32) (fun _ h9 => h9) rfl d_Steps_endExpression_22 ?_
    refine lv_iconst (v := 1) hx hb d_Steps_endExpression_25 (by decide) ?_
    refine lv_iadd hx hb d_Steps_endExpression_26 ?_
    refine bw_put (D := (dC, dI)) (ci := 0) (v := .int ((g32 o0 6 0) + (1 : Int32))) (ty := .int) (C := R_Steps) (T := T_Steps) (N := 7) hx hb hts in_Steps ty_Steps tyok_Steps nm_Steps hown hK hP hN hS 0 0 rfl rfl rfl 6 (by decide) (hts _ fl_Steps_32) (fun _ h9 => h9) rfl (by decide +kernel) rfl rfl (Nat.le_of_ble_eq_true rfl) d_Steps_endExpression_27 (fun H locs hP hS => ?_)
    have hP : bw_P (dC, dI) vwCl [wSteps ct a0 (s32 (s32 o0 5 (Int32.toNatClampNeg (g32 o0 6 0)) (vp_nar .char x1)) 6 0 ((g32 o0 6 0) + (1 : Int32)))] H := hP
    refine lv_aload_n hx hb d_Steps_endExpression_30 rfl (lv_at hl 0 rfl) ?_
    refine va_get (D := (dC, dI)) (ci := 0) (v := .ref (a0 4)) (C := R_Steps) (T := T_Steps) (N := 7) hx hb hts in_Steps hown hK (hP 0 _ rfl) 0 rfl rfl 4 (by decide) (hts _ fl_Steps_25) (fun _ h9 => h9) rfl d_Steps_endExpression_31 ?_
    refine lv_aload_n hx hb d_Steps_endExpression_34 rfl (lv_at hl 0 rfl) ?_
    refine va_get (D := (dC, dI)) (ci := 0) (v := .int ((g32 o0 6 0) + (1 : Int32))) (C := R_Steps) (T := T_Steps) (N := 7) hx hb hts in_Steps hown hK (hP 0 _ rfl) 0 rfl rfl 6 (by decide) (hts _ fl_Steps_32) (fun _ h9 => h9) rfl d_Steps_endExpression_35 ?_
    refine lv_aload_n hx hb d_Steps_endExpression_38 rfl (lv_at hl 0 rfl) ?_
    refine va_get (D := (dC, dI)) (ci := 0) (v := .int (g32 o0 3 0)) (C := R_Steps) (T := T_Steps) (N := 7) hx hb hts in_Steps hown hK (hP 0 _ rfl) 0 rfl rfl 3 (by decide) (hts _ fl_Steps_21) (fun _ h9 => h9) rfl d_Steps_endExpression_39 ?_
    obtain ⟨hi3, h⟩ := chk_some h
    refine bw_iast hx hb hK hP hN hS 0 4 0 rfl rfl rfl (inb_in hi3) d_Steps_endExpression_42 (fun H locs hP hS => ?_)
    have hP : bw_P (dC, dI) vwCl [wSteps ct a0 (s32 (s32 (s32 o0 5 (Int32.toNatClampNeg (g32 o0 6 0)) (vp_nar .char x1)) 6 0 ((g32 o0 6 0) + (1 : Int32))) 4 (Int32.toNatClampNeg ((g32 o0 6 0) + (1 : Int32))) (g32 o0 3 0))] H := hP
    cases h
    exact W.vret hx hb hr (fun t ht hW => ⟨rfl, by rw [ht]; exact hP, hS.F ht⟩) hS.2.2 d_Steps_endExpression_43
theorem g_Text_55 : GoodIn wsAll (wsV R_Text 55 R_Steps y_Steps_clear ws_Steps_clear) := gd_V ml_Text_55 im_Steps_clear se_Steps_clear ini_Steps cd_Steps_clear
def F_Text_clear_24  : Nat → Int32 → Ob → Ob → Option (Ob × Ob)
  | 0, _, _, _ => none
  | n + 1, x1, o0, o1 =>
    if (60 : Int32) ≤ x1 then (some (o0, o1)) else (chk (inb x1 60) (F_Text_clear_24 n (x1 + (1 : Int32)) (s32 (s64 (s32 o0 7 (Int32.toNatClampNeg x1) (-1 : Int32)) 8 (Int32.toNatClampNeg x1) (0 : Int64)) 9 (Int32.toNatClampNeg x1) (0 : Int32)) o1))
def F_Text_clear  (o0 o1 : Ob) : Option (Ob × Ob) :=
  bind1 (F_Steps_clear o1) (fun o_2 => F_Text_clear_24 fuel (0 : Int32) (s32 (s32 (s32 o0 1 0 (0 : Int32)) 3 0 (0 : Int32)) 11 0 (0 : Int32)) o_2)
abbrev ws_Text_clear : List Cond := Cond.code y_Text_clear b_Text_clear 2 (none : Option Jvm.ClassFile.FieldType) :: wsAll
abbrev rm_Text_clear : Room := { frames := 1, cells := 0, slots := 0, locals := 20 }
set_option maxHeartbeats 4000000 in
set_option maxRecDepth 100000 in
theorem k_Text_clear_24 {p : Program} {l : Launch} {e : Env} {s : State} {m : MethodId} {args : Array Value} {below : List Frame} {meth : Method} {c : Code} {A : Nat → Prop} {ct dC : Nat → ClassId} {dI : Nat → Nat → Nat} {a0 a1 : Nat → Nat}  {n0 n1 : Ob}   (C0 : cx wsAll vwCl nx p s m args meth c (dC, dI) (tyA ct) b_Text_clear 2 (none : Option Jvm.ClassFile.FieldType) R_Text A [adText a0, adSteps a1])  : ∀ (n : Nat) (x1 : Int32) (o0 o1 : Ob) (H : Heap) (locs : List Loc) (ls : Array Slot), bw_P (dC, dI) vwCl [wText ct a0 (a1 0) o0, wSteps ct a1 o1] H → va_S A s.heap H locs → lv_has ls 2 [(0, .ref (a0 0)), (1, .int x1)] → F_Text_clear_24 n x1 o0 o1 = some (n0, n1) → W p l e (headSpec ws_Text_clear rm_Text_clear).room s m args below meth c H locs 0 0 (MQ below (bw_Q (dC, dI) vwCl none [wText ct a0 (a1 0) n0, wSteps ct a1 n1] A) args s 0 0 A) (F0 m 24 ls []) := by
  obtain ⟨hx, hb, hr, hml, hown, hlocks, hts, hK, hN, hA, hnx⟩ := id C0
  intro n
  induction n with
  | zero =>
    intro x1 o0 o1 H locs ls hP hS hl h
    cases h
  | succ n ih =>
    intro x1 o0 o1 H locs ls hP hS hl h
    rw [F_Text_clear_24] at h
    refine lv_iload_n hx hb d_Text_clear_24 rfl (lv_at hl 1 rfl) ?_
    refine lv_bipush (v := 60) hx hb d_Text_clear_25 (by decide) ?_
    refine lv_icmp_ge (tgt := 57) hx hb d_Text_clear_27 (by decide) (fun c3 => ?_) (fun c3 => ?_)
    · have h := ite_t c3 h
      cases h
      exact W.vret hx hb hr (fun t ht hW => ⟨rfl, by rw [ht]; exact hP, hS.F ht⟩) hS.2.2 d_Text_clear_57
    · have h := ite_f c3 h
      refine lv_aload_n hx hb d_Text_clear_30 rfl (lv_at hl 0 rfl) ?_
      refine va_get (D := (dC, dI)) (ci := 2) (v := .ref (a0 5)) (C := R_Text) (T := T_Text) (N := 12) hx hb hts in_Text hown hK (hP 0 _ rfl) 0 rfl rfl 7 (by decide) (hts _ fl_Text_39) (fun _ h9 => h9) rfl d_Text_clear_31 ?_
      refine lv_iload_n hx hb d_Text_clear_34 rfl (lv_at hl 1 rfl) ?_
      refine lv_iconst (v := -1) hx hb d_Text_clear_35 (by decide) ?_
      obtain ⟨hi4, h⟩ := chk_some h
      refine bw_iast hx hb hK hP hN hS 0 5 0 rfl rfl rfl (inb_in hi4) d_Text_clear_36 (fun H locs hP hS => ?_)
      have hP : bw_P (dC, dI) vwCl [wText ct a0 (a1 0) (s32 o0 7 (Int32.toNatClampNeg x1) (-1 : Int32)), wSteps ct a1 o1] H := hP
      refine lv_aload_n hx hb d_Text_clear_37 rfl (lv_at hl 0 rfl) ?_
      refine va_get (D := (dC, dI)) (ci := 2) (v := .ref (a0 6)) (C := R_Text) (T := T_Text) (N := 12) hx hb hts in_Text hown hK (hP 0 _ rfl) 0 rfl rfl 8 (by decide) (hts _ fl_Text_42) (fun _ h9 => h9) rfl d_Text_clear_38 ?_
      refine lv_iload_n hx hb d_Text_clear_41 rfl (lv_at hl 1 rfl) ?_
      refine lv_lconst (v := 0) hx hb d_Text_clear_42 (by decide) ?_
      refine bw_last hx hb hK hP hN hS 0 6 1 rfl rfl rfl (inb_in hi4) d_Text_clear_43 (fun H locs hP hS => ?_)
      have hP : bw_P (dC, dI) vwCl [wText ct a0 (a1 0) (s64 (s32 o0 7 (Int32.toNatClampNeg x1) (-1 : Int32)) 8 (Int32.toNatClampNeg x1) (0 : Int64)), wSteps ct a1 o1] H := hP
      refine lv_aload_n hx hb d_Text_clear_44 rfl (lv_at hl 0 rfl) ?_
      refine va_get (D := (dC, dI)) (ci := 2) (v := .ref (a0 7)) (C := R_Text) (T := T_Text) (N := 12) hx hb hts in_Text hown hK (hP 0 _ rfl) 0 rfl rfl 9 (by decide) (hts _ fl_Text_46) (fun _ h9 => h9) rfl d_Text_clear_45 ?_
      refine lv_iload_n hx hb d_Text_clear_48 rfl (lv_at hl 1 rfl) ?_
      refine lv_iconst (v := 0) hx hb d_Text_clear_49 (by decide) ?_
      refine bw_iast hx hb hK hP hN hS 0 7 0 rfl rfl rfl (inb_in hi4) d_Text_clear_50 (fun H locs hP hS => ?_)
      have hP : bw_P (dC, dI) vwCl [wText ct a0 (a1 0) (s32 (s64 (s32 o0 7 (Int32.toNatClampNeg x1) (-1 : Int32)) 8 (Int32.toNatClampNeg x1) (0 : Int64)) 9 (Int32.toNatClampNeg x1) (0 : Int32)), wSteps ct a1 o1] H := hP
      refine lv_iinc (v := (x1 + (1 : Int32))) (lv' := [(1, .int (x1 + (1 : Int32))), (0, .ref (a0 0))]) hx hb d_Text_clear_51 hl (k := 1) rfl rfl (by decide) rfl (fun ls hl => ?_)
      refine lv_goto (tgt := 24) hx hb d_Text_clear_54 (by decide) ?_
      exact ih (x1 + (1 : Int32)) (s32 (s64 (s32 o0 7 (Int32.toNatClampNeg x1) (-1 : Int32)) 8 (Int32.toNatClampNeg x1) (0 : Int64)) 9 (Int32.toNatClampNeg x1) (0 : Int32)) o1 _ _ _ hP hS (lv_sub hl [1, 0] rfl) h
set_option maxHeartbeats 4000000 in
set_option maxRecDepth 100000 in
theorem c_Text_clear (l : Launch) (ct dC : Nat → ClassId) (dI : Nat → Nat → Nat) (a0 a1 : Nat → Nat)  (sz : Nat)  (o0 o1 : Ob) (n0 n1 : Ob) (hF : F_Text_clear o0 o1 = some (n0, n1)) : Met l y_Text_clear ws_Text_clear rm_Text_clear (bw_Pc [.ref (a0 0)] (dC, dI) vwCl (tyA ct) [wText ct a0 (a1 0) o0, wSteps ct a1 o1] sz nx) (bw_Q (dC, dI) vwCl none [wText ct a0 (a1 0) n0, wSteps ct a1 n1] (bw_A [adText a0, adSteps a1] sz)) 0 0 (bw_A [adText a0, adSteps a1] sz) := by
  refine Met.ofW (cc := b_Text_clear) (maxL := 2) (ret := (none : Option Jvm.ClassFile.FieldType)) (by decide) rfl ?_
  intro p e s m args below meth c s₁ B hml hv
  obtain ⟨rfl, hsz, hP, hK, hN0, hnx⟩ := hv
  have hx := B.exec
  have hb := B.bytes
  have hr := B.returns
  have hts : ∀ w ∈ wsAll, w.before [.ref (a0 0)].toArray s = true := fun w h9 => atoms_spec (ws := ws_Text_clear) B.pre w (List.mem_cons_of_mem _ h9)
  have hown : s.vm.findClass R_Text = some m.cls := findClass_of_methodNamed B.named
  have hlocks := B.notSynchronized
  subst hsz
  have hN : bw_N (bw_A [adText a0, adSteps a1] s.heap.size) [adText a0, adSteps a1] := hN0.self s.heap.size
  generalize hAe : bw_A [adText a0, adSteps a1] s.heap.size = A at hN ⊢
  have hA : ∀ q : Nat, s.heap.size ≤ q → A q := fun q h => by rw [← hAe]; exact Or.inr h
  have hS : va_S A s.heap s.heap [] := va_S.rf
  have hl := lv_entry ([.ref (a0 0)]) (n := 2) (Nat.le_of_ble_eq_true rfl)
  rw [lg_entry_eq]
  generalize (lg_sl ([.ref (a0 0)]) ++ List.replicate (2 - (lg_sl ([.ref (a0 0)])).length) Slot.unset).toArray = ls at hl ⊢
  have hl : lv_has ls 2 [(0, .ref (a0 0))] := hl
  have C0 : cx wsAll vwCl nx p s m [.ref (a0 0)].toArray meth c (dC, dI) (tyA ct) b_Text_clear 2 (none : Option Jvm.ClassFile.FieldType) R_Text A [adText a0, adSteps a1] := ⟨hx, hb, hr, hml, hown, hlocks, hts, hK, hN, hA, hnx⟩
  have h := hF
  rw [F_Text_clear] at h
  refine lv_aload_n hx hb d_Text_clear_0 rfl (lv_at hl 0 rfl) ?_
  refine lv_iconst (v := 0) hx hb d_Text_clear_1 (by decide) ?_
  refine bw_put (D := (dC, dI)) (ci := 2) (v := .int (0 : Int32)) (ty := .int) (C := R_Text) (T := T_Text) (N := 12) hx hb hts in_Text ty_Text tyok_Text nm_Text hown hK hP hN hS 0 0 rfl rfl rfl 1 (by decide) (hts _ fl_Text_15) (fun _ h9 => h9) rfl (by decide +kernel) rfl rfl (Nat.le_of_ble_eq_true rfl) d_Text_clear_2 (fun H locs hP hS => ?_)
  have hP : bw_P (dC, dI) vwCl [wText ct a0 (a1 0) (s32 o0 1 0 (0 : Int32)), wSteps ct a1 o1] H := hP
  refine lv_aload_n hx hb d_Text_clear_5 rfl (lv_at hl 0 rfl) ?_
  refine va_get (D := (dC, dI)) (ci := 2) (v := .ref (a1 0)) (C := R_Text) (T := T_Text) (N := 12) hx hb hts in_Text hown hK (hP 0 _ rfl) 0 rfl rfl 2 (by decide) (hts _ fl_Text_22) (fun _ h9 => h9) rfl d_Text_clear_6 ?_
  obtain ⟨o_2, hG1, h⟩ := bind1_some h
  refine bw_call (Lc := [wSteps ct a1 o1]) (Lc' := [wSteps ct a1 o_2]) (L' := [wText ct a0 (a1 0) (s32 o0 1 0 (0 : Int32)), wSteps ct a1 o_2]) [1] (va_runV (As := []) (rest := []) ⟨hx, hb, hml, hown, hts⟩ (c_Steps_clear l ct dC dI a1 _ o1 o_2 hG1) (cwV 0 hts g_Text_55 rfl rfl rfl (by decide +kernel) ⟨Nat.le_of_ble_eq_true rfl, Nat.le_of_ble_eq_true rfl⟩) ⟨bw_blind nx_call, va_recv hK (hP 1 _ rfl) (ci := 0) (q0 := 0) rfl rfl, fun U hU hW => ⟨rfl, by rw [hU], by rw [hU]; exact hP.sub [1] rfl, va_K.moved hW.alike hK, (hN.sub [1] (by decide) rfl).weaken (fun _ _ => trivial), nx_warm hW hnx⟩⟩ rfl rfl hl.1 rfl (Nat.le_of_ble_eq_true rfl) d_Text_clear_9 ⟨Nat.le_of_ble_eq_true rfl, Nat.le_of_ble_eq_true rfl⟩) hP hN hS hA rfl rfl rfl (fun H locs hP hS => ?_)
  refine lv_aload_n hx hb d_Text_clear_12 rfl (lv_at hl 0 rfl) ?_
  refine lv_iconst (v := 0) hx hb d_Text_clear_13 (by decide) ?_
  refine bw_put (D := (dC, dI)) (ci := 2) (v := .int (0 : Int32)) (ty := .int) (C := R_Text) (T := T_Text) (N := 12) hx hb hts in_Text ty_Text tyok_Text nm_Text hown hK hP hN hS 0 0 rfl rfl rfl 3 (by decide) (hts _ fl_Text_26) (fun _ h9 => h9) rfl (by decide +kernel) rfl rfl (Nat.le_of_ble_eq_true rfl) d_Text_clear_14 (fun H locs hP hS => ?_)
  have hP : bw_P (dC, dI) vwCl [wText ct a0 (a1 0) (s32 (s32 o0 1 0 (0 : Int32)) 3 0 (0 : Int32)), wSteps ct a1 o_2] H := hP
  refine lv_aload_n hx hb d_Text_clear_17 rfl (lv_at hl 0 rfl) ?_
  refine lv_iconst (v := 0) hx hb d_Text_clear_18 (by decide) ?_
  refine bw_put (D := (dC, dI)) (ci := 2) (v := .int (0 : Int32)) (ty := .int) (C := R_Text) (T := T_Text) (N := 12) hx hb hts in_Text ty_Text tyok_Text nm_Text hown hK hP hN hS 0 0 rfl rfl rfl 11 (by decide) (hts _ fl_Text_52) (fun _ h9 => h9) rfl (by decide +kernel) rfl rfl (Nat.le_of_ble_eq_true rfl) d_Text_clear_19 (fun H locs hP hS => ?_)
  have hP : bw_P (dC, dI) vwCl [wText ct a0 (a1 0) (s32 (s32 (s32 o0 1 0 (0 : Int32)) 3 0 (0 : Int32)) 11 0 (0 : Int32)), wSteps ct a1 o_2] H := hP
  refine lv_iconst (v := 0) hx hb d_Text_clear_22 (by decide) ?_
  refine lv_istore_n (lv' := [(1, .int (0 : Int32)), (0, .ref (a0 0))]) hx hb d_Text_clear_23 rfl hl (by decide) rfl (fun ls hl => ?_)
  exact k_Text_clear_24 C0 fuel (0 : Int32) (s32 (s32 (s32 o0 1 0 (0 : Int32)) 3 0 (0 : Int32)) 11 0 (0 : Int32)) o_2 _ _ _ hP hS (lv_sub hl [1, 0] rfl) h
def F_Text_openCell  (o0 : Ob) : Option (Int32) :=
  if (g32 o0 3 0) ≤ 0 then (some (-1 : Int32)) else (chk (inb ((g32 o0 3 0) - (1 : Int32)) 24) (some (g32 o0 4 (Int32.toNatClampNeg ((g32 o0 3 0) - (1 : Int32))))))
abbrev ws_Text_openCell : List Cond := Cond.code y_Text_openCell b_Text_openCell 1 (some .int) :: wsAll
abbrev rm_Text_openCell : Room := { frames := 0, cells := 0, slots := 0, locals := 0 }
set_option maxHeartbeats 4000000 in
set_option maxRecDepth 100000 in
theorem c_Text_openCell (l : Launch) (ct dC : Nat → ClassId) (dI : Nat → Nat → Nat) (a0 : Nat → Nat) (r0_2 : Nat) (sz : Nat)  (o0 : Ob) (r : Int32) (hF : F_Text_openCell o0 = some r) : Met l y_Text_openCell ws_Text_openCell rm_Text_openCell (bw_Pc [.ref (a0 0)] (dC, dI) vwCl (tyA ct) [wText ct a0 r0_2 o0] sz nx) (bw_QR (some (.int r))) 0 0 (fun _ => False) := by
  refine Met.ofW (cc := b_Text_openCell) (maxL := 1) (ret := (some .int)) (by decide) rfl ?_
  intro p e s m args below meth c s₁ B hml hv
  obtain ⟨rfl, hsz, hP, hK, hN0, hnx⟩ := hv
  have hx := B.exec
  have hb := B.bytes
  have hr := B.returns
  have hts : ∀ w ∈ wsAll, w.before [.ref (a0 0)].toArray s = true := fun w h9 => atoms_spec (ws := ws_Text_openCell) B.pre w (List.mem_cons_of_mem _ h9)
  have hown : s.vm.findClass R_Text = some m.cls := findClass_of_methodNamed B.named
  have hlocks := B.notSynchronized
  subst hsz
  have hN : bw_N (fun _ => True) [adText a0] := hN0
  generalize hAe : (fun _ : Nat => True) = A at hN
  have hA : ∀ q : Nat, s.heap.size ≤ q → A q := fun q _ => by rw [← hAe]; trivial
  have hS : s.heap = s.heap ∧ ([] : List Loc) = [] := ⟨rfl, rfl⟩
  have hl := lv_entry ([.ref (a0 0)]) (n := 1) (Nat.le_of_ble_eq_true rfl)
  rw [lg_entry_eq]
  generalize (lg_sl ([.ref (a0 0)]) ++ List.replicate (1 - (lg_sl ([.ref (a0 0)])).length) Slot.unset).toArray = ls at hl ⊢
  have hl : lv_has ls 1 [(0, .ref (a0 0))] := hl
  have C0 : cx wsAll vwCl nx p s m [.ref (a0 0)].toArray meth c (dC, dI) (tyA ct) b_Text_openCell 1 (some .int) R_Text A [adText a0] := ⟨hx, hb, hr, hml, hown, hlocks, hts, hK, hN, hA, hnx⟩
  have h := hF
  rw [F_Text_openCell] at h
  refine lv_aload_n hx hb d_Text_openCell_0 rfl (lv_at hl 0 rfl) ?_
  refine va_get (D := (dC, dI)) (ci := 2) (v := .int (g32 o0 3 0)) (C := R_Text) (T := T_Text) (N := 12) hx hb hts in_Text hown hK (hP 0 _ rfl) 0 rfl rfl 3 (by decide) (hts _ fl_Text_26) (fun _ h9 => h9) rfl d_Text_openCell_1 ?_
  refine lv_if_le (tgt := 21) hx hb d_Text_openCell_4 (by decide) (fun c1 => ?_) (fun c1 => ?_)
  · have h := ite_t c1 h
    refine lv_iconst (v := -1) hx hb d_Text_openCell_21 (by decide) ?_
    cases h
    exact W.iret hx hb hr (fun t ht hW => ⟨rfl, ht.trans hS.1⟩) (bw_nil hS.2) d_Text_openCell_22
  · have h := ite_f c1 h
    refine lv_aload_n hx hb d_Text_openCell_7 rfl (lv_at hl 0 rfl) ?_
    refine va_get (D := (dC, dI)) (ci := 2) (v := .ref (a0 2)) (C := R_Text) (T := T_Text) (N := 12) hx hb hts in_Text hown hK (hP 0 _ rfl) 0 rfl rfl 4 (by decide) (hts _ fl_Text_29) (fun _ h9 => h9) rfl d_Text_openCell_8 ?_
    refine lv_aload_n hx hb d_Text_openCell_11 rfl (lv_at hl 0 rfl) ?_
    refine va_get (D := (dC, dI)) (ci := 2) (v := .int (g32 o0 3 0)) (C := R_Text) (T := T_Text) (N := 12) hx hb hts in_Text hown hK (hP 0 _ rfl) 0 rfl rfl 3 (by decide) (hts _ fl_Text_26) (fun _ h9 => h9) rfl d_Text_openCell_12 ?_
    refine lv_iconst (v := 1) hx hb d_Text_openCell_15 (by decide) ?_
    refine lv_isub hx hb d_Text_openCell_16 ?_
    obtain ⟨hi2, h⟩ := chk_some h
    refine va_iald (f := g32 o0 4) hx hb hK (hP 0 _ rfl) 2 0 rfl rfl (inb_in hi2) d_Text_openCell_17 ?_
    refine lv_goto (tgt := 22) hx hb d_Text_openCell_18 (by decide) ?_
    cases h
    exact W.iret hx hb hr (fun t ht hW => ⟨rfl, ht.trans hS.1⟩) (bw_nil hS.2) d_Text_openCell_22
theorem g_Text_61 : GoodIn wsAll (wsV R_Text 61 R_Steps y_Steps_add ws_Steps_add) := gd_V ml_Text_61 im_Steps_add se_Steps_add ini_Steps cd_Steps_add
theorem g_Text_65 : GoodIn wsAll (wsV R_Text 65 R_Text y_Text_openCell ws_Text_openCell) := gd_V ml_Text_65 im_Text_openCell se_Text_openCell ini_Text cd_Text_openCell
def F_Text_mentionCell (x1 : Int32) (o0 o1 : Ob) : Option (Ob × Ob) :=
  bind1 (F_Steps_add (3 : Int32) x1 (0 : Int32) o1) (fun o_2 => bind1 (F_Text_openCell o0) (fun v4 => if v4 = (-1 : Int32) then (some (o0, o_2)) else (chk (inb v4 60) (some ((s64 o0 8 (Int32.toNatClampNeg v4) ((g64 o0 8 (Int32.toNatClampNeg v4)) ||| (lshl (1 : Int64) x1))), o_2)))))
abbrev ws_Text_mentionCell : List Cond := Cond.code y_Text_mentionCell b_Text_mentionCell 3 (none : Option Jvm.ClassFile.FieldType) :: wsAll
abbrev rm_Text_mentionCell : Room := { frames := 1, cells := 0, slots := 0, locals := 23 }
set_option maxHeartbeats 4000000 in
set_option maxRecDepth 100000 in
theorem c_Text_mentionCell (l : Launch) (ct dC : Nat → ClassId) (dI : Nat → Nat → Nat) (a0 a1 : Nat → Nat)  (sz : Nat) (x1 : Int32) (o0 o1 : Ob) (n0 n1 : Ob) (hF : F_Text_mentionCell x1 o0 o1 = some (n0, n1)) : Met l y_Text_mentionCell ws_Text_mentionCell rm_Text_mentionCell (bw_Pc [.ref (a0 0), .int x1] (dC, dI) vwCl (tyA ct) [wText ct a0 (a1 0) o0, wSteps ct a1 o1] sz nx) (bw_Q (dC, dI) vwCl none [wText ct a0 (a1 0) n0, wSteps ct a1 n1] (bw_A [adText a0, adSteps a1] sz)) 0 0 (bw_A [adText a0, adSteps a1] sz) := by
  refine Met.ofW (cc := b_Text_mentionCell) (maxL := 3) (ret := (none : Option Jvm.ClassFile.FieldType)) (by decide) rfl ?_
  intro p e s m args below meth c s₁ B hml hv
  obtain ⟨rfl, hsz, hP, hK, hN0, hnx⟩ := hv
  have hx := B.exec
  have hb := B.bytes
  have hr := B.returns
  have hts : ∀ w ∈ wsAll, w.before [.ref (a0 0), .int x1].toArray s = true := fun w h9 => atoms_spec (ws := ws_Text_mentionCell) B.pre w (List.mem_cons_of_mem _ h9)
  have hown : s.vm.findClass R_Text = some m.cls := findClass_of_methodNamed B.named
  have hlocks := B.notSynchronized
  subst hsz
  have hN : bw_N (bw_A [adText a0, adSteps a1] s.heap.size) [adText a0, adSteps a1] := hN0.self s.heap.size
  generalize hAe : bw_A [adText a0, adSteps a1] s.heap.size = A at hN ⊢
  have hA : ∀ q : Nat, s.heap.size ≤ q → A q := fun q h => by rw [← hAe]; exact Or.inr h
  have hS : va_S A s.heap s.heap [] := va_S.rf
  have hl := lv_entry ([.ref (a0 0), .int x1]) (n := 3) (Nat.le_of_ble_eq_true rfl)
  rw [lg_entry_eq]
  generalize (lg_sl ([.ref (a0 0), .int x1]) ++ List.replicate (3 - (lg_sl ([.ref (a0 0), .int x1])).length) Slot.unset).toArray = ls at hl ⊢
  have hl : lv_has ls 3 [(0, .ref (a0 0)), (1, .int x1)] := hl
  have C0 : cx wsAll vwCl nx p s m [.ref (a0 0), .int x1].toArray meth c (dC, dI) (tyA ct) b_Text_mentionCell 3 (none : Option Jvm.ClassFile.FieldType) R_Text A [adText a0, adSteps a1] := ⟨hx, hb, hr, hml, hown, hlocks, hts, hK, hN, hA, hnx⟩
  have h := hF
  rw [F_Text_mentionCell] at h
  refine lv_aload_n hx hb d_Text_mentionCell_0 rfl (lv_at hl 0 rfl) ?_
  refine va_get (D := (dC, dI)) (ci := 2) (v := .ref (a1 0)) (C := R_Text) (T := T_Text) (N := 12) hx hb hts in_Text hown hK (hP 0 _ rfl) 0 rfl rfl 2 (by decide) (hts _ fl_Text_22) (fun _ h9 => h9) rfl d_Text_mentionCell_1 ?_
  refine lv_iconst (v := 3) hx hb d_Text_mentionCell_4 (by decide) ?_
  refine lv_iload_n hx hb d_Text_mentionCell_5 rfl (lv_at hl 1 rfl) ?_
  refine lv_iconst (v := 0) hx hb d_Text_mentionCell_6 (by decide) ?_
  obtain ⟨o_2, hG1, h⟩ := bind1_some h
  refine bw_call (Lc := [wSteps ct a1 o1]) (Lc' := [wSteps ct a1 o_2]) (L' := [wText ct a0 (a1 0) o0, wSteps ct a1 o_2]) [1] (va_runV (As := [.int (3 : Int32), .int x1, .int (0 : Int32)]) (rest := []) ⟨hx, hb, hml, hown, hts⟩ (c_Steps_add l ct dC dI a1 _ (3 : Int32) x1 (0 : Int32) o1 o_2 hG1) (cwV 3 hts g_Text_61 rfl rfl rfl (by decide +kernel) ⟨Nat.le_of_ble_eq_true rfl, Nat.le_of_ble_eq_true rfl⟩) ⟨bw_blind nx_call, va_recv hK (hP 1 _ rfl) (ci := 0) (q0 := 0) rfl rfl, fun U hU hW => ⟨rfl, by rw [hU], by rw [hU]; exact hP.sub [1] rfl, va_K.moved hW.alike hK, (hN.sub [1] (by decide) rfl).weaken (fun _ _ => trivial), nx_warm hW hnx⟩⟩ rfl rfl hl.1 rfl (Nat.le_of_ble_eq_true rfl) d_Text_mentionCell_7 ⟨Nat.le_of_ble_eq_true rfl, Nat.le_of_ble_eq_true rfl⟩) hP hN hS hA rfl rfl rfl (fun H locs hP hS => ?_)
  refine lv_aload_n hx hb d_Text_mentionCell_10 rfl (lv_at hl 0 rfl) ?_
  obtain ⟨v4, hG3, h⟩ := bind1_some h
  refine bw_callR (va_runV (As := []) (rest := []) ⟨hx, hb, hml, hown, hts⟩ (c_Text_openCell l ct dC dI a0 (a1 0) _ o0 v4 hG3) (cwV 0 hts g_Text_65 rfl rfl rfl (by decide +kernel) ⟨Nat.le_of_ble_eq_true rfl, Nat.le_of_ble_eq_true rfl⟩) ⟨bw_blind nx_call, va_recv hK (hP 0 _ rfl) (ci := 2) (q0 := 0) rfl rfl, fun U hU hW => ⟨rfl, by rw [hU], by rw [hU]; exact hP.sub [0] rfl, va_K.moved hW.alike hK, (hN.sub [0] (by decide) rfl).weaken (fun _ _ => trivial), nx_warm hW hnx⟩⟩ rfl rfl hl.1 rfl (Nat.le_of_ble_eq_true rfl) d_Text_mentionCell_11 ⟨Nat.le_of_ble_eq_true rfl, Nat.le_of_ble_eq_true rfl⟩) ?_
  refine lv_istore_n (lv' := [(2, .int v4), (0, .ref (a0 0)), (1, .int x1)]) hx hb d_Text_mentionCell_14 rfl hl (by decide) rfl (fun ls hl => ?_)
  refine lv_iload_n hx hb d_Text_mentionCell_15 rfl (lv_at hl 0 rfl) ?_
  refine lv_iconst (v := -1) hx hb d_Text_mentionCell_16 (by decide) ?_
  refine lv_icmp_eq (tgt := 32) hx hb d_Text_mentionCell_17 (by decide) (fun c5 => ?_) (fun c5 => ?_)
  · have h := ite_t c5 h
    cases h
    exact W.vret hx hb hr (fun t ht hW => ⟨rfl, by rw [ht]; exact hP, hS.F ht⟩) hS.2.2 d_Text_mentionCell_32
  · have h := ite_f c5 h
    refine lv_aload_n hx hb d_Text_mentionCell_20 rfl (lv_at hl 1 rfl) ?_
    refine va_get (D := (dC, dI)) (ci := 2) (v := .ref (a0 6)) (C := R_Text) (T := T_Text) (N := 12) hx hb hts in_Text hown hK (hP 0 _ rfl) 0 rfl rfl 8 (by decide) (hts _ fl_Text_42) (fun _ h9 => h9) rfl d_Text_mentionCell_21 ?_
    refine lv_iload_n hx hb d_Text_mentionCell_24 rfl (lv_at hl 0 rfl) ?_
    refine lv_dup2_11 hx hb d_Text_mentionCell_25 rfl rfl ?_
    obtain ⟨hi6, h⟩ := chk_some h
    refine va_lald (f := g64 o0 8) hx hb hK (hP 0 _ rfl) 6 1 rfl rfl (inb_in hi6) d_Text_mentionCell_26 ?_
    refine lv_lconst (v := 1) hx hb d_Text_mentionCell_27 (by decide) ?_
    refine lv_iload_n hx hb d_Text_mentionCell_28 rfl (lv_at hl 2 rfl) ?_
    refine lv_lshl (v := (lshl (1 : Int64) x1)) hx hb d_Text_mentionCell_29 rfl ?_
    refine lv_lor hx hb d_Text_mentionCell_30 ?_
    refine bw_last hx hb hK hP hN hS 0 6 1 rfl rfl rfl (inb_in hi6) d_Text_mentionCell_31 (fun H locs hP hS => ?_)
    have hP : bw_P (dC, dI) vwCl [wText ct a0 (a1 0) (s64 o0 8 (Int32.toNatClampNeg v4) ((g64 o0 8 (Int32.toNatClampNeg v4)) ||| (lshl (1 : Int64) x1))), wSteps ct a1 o_2] H := hP
    cases h
    exact W.vret hx hb hr (fun t ht hW => ⟨rfl, by rw [ht]; exact hP, hS.F ht⟩) hS.2.2 d_Text_mentionCell_32
