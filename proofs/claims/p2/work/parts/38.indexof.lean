/-! STRING.INDEXOF over "whdxyz" -/
abbrev b_SL_canEncode : ByteArray := prog_18_method_4_code
def y_SL_canEncode : MethodName := ⟨"java/lang/StringLatin1", "canEncode", "(I)Z"⟩
theorem d_SL_canEncode_0 : decode b_SL_canEncode 0 = .ok (.iload_n 0, 1) := by decide +kernel
theorem d_SL_canEncode_1 : decode b_SL_canEncode 1 = .ok (.ifCond .lt 14, 3) := by decide +kernel
theorem d_SL_canEncode_4 : decode b_SL_canEncode 4 = .ok (.iload_n 0, 1) := by decide +kernel
theorem d_SL_canEncode_5 : decode b_SL_canEncode 5 = .ok (.sipush 255, 3) := by decide +kernel
theorem d_SL_canEncode_8 : decode b_SL_canEncode 8 = .ok (.if_icmp .gt 7, 3) := by decide +kernel
theorem d_SL_canEncode_11 : decode b_SL_canEncode 11 = .ok (.iconst 1, 1) := by decide +kernel
theorem d_SL_canEncode_12 : decode b_SL_canEncode 12 = .ok (.goto 4, 3) := by decide +kernel
theorem d_SL_canEncode_15 : decode b_SL_canEncode 15 = .ok (.iconst 0, 1) := by decide +kernel
theorem d_SL_canEncode_16 : decode b_SL_canEncode 16 = .ok (.ireturn, 1) := by decide +kernel
abbrev ws_SL_canEncode : List Cond := Cond.code y_SL_canEncode b_SL_canEncode 1 (some .boolean) :: wsAll
abbrev b_SL_indexOfChar : ByteArray := prog_18_method_23_code
def y_SL_indexOfChar : MethodName := ⟨"java/lang/StringLatin1", "indexOfChar", "([BIII)I"⟩
theorem d_SL_indexOfChar_0 : decode b_SL_indexOfChar 0 = .ok (.iload_n 1, 1) := by decide +kernel
theorem d_SL_indexOfChar_1 : decode b_SL_indexOfChar 1 = .ok (.i2b, 1) := by decide +kernel
theorem d_SL_indexOfChar_2 : decode b_SL_indexOfChar 2 = .ok (.istore 4, 2) := by decide +kernel
theorem d_SL_indexOfChar_4 : decode b_SL_indexOfChar 4 = .ok (.iload_n 2, 1) := by decide +kernel
theorem d_SL_indexOfChar_5 : decode b_SL_indexOfChar 5 = .ok (.istore 5, 2) := by decide +kernel
theorem d_SL_indexOfChar_7 : decode b_SL_indexOfChar 7 = .ok (.iload 5, 2) := by decide +kernel
theorem d_SL_indexOfChar_9 : decode b_SL_indexOfChar 9 = .ok (.iload_n 3, 1) := by decide +kernel
theorem d_SL_indexOfChar_10 : decode b_SL_indexOfChar 10 = .ok (.if_icmp .ge 21, 3) := by decide +kernel
theorem d_SL_indexOfChar_13 : decode b_SL_indexOfChar 13 = .ok (.aload_n 0, 1) := by decide +kernel
theorem d_SL_indexOfChar_14 : decode b_SL_indexOfChar 14 = .ok (.iload 5, 2) := by decide +kernel
theorem d_SL_indexOfChar_16 : decode b_SL_indexOfChar 16 = .ok (.baload, 1) := by decide +kernel
theorem d_SL_indexOfChar_17 : decode b_SL_indexOfChar 17 = .ok (.iload 4, 2) := by decide +kernel
theorem d_SL_indexOfChar_19 : decode b_SL_indexOfChar 19 = .ok (.if_icmp .ne 6, 3) := by decide +kernel
theorem d_SL_indexOfChar_22 : decode b_SL_indexOfChar 22 = .ok (.iload 5, 2) := by decide +kernel
theorem d_SL_indexOfChar_24 : decode b_SL_indexOfChar 24 = .ok (.ireturn, 1) := by decide +kernel
theorem d_SL_indexOfChar_25 : decode b_SL_indexOfChar 25 = .ok (.iinc 5 1, 3) := by decide +kernel
theorem d_SL_indexOfChar_28 : decode b_SL_indexOfChar 28 = .ok (.goto (-21), 3) := by decide +kernel
theorem d_SL_indexOfChar_31 : decode b_SL_indexOfChar 31 = .ok (.iconst (-1), 1) := by decide +kernel
theorem d_SL_indexOfChar_32 : decode b_SL_indexOfChar 32 = .ok (.ireturn, 1) := by decide +kernel
abbrev ws_SL_indexOfChar : List Cond := Cond.code y_SL_indexOfChar b_SL_indexOfChar 6 (some .int) :: wsAll
abbrev b_SL_indexOf : ByteArray := prog_18_method_22_code
def y_SL_indexOf : MethodName := ⟨"java/lang/StringLatin1", "indexOf", "([BIII)I"⟩
theorem d_SL_indexOf_0 : decode b_SL_indexOf 0 = .ok (.iload_n 1, 1) := by decide +kernel
theorem d_SL_indexOf_1 : decode b_SL_indexOf 1 = .ok (.invokestatic 88, 3) := by decide +kernel
theorem d_SL_indexOf_4 : decode b_SL_indexOf 4 = .ok (.ifCond .ne 5, 3) := by decide +kernel
theorem d_SL_indexOf_7 : decode b_SL_indexOf 7 = .ok (.iconst (-1), 1) := by decide +kernel
theorem d_SL_indexOf_8 : decode b_SL_indexOf 8 = .ok (.ireturn, 1) := by decide +kernel
theorem d_SL_indexOf_9 : decode b_SL_indexOf 9 = .ok (.iload_n 2, 1) := by decide +kernel
theorem d_SL_indexOf_10 : decode b_SL_indexOf 10 = .ok (.iconst 0, 1) := by decide +kernel
theorem d_SL_indexOf_11 : decode b_SL_indexOf 11 = .ok (.invokestatic 92, 3) := by decide +kernel
theorem d_SL_indexOf_14 : decode b_SL_indexOf 14 = .ok (.istore_n 2, 1) := by decide +kernel
theorem d_SL_indexOf_15 : decode b_SL_indexOf 15 = .ok (.iload_n 3, 1) := by decide +kernel
theorem d_SL_indexOf_16 : decode b_SL_indexOf 16 = .ok (.aload_n 0, 1) := by decide +kernel
theorem d_SL_indexOf_17 : decode b_SL_indexOf 17 = .ok (.arraylength, 1) := by decide +kernel
theorem d_SL_indexOf_18 : decode b_SL_indexOf 18 = .ok (.invokestatic 38, 3) := by decide +kernel
theorem d_SL_indexOf_21 : decode b_SL_indexOf 21 = .ok (.istore_n 3, 1) := by decide +kernel
theorem d_SL_indexOf_22 : decode b_SL_indexOf 22 = .ok (.iload_n 2, 1) := by decide +kernel
theorem d_SL_indexOf_23 : decode b_SL_indexOf 23 = .ok (.iload_n 3, 1) := by decide +kernel
theorem d_SL_indexOf_24 : decode b_SL_indexOf 24 = .ok (.if_icmp .lt 5, 3) := by decide +kernel
theorem d_SL_indexOf_27 : decode b_SL_indexOf 27 = .ok (.iconst (-1), 1) := by decide +kernel
theorem d_SL_indexOf_28 : decode b_SL_indexOf 28 = .ok (.ireturn, 1) := by decide +kernel
theorem d_SL_indexOf_29 : decode b_SL_indexOf 29 = .ok (.aload_n 0, 1) := by decide +kernel
theorem d_SL_indexOf_30 : decode b_SL_indexOf 30 = .ok (.iload_n 1, 1) := by decide +kernel
theorem d_SL_indexOf_31 : decode b_SL_indexOf 31 = .ok (.iload_n 2, 1) := by decide +kernel
theorem d_SL_indexOf_32 : decode b_SL_indexOf 32 = .ok (.iload_n 3, 1) := by decide +kernel
theorem d_SL_indexOf_33 : decode b_SL_indexOf 33 = .ok (.invokestatic 95, 3) := by decide +kernel
theorem d_SL_indexOf_36 : decode b_SL_indexOf 36 = .ok (.ireturn, 1) := by decide +kernel
abbrev ws_SL_indexOf : List Cond := Cond.code y_SL_indexOf b_SL_indexOf 4 (some .int) :: wsAll
abbrev b_Str_coder : ByteArray := prog_17_method_152_code
def y_Str_coder : MethodName := ⟨"java/lang/String", "coder", "()B"⟩
theorem d_Str_coder_0 : decode b_Str_coder 0 = .ok (.getstatic 38, 3) := by decide +kernel
theorem d_Str_coder_3 : decode b_Str_coder 3 = .ok (.ifCond .eq 10, 3) := by decide +kernel
theorem d_Str_coder_6 : decode b_Str_coder 6 = .ok (.aload_n 0, 1) := by decide +kernel
theorem d_Str_coder_7 : decode b_Str_coder 7 = .ok (.getfield 15, 3) := by decide +kernel
theorem d_Str_coder_10 : decode b_Str_coder 10 = .ok (.goto 4, 3) := by decide +kernel
theorem d_Str_coder_13 : decode b_Str_coder 13 = .ok (.iconst 1, 1) := by decide +kernel
theorem d_Str_coder_14 : decode b_Str_coder 14 = .ok (.ireturn, 1) := by decide +kernel
abbrev ws_Str_coder : List Cond := Cond.code y_Str_coder b_Str_coder 1 (some .byte) :: wsAll
abbrev b_Str_length : ByteArray := prog_17_method_54_code
def y_Str_length : MethodName := ⟨"java/lang/String", "length", "()I"⟩
theorem d_Str_length_0 : decode b_Str_length 0 = .ok (.aload_n 0, 1) := by decide +kernel
theorem d_Str_length_1 : decode b_Str_length 1 = .ok (.getfield 9, 3) := by decide +kernel
theorem d_Str_length_4 : decode b_Str_length 4 = .ok (.arraylength, 1) := by decide +kernel
theorem d_Str_length_5 : decode b_Str_length 5 = .ok (.aload_n 0, 1) := by decide +kernel
theorem d_Str_length_6 : decode b_Str_length 6 = .ok (.invokevirtual 335, 3) := by decide +kernel
theorem d_Str_length_9 : decode b_Str_length 9 = .ok (.ishr, 1) := by decide +kernel
theorem d_Str_length_10 : decode b_Str_length 10 = .ok (.ireturn, 1) := by decide +kernel
abbrev ws_Str_length : List Cond := Cond.code y_Str_length b_Str_length 1 (some .int) :: wsAll
abbrev b_Str_isLatin1 : ByteArray := prog_17_method_154_code
def y_Str_isLatin1 : MethodName := ⟨"java/lang/String", "isLatin1", "()Z"⟩
theorem d_Str_isLatin1_0 : decode b_Str_isLatin1 0 = .ok (.getstatic 38, 3) := by decide +kernel
theorem d_Str_isLatin1_3 : decode b_Str_isLatin1 3 = .ok (.ifCond .eq 14, 3) := by decide +kernel
theorem d_Str_isLatin1_6 : decode b_Str_isLatin1 6 = .ok (.aload_n 0, 1) := by decide +kernel
theorem d_Str_isLatin1_7 : decode b_Str_isLatin1 7 = .ok (.getfield 15, 3) := by decide +kernel
theorem d_Str_isLatin1_10 : decode b_Str_isLatin1 10 = .ok (.ifCond .ne 7, 3) := by decide +kernel
theorem d_Str_isLatin1_13 : decode b_Str_isLatin1 13 = .ok (.iconst 1, 1) := by decide +kernel
theorem d_Str_isLatin1_14 : decode b_Str_isLatin1 14 = .ok (.goto 4, 3) := by decide +kernel
theorem d_Str_isLatin1_17 : decode b_Str_isLatin1 17 = .ok (.iconst 0, 1) := by decide +kernel
theorem d_Str_isLatin1_18 : decode b_Str_isLatin1 18 = .ok (.ireturn, 1) := by decide +kernel
abbrev ws_Str_isLatin1 : List Cond := Cond.code y_Str_isLatin1 b_Str_isLatin1 1 (some .boolean) :: wsAll
abbrev b_Str_indexOf2 : ByteArray := prog_17_method_80_code
def y_Str_indexOf2 : MethodName := ⟨"java/lang/String", "indexOf", "(II)I"⟩
theorem d_Str_indexOf2_0 : decode b_Str_indexOf2 0 = .ok (.aload_n 0, 1) := by decide +kernel
theorem d_Str_indexOf2_1 : decode b_Str_indexOf2 1 = .ok (.invokevirtual 492, 3) := by decide +kernel
theorem d_Str_indexOf2_4 : decode b_Str_indexOf2 4 = .ok (.ifCond .eq 19, 3) := by decide +kernel
theorem d_Str_indexOf2_7 : decode b_Str_indexOf2 7 = .ok (.aload_n 0, 1) := by decide +kernel
theorem d_Str_indexOf2_8 : decode b_Str_indexOf2 8 = .ok (.getfield 9, 3) := by decide +kernel
theorem d_Str_indexOf2_11 : decode b_Str_indexOf2 11 = .ok (.iload_n 1, 1) := by decide +kernel
theorem d_Str_indexOf2_12 : decode b_Str_indexOf2 12 = .ok (.iload_n 2, 1) := by decide +kernel
theorem d_Str_indexOf2_13 : decode b_Str_indexOf2 13 = .ok (.aload_n 0, 1) := by decide +kernel
theorem d_Str_indexOf2_14 : decode b_Str_indexOf2 14 = .ok (.invokevirtual 505, 3) := by decide +kernel
theorem d_Str_indexOf2_17 : decode b_Str_indexOf2 17 = .ok (.invokestatic 637, 3) := by decide +kernel
theorem d_Str_indexOf2_20 : decode b_Str_indexOf2 20 = .ok (.goto 16, 3) := by decide +kernel
theorem d_Str_indexOf2_23 : decode b_Str_indexOf2 23 = .ok (.aload_n 0, 1) := by decide +kernel
theorem d_Str_indexOf2_24 : decode b_Str_indexOf2 24 = .ok (.getfield 9, 3) := by decide +kernel
theorem d_Str_indexOf2_27 : decode b_Str_indexOf2 27 = .ok (.iload_n 1, 1) := by decide +kernel
theorem d_Str_indexOf2_28 : decode b_Str_indexOf2 28 = .ok (.iload_n 2, 1) := by decide +kernel
theorem d_Str_indexOf2_29 : decode b_Str_indexOf2 29 = .ok (.aload_n 0, 1) := by decide +kernel
theorem d_Str_indexOf2_30 : decode b_Str_indexOf2 30 = .ok (.invokevirtual 505, 3) := by decide +kernel
theorem d_Str_indexOf2_33 : decode b_Str_indexOf2 33 = .ok (.invokestatic 640, 3) := by decide +kernel
theorem d_Str_indexOf2_36 : decode b_Str_indexOf2 36 = .ok (.ireturn, 1) := by decide +kernel
abbrev ws_Str_indexOf2 : List Cond := Cond.code y_Str_indexOf2 b_Str_indexOf2 3 (some .int) :: wsAll
abbrev b_Str_indexOf : ByteArray := prog_17_method_79_code
def y_Str_indexOf : MethodName := ⟨"java/lang/String", "indexOf", "(I)I"⟩
theorem d_Str_indexOf_0 : decode b_Str_indexOf 0 = .ok (.aload_n 0, 1) := by decide +kernel
theorem d_Str_indexOf_1 : decode b_Str_indexOf 1 = .ok (.iload_n 1, 1) := by decide +kernel
theorem d_Str_indexOf_2 : decode b_Str_indexOf 2 = .ok (.iconst 0, 1) := by decide +kernel
theorem d_Str_indexOf_3 : decode b_Str_indexOf 3 = .ok (.invokevirtual 633, 3) := by decide +kernel
theorem d_Str_indexOf_6 : decode b_Str_indexOf 6 = .ok (.ireturn, 1) := by decide +kernel
abbrev ws_Str_indexOf : List Cond := Cond.code y_Str_indexOf b_Str_indexOf 2 (some .int) :: wsAll
theorem cd_SL_canEncode : Cond.code ⟨"java/lang/StringLatin1", "canEncode", "(I)Z"⟩ prog_18_method_4_code 1 (some .boolean) ∈ wsAll := wa_of 450 (by decide +kernel) (by decide +kernel)
theorem cd_SL_indexOfChar : Cond.code ⟨"java/lang/StringLatin1", "indexOfChar", "([BIII)I"⟩ prog_18_method_23_code 6 (some .int) ∈ wsAll := wa_of 459 (by decide +kernel) (by decide +kernel)
theorem cd_SL_indexOf : Cond.code ⟨"java/lang/StringLatin1", "indexOf", "([BIII)I"⟩ prog_18_method_22_code 4 (some .int) ∈ wsAll := wa_of 447 (by decide +kernel) (by decide +kernel)
theorem cd_Str_coder : Cond.code ⟨"java/lang/String", "coder", "()B"⟩ prog_17_method_152_code 1 (some .byte) ∈ wsAll := wa_of 444 (by decide +kernel) (by decide +kernel)
theorem cd_Str_length : Cond.code ⟨"java/lang/String", "length", "()I"⟩ prog_17_method_54_code 1 (some .int) ∈ wsAll := wa_of 440 (by decide +kernel) (by decide +kernel)
theorem cd_Str_isLatin1 : Cond.code ⟨"java/lang/String", "isLatin1", "()Z"⟩ prog_17_method_154_code 1 (some .boolean) ∈ wsAll := wa_of 434 (by decide +kernel) (by decide +kernel)
theorem cd_Str_indexOf2 : Cond.code ⟨"java/lang/String", "indexOf", "(II)I"⟩ prog_17_method_80_code 3 (some .int) ∈ wsAll := wa_of 430 (by decide +kernel) (by decide +kernel)
theorem cd_Str_indexOf : Cond.code ⟨"java/lang/String", "indexOf", "(I)I"⟩ prog_17_method_79_code 2 (some .int) ∈ wsAll := wa_of 426 (by decide +kernel) (by decide +kernel)
theorem ini_String : Cond.initialized "java/lang/String" ∈ wsAll := wa_of 81 (by decide +kernel) (by decide +kernel)
theorem ini_SL : Cond.initialized "java/lang/StringLatin1" ∈ wsAll := wa_of 82 (by decide +kernel) (by decide +kernel)
theorem ml_JL_88 : Cond.methodLink "java/lang/StringLatin1" 88 ⟨"java/lang/StringLatin1", "canEncode", "(I)Z"⟩ ∈ wsAll := wa_of 448 (by decide +kernel) (by decide +kernel)
theorem st_SL_canEncode : Cond.static ⟨"java/lang/StringLatin1", "canEncode", "(I)Z"⟩ ∈ wsAll := wa_of 449 (by decide +kernel) (by decide +kernel)
theorem ml_JL_92 : Cond.methodLink "java/lang/StringLatin1" 92 ⟨"java/lang/Math", "max", "(II)I"⟩ ∈ wsAll := wa_of 451 (by decide +kernel) (by decide +kernel)
theorem ml_JL_38 : Cond.methodLink "java/lang/StringLatin1" 38 ⟨"java/lang/Math", "min", "(II)I"⟩ ∈ wsAll := wa_of 454 (by decide +kernel) (by decide +kernel)
theorem st_JMath_min : Cond.static ⟨"java/lang/Math", "min", "(II)I"⟩ ∈ wsAll := wa_of 455 (by decide +kernel) (by decide +kernel)
theorem cd_JMath_min : Cond.code ⟨"java/lang/Math", "min", "(II)I"⟩ prog_15_method_69_code 2 (some .int) ∈ wsAll := wa_of 456 (by decide +kernel) (by decide +kernel)
theorem ml_JL_95 : Cond.methodLink "java/lang/StringLatin1" 95 ⟨"java/lang/StringLatin1", "indexOfChar", "([BIII)I"⟩ ∈ wsAll := wa_of 457 (by decide +kernel) (by decide +kernel)
theorem st_SL_indexOfChar : Cond.static ⟨"java/lang/StringLatin1", "indexOfChar", "([BIII)I"⟩ ∈ wsAll := wa_of 458 (by decide +kernel) (by decide +kernel)
theorem fl_JS_38 : Cond.fieldLink "java/lang/String" 38 "java/lang/String" "COMPACT_STRINGS" "Z" ∈ wsAll := wa_of 435 (by decide +kernel) (by decide +kernel)
theorem fl_JS_15 : Cond.fieldLink "java/lang/String" 15 "java/lang/String" "coder" "B" ∈ wsAll := wa_of 1284 (by decide +kernel) (by decide +kernel)
theorem fl_JS_9 : Cond.fieldLink "java/lang/String" 9 "java/lang/String" "value" "[B" ∈ wsAll := wa_of 1285 (by decide +kernel) (by decide +kernel)
theorem ml_JS_335 : Cond.methodLink "java/lang/String" 335 ⟨"java/lang/String", "coder", "()B"⟩ ∈ wsAll := wa_of 441 (by decide +kernel) (by decide +kernel)
theorem im_Str_coder : Cond.instanceMethod ⟨"java/lang/String", "coder", "()B"⟩ ∈ wsAll := wa_of 442 (by decide +kernel) (by decide +kernel)
theorem se_Str_coder : Cond.selects "java/lang/String" ⟨"java/lang/String", "coder", "()B"⟩ ⟨"java/lang/String", "coder", "()B"⟩ ∈ wsAll := wa_of 443 (by decide +kernel) (by decide +kernel)
theorem ml_JS_492 : Cond.methodLink "java/lang/String" 492 ⟨"java/lang/String", "isLatin1", "()Z"⟩ ∈ wsAll := wa_of 431 (by decide +kernel) (by decide +kernel)
theorem im_Str_isLatin1 : Cond.instanceMethod ⟨"java/lang/String", "isLatin1", "()Z"⟩ ∈ wsAll := wa_of 432 (by decide +kernel) (by decide +kernel)
theorem se_Str_isLatin1 : Cond.selects "java/lang/String" ⟨"java/lang/String", "isLatin1", "()Z"⟩ ⟨"java/lang/String", "isLatin1", "()Z"⟩ ∈ wsAll := wa_of 433 (by decide +kernel) (by decide +kernel)
theorem ml_JS_505 : Cond.methodLink "java/lang/String" 505 ⟨"java/lang/String", "length", "()I"⟩ ∈ wsAll := wa_of 437 (by decide +kernel) (by decide +kernel)
theorem im_Str_length : Cond.instanceMethod ⟨"java/lang/String", "length", "()I"⟩ ∈ wsAll := wa_of 438 (by decide +kernel) (by decide +kernel)
theorem se_Str_length : Cond.selects "java/lang/String" ⟨"java/lang/String", "length", "()I"⟩ ⟨"java/lang/String", "length", "()I"⟩ ∈ wsAll := wa_of 439 (by decide +kernel) (by decide +kernel)
theorem ml_JS_637 : Cond.methodLink "java/lang/String" 637 ⟨"java/lang/StringLatin1", "indexOf", "([BIII)I"⟩ ∈ wsAll := wa_of 445 (by decide +kernel) (by decide +kernel)
theorem st_SL_indexOf : Cond.static ⟨"java/lang/StringLatin1", "indexOf", "([BIII)I"⟩ ∈ wsAll := wa_of 446 (by decide +kernel) (by decide +kernel)
theorem ml_JS_633 : Cond.methodLink "java/lang/String" 633 ⟨"java/lang/String", "indexOf", "(II)I"⟩ ∈ wsAll := wa_of 427 (by decide +kernel) (by decide +kernel)
theorem im_Str_indexOf2 : Cond.instanceMethod ⟨"java/lang/String", "indexOf", "(II)I"⟩ ∈ wsAll := wa_of 428 (by decide +kernel) (by decide +kernel)
theorem se_Str_indexOf2 : Cond.selects "java/lang/String" ⟨"java/lang/String", "indexOf", "(II)I"⟩ ⟨"java/lang/String", "indexOf", "(II)I"⟩ ∈ wsAll := wa_of 429 (by decide +kernel) (by decide +kernel)
def R_JStr : String := "java/lang/String"
def R_JSL : String := "java/lang/StringLatin1"
abbrev rm_SL_canEncode : Room := { frames := 0, cells := 0, slots := 0, locals := 0 }
set_option maxHeartbeats 4000000 in
set_option maxRecDepth 100000 in
theorem c_SL_canEncode (l : Launch) (q qv : Nat) (x : Int32) : Met l y_SL_canEncode ws_SL_canEncode rm_SL_canEncode (strP [.int x] q qv) (bw_QR (some (.int (if x < 0 then 0 else if 255 < x then 0 else 1)))) 0 0 (fun _ => False) := by
  refine Met.ofW (cc := b_SL_canEncode) (maxL := 1) (ret := (some .boolean)) (by decide) rfl ?_
  intro p e s m args below meth c s₁ B hml hv
  obtain ⟨rfl, hE⟩ := hv
  have hx := B.exec
  have hb := B.bytes
  have hr := B.returns
  have hts : ∀ w ∈ wsAll, w.before ([.int x] : List Value).toArray s = true := fun w h9 => atoms_spec (ws := ws_SL_canEncode) B.pre w (List.mem_cons_of_mem _ h9)
  have hown : s.vm.findClass R_JSL = some m.cls := findClass_of_methodNamed B.named
  have hS : va_S (fun _ : Nat => False) s.heap s.heap [] := va_S.rf
  have hl := lv_entry ([.int x]) (n := 1) (Nat.le_of_ble_eq_true rfl)
  rw [lg_entry_eq]
  generalize (lg_sl ([.int x]) ++ List.replicate (1 - (lg_sl ([.int x])).length) Slot.unset).toArray = ls at hl ⊢
  have hl : lv_has ls 1 [(0, .int x)] := hl
  refine lv_iload_n hx hb d_SL_canEncode_0 rfl (lv_at hl 0 rfl) ?_
  refine lv_if_lt (tgt := 15) hx hb d_SL_canEncode_1 (by decide) (fun c1 => ?_) (fun c1 => ?_)
  · rw [if_pos c1]
    refine lv_iconst (v := 0) hx hb d_SL_canEncode_15 (by decide) ?_
    exact W.zret hx hb hr rfl (fun t ht hW => ⟨rfl, ht⟩) (fun q hq => by cases hq) d_SL_canEncode_16
  · rw [if_neg c1]
    refine lv_iload_n hx hb d_SL_canEncode_4 rfl (lv_at hl 0 rfl) ?_
    refine lv_sipush (v := 255) hx hb d_SL_canEncode_5 (by decide) ?_
    refine lv_icmp_gt (tgt := 15) hx hb d_SL_canEncode_8 (by decide) (fun c2 => ?_) (fun c2 => ?_)
    · rw [if_pos c2]
      refine lv_iconst (v := 0) hx hb d_SL_canEncode_15 (by decide) ?_
      exact W.zret hx hb hr rfl (fun t ht hW => ⟨rfl, ht⟩) (fun q hq => by cases hq) d_SL_canEncode_16
    · rw [if_neg c2]
      refine lv_iconst (v := 1) hx hb d_SL_canEncode_11 (by decide) ?_
      refine lv_goto (tgt := 16) hx hb d_SL_canEncode_12 (by decide) ?_
      exact W.zret hx hb hr rfl (fun t ht hW => ⟨rfl, ht⟩) (fun q hq => by cases hq) d_SL_canEncode_16
abbrev rm_SL_indexOfChar : Room := { frames := 0, cells := 0, slots := 0, locals := 0 }
set_option maxHeartbeats 4000000 in
set_option maxRecDepth 100000 in
theorem c_SL_indexOfChar (l : Launch) (q qv : Nat) (x : Int32) : Met l y_SL_indexOfChar ws_SL_indexOfChar rm_SL_indexOfChar (strP [.ref qv, .int x, .int 0, .int 6] q qv) (bw_QR (some (.int (idxB (i2b x))))) 0 0 (fun _ => False) := by
  refine Met.ofW (cc := b_SL_indexOfChar) (maxL := 6) (ret := (some .int)) (by decide) rfl ?_
  intro p e s m args below meth c s₁ B hml hv
  obtain ⟨rfl, hE⟩ := hv
  have hx := B.exec
  have hb := B.bytes
  have hr := B.returns
  have hts : ∀ w ∈ wsAll, w.before ([.ref qv, .int x, .int 0, .int 6] : List Value).toArray s = true := fun w h9 => atoms_spec (ws := ws_SL_indexOfChar) B.pre w (List.mem_cons_of_mem _ h9)
  have hown : s.vm.findClass R_JSL = some m.cls := findClass_of_methodNamed B.named
  have hS : va_S (fun _ : Nat => False) s.heap s.heap [] := va_S.rf
  have hl := lv_entry ([.ref qv, .int x, .int 0, .int 6]) (n := 6) (Nat.le_of_ble_eq_true rfl)
  rw [lg_entry_eq]
  generalize (lg_sl ([.ref qv, .int x, .int 0, .int 6]) ++ List.replicate (6 - (lg_sl ([.ref qv, .int x, .int 0, .int 6])).length) Slot.unset).toArray = ls at hl ⊢
  have hT := (hE.1.1 0 (by decide)).2.2.2
  have hl : lv_has ls 6 [(0, .ref qv), (1, .int x), (2, .int 0), (3, .int 6)] := hl
  rw [idxB]
  refine lv_iload_n hx hb d_SL_indexOfChar_0 rfl (lv_at hl 1 rfl) ?_
  refine lv_i2b (v := i2b x) hx hb d_SL_indexOfChar_1 rfl ?_
  generalize i2b x = z
  refine lv_istore (lv' := [(4, .int z), (0, .ref qv), (1, .int x), (2, .int 0), (3, .int 6)]) hx hb d_SL_indexOfChar_2 hl (by decide) rfl (fun ls hl => ?_)
  refine lv_iload_n hx hb d_SL_indexOfChar_4 rfl (lv_at hl 3 rfl) ?_
  refine lv_istore (lv' := [(5, .int 0), (4, .int z), (0, .ref qv), (1, .int x), (2, .int 0), (3, .int 6)]) hx hb d_SL_indexOfChar_5 hl (by decide) rfl (fun ls hl => ?_)
  refine lv_iload hx hb d_SL_indexOfChar_7 (lv_at hl 0 rfl) ?_
  refine lv_iload_n hx hb d_SL_indexOfChar_9 rfl (lv_at hl 5 rfl) ?_
  refine lv_icmp_ge (tgt := 31) hx hb d_SL_indexOfChar_10 (by decide) (fun c9 => absurd c9 (by decide)) (fun _ => ?_)
  refine lv_aload_n hx hb d_SL_indexOfChar_13 rfl (lv_at hl 2 rfl) ?_
  refine lv_iload hx hb d_SL_indexOfChar_14 (lv_at hl 0 rfl) ?_
  refine va_tb (v := .int 119) hx hb hT hS (inb_in (by decide)) rfl d_SL_indexOfChar_16 ?_
  refine lv_iload hx hb d_SL_indexOfChar_17 (lv_at hl 1 rfl) ?_
  refine lv_icmp_ne (tgt := 25) hx hb d_SL_indexOfChar_19 (by decide) (fun c0 => ?_) (fun c0 => ?_)
  · rw [if_neg c0]
    refine lv_iinc (v := 1) (lv' := [(5, .int 1), (4, .int z), (0, .ref qv), (1, .int x), (2, .int 0), (3, .int 6)]) hx hb d_SL_indexOfChar_25 hl (k := 0) rfl (by decide) (by decide) rfl (fun ls hl => ?_)
    refine lv_goto (tgt := 7) hx hb d_SL_indexOfChar_28 (by decide) ?_
    refine lv_iload hx hb d_SL_indexOfChar_7 (lv_at hl 0 rfl) ?_
    refine lv_iload_n hx hb d_SL_indexOfChar_9 rfl (lv_at hl 5 rfl) ?_
    refine lv_icmp_ge (tgt := 31) hx hb d_SL_indexOfChar_10 (by decide) (fun c9 => absurd c9 (by decide)) (fun _ => ?_)
    refine lv_aload_n hx hb d_SL_indexOfChar_13 rfl (lv_at hl 2 rfl) ?_
    refine lv_iload hx hb d_SL_indexOfChar_14 (lv_at hl 0 rfl) ?_
    refine va_tb (v := .int 104) hx hb hT hS (inb_in (by decide)) rfl d_SL_indexOfChar_16 ?_
    refine lv_iload hx hb d_SL_indexOfChar_17 (lv_at hl 1 rfl) ?_
    refine lv_icmp_ne (tgt := 25) hx hb d_SL_indexOfChar_19 (by decide) (fun c1 => ?_) (fun c1 => ?_)
    · rw [if_neg c1]
      refine lv_iinc (v := 2) (lv' := [(5, .int 2), (4, .int z), (0, .ref qv), (1, .int x), (2, .int 0), (3, .int 6)]) hx hb d_SL_indexOfChar_25 hl (k := 0) rfl (by decide) (by decide) rfl (fun ls hl => ?_)
      refine lv_goto (tgt := 7) hx hb d_SL_indexOfChar_28 (by decide) ?_
      refine lv_iload hx hb d_SL_indexOfChar_7 (lv_at hl 0 rfl) ?_
      refine lv_iload_n hx hb d_SL_indexOfChar_9 rfl (lv_at hl 5 rfl) ?_
      refine lv_icmp_ge (tgt := 31) hx hb d_SL_indexOfChar_10 (by decide) (fun c9 => absurd c9 (by decide)) (fun _ => ?_)
      refine lv_aload_n hx hb d_SL_indexOfChar_13 rfl (lv_at hl 2 rfl) ?_
      refine lv_iload hx hb d_SL_indexOfChar_14 (lv_at hl 0 rfl) ?_
      refine va_tb (v := .int 100) hx hb hT hS (inb_in (by decide)) rfl d_SL_indexOfChar_16 ?_
      refine lv_iload hx hb d_SL_indexOfChar_17 (lv_at hl 1 rfl) ?_
      refine lv_icmp_ne (tgt := 25) hx hb d_SL_indexOfChar_19 (by decide) (fun c2 => ?_) (fun c2 => ?_)
      · rw [if_neg c2]
        refine lv_iinc (v := 3) (lv' := [(5, .int 3), (4, .int z), (0, .ref qv), (1, .int x), (2, .int 0), (3, .int 6)]) hx hb d_SL_indexOfChar_25 hl (k := 0) rfl (by decide) (by decide) rfl (fun ls hl => ?_)
        refine lv_goto (tgt := 7) hx hb d_SL_indexOfChar_28 (by decide) ?_
        refine lv_iload hx hb d_SL_indexOfChar_7 (lv_at hl 0 rfl) ?_
        refine lv_iload_n hx hb d_SL_indexOfChar_9 rfl (lv_at hl 5 rfl) ?_
        refine lv_icmp_ge (tgt := 31) hx hb d_SL_indexOfChar_10 (by decide) (fun c9 => absurd c9 (by decide)) (fun _ => ?_)
        refine lv_aload_n hx hb d_SL_indexOfChar_13 rfl (lv_at hl 2 rfl) ?_
        refine lv_iload hx hb d_SL_indexOfChar_14 (lv_at hl 0 rfl) ?_
        refine va_tb (v := .int 120) hx hb hT hS (inb_in (by decide)) rfl d_SL_indexOfChar_16 ?_
        refine lv_iload hx hb d_SL_indexOfChar_17 (lv_at hl 1 rfl) ?_
        refine lv_icmp_ne (tgt := 25) hx hb d_SL_indexOfChar_19 (by decide) (fun c3 => ?_) (fun c3 => ?_)
        · rw [if_neg c3]
          refine lv_iinc (v := 4) (lv' := [(5, .int 4), (4, .int z), (0, .ref qv), (1, .int x), (2, .int 0), (3, .int 6)]) hx hb d_SL_indexOfChar_25 hl (k := 0) rfl (by decide) (by decide) rfl (fun ls hl => ?_)
          refine lv_goto (tgt := 7) hx hb d_SL_indexOfChar_28 (by decide) ?_
          refine lv_iload hx hb d_SL_indexOfChar_7 (lv_at hl 0 rfl) ?_
          refine lv_iload_n hx hb d_SL_indexOfChar_9 rfl (lv_at hl 5 rfl) ?_
          refine lv_icmp_ge (tgt := 31) hx hb d_SL_indexOfChar_10 (by decide) (fun c9 => absurd c9 (by decide)) (fun _ => ?_)
          refine lv_aload_n hx hb d_SL_indexOfChar_13 rfl (lv_at hl 2 rfl) ?_
          refine lv_iload hx hb d_SL_indexOfChar_14 (lv_at hl 0 rfl) ?_
          refine va_tb (v := .int 121) hx hb hT hS (inb_in (by decide)) rfl d_SL_indexOfChar_16 ?_
          refine lv_iload hx hb d_SL_indexOfChar_17 (lv_at hl 1 rfl) ?_
          refine lv_icmp_ne (tgt := 25) hx hb d_SL_indexOfChar_19 (by decide) (fun c4 => ?_) (fun c4 => ?_)
          · rw [if_neg c4]
            refine lv_iinc (v := 5) (lv' := [(5, .int 5), (4, .int z), (0, .ref qv), (1, .int x), (2, .int 0), (3, .int 6)]) hx hb d_SL_indexOfChar_25 hl (k := 0) rfl (by decide) (by decide) rfl (fun ls hl => ?_)
            refine lv_goto (tgt := 7) hx hb d_SL_indexOfChar_28 (by decide) ?_
            refine lv_iload hx hb d_SL_indexOfChar_7 (lv_at hl 0 rfl) ?_
            refine lv_iload_n hx hb d_SL_indexOfChar_9 rfl (lv_at hl 5 rfl) ?_
            refine lv_icmp_ge (tgt := 31) hx hb d_SL_indexOfChar_10 (by decide) (fun c9 => absurd c9 (by decide)) (fun _ => ?_)
            refine lv_aload_n hx hb d_SL_indexOfChar_13 rfl (lv_at hl 2 rfl) ?_
            refine lv_iload hx hb d_SL_indexOfChar_14 (lv_at hl 0 rfl) ?_
            refine va_tb (v := .int 122) hx hb hT hS (inb_in (by decide)) rfl d_SL_indexOfChar_16 ?_
            refine lv_iload hx hb d_SL_indexOfChar_17 (lv_at hl 1 rfl) ?_
            refine lv_icmp_ne (tgt := 25) hx hb d_SL_indexOfChar_19 (by decide) (fun c5 => ?_) (fun c5 => ?_)
            · rw [if_neg c5]
              refine lv_iinc (v := 6) (lv' := [(5, .int 6), (4, .int z), (0, .ref qv), (1, .int x), (2, .int 0), (3, .int 6)]) hx hb d_SL_indexOfChar_25 hl (k := 0) rfl (by decide) (by decide) rfl (fun ls hl => ?_)
              refine lv_goto (tgt := 7) hx hb d_SL_indexOfChar_28 (by decide) ?_
              refine lv_iload hx hb d_SL_indexOfChar_7 (lv_at hl 0 rfl) ?_
              refine lv_iload_n hx hb d_SL_indexOfChar_9 rfl (lv_at hl 5 rfl) ?_
              refine lv_icmp_ge (tgt := 31) hx hb d_SL_indexOfChar_10 (by decide) (fun _ => ?_) (fun c9 => absurd (by decide) c9)
              refine lv_iconst (v := -1) hx hb d_SL_indexOfChar_31 (by decide) ?_
              exact W.iret hx hb hr (fun t ht hW => ⟨rfl, ht⟩) (fun q hq => by cases hq) d_SL_indexOfChar_32
            · rw [if_pos c5]
              refine lv_iload hx hb d_SL_indexOfChar_22 (lv_at hl 0 rfl) ?_
              exact W.iret hx hb hr (fun t ht hW => ⟨rfl, ht⟩) (fun q hq => by cases hq) d_SL_indexOfChar_24
          · rw [if_pos c4]
            refine lv_iload hx hb d_SL_indexOfChar_22 (lv_at hl 0 rfl) ?_
            exact W.iret hx hb hr (fun t ht hW => ⟨rfl, ht⟩) (fun q hq => by cases hq) d_SL_indexOfChar_24
        · rw [if_pos c3]
          refine lv_iload hx hb d_SL_indexOfChar_22 (lv_at hl 0 rfl) ?_
          exact W.iret hx hb hr (fun t ht hW => ⟨rfl, ht⟩) (fun q hq => by cases hq) d_SL_indexOfChar_24
      · rw [if_pos c2]
        refine lv_iload hx hb d_SL_indexOfChar_22 (lv_at hl 0 rfl) ?_
        exact W.iret hx hb hr (fun t ht hW => ⟨rfl, ht⟩) (fun q hq => by cases hq) d_SL_indexOfChar_24
    · rw [if_pos c1]
      refine lv_iload hx hb d_SL_indexOfChar_22 (lv_at hl 0 rfl) ?_
      exact W.iret hx hb hr (fun t ht hW => ⟨rfl, ht⟩) (fun q hq => by cases hq) d_SL_indexOfChar_24
  · rw [if_pos c0]
    refine lv_iload hx hb d_SL_indexOfChar_22 (lv_at hl 0 rfl) ?_
    exact W.iret hx hb hr (fun t ht hW => ⟨rfl, ht⟩) (fun q hq => by cases hq) d_SL_indexOfChar_24
abbrev rm_SL_indexOf : Room := { frames := 1, cells := 0, slots := 0, locals := 60 }
theorem g_JL_88 : GoodIn wsAll (wsS R_JSL 88 y_SL_canEncode ws_SL_canEncode) := gd_S ml_JL_88 st_SL_canEncode ini_SL cd_SL_canEncode
theorem g_JL_95 : GoodIn wsAll (wsS R_JSL 95 y_SL_indexOfChar ws_SL_indexOfChar) := gd_S ml_JL_95 st_SL_indexOfChar ini_SL cd_SL_indexOfChar
set_option maxHeartbeats 4000000 in
set_option maxRecDepth 100000 in
theorem c_SL_indexOf (l : Launch) (q qv : Nat) (x : Int32) : Met l y_SL_indexOf ws_SL_indexOf rm_SL_indexOf (strP [.ref qv, .int x, .int 0, .int 6] q qv) (bw_QR (some (.int (idxOf x)))) 0 0 (fun _ => False) := by
  refine Met.ofW (cc := b_SL_indexOf) (maxL := 4) (ret := (some .int)) (by decide) rfl ?_
  intro p e s m args below meth c s₁ B hml hv
  obtain ⟨rfl, hE⟩ := hv
  have hx := B.exec
  have hb := B.bytes
  have hr := B.returns
  have hts : ∀ w ∈ wsAll, w.before ([.ref qv, .int x, .int 0, .int 6] : List Value).toArray s = true := fun w h9 => atoms_spec (ws := ws_SL_indexOf) B.pre w (List.mem_cons_of_mem _ h9)
  have hown : s.vm.findClass R_JSL = some m.cls := findClass_of_methodNamed B.named
  have hS : va_S (fun _ : Nat => False) s.heap s.heap [] := va_S.rf
  have hl := lv_entry ([.ref qv, .int x, .int 0, .int 6]) (n := 4) (Nat.le_of_ble_eq_true rfl)
  rw [lg_entry_eq]
  generalize (lg_sl ([.ref qv, .int x, .int 0, .int 6]) ++ List.replicate (4 - (lg_sl ([.ref qv, .int x, .int 0, .int 6])).length) Slot.unset).toArray = ls at hl ⊢
  have hT := (hE.1.1 0 (by decide)).2.2.2
  have hl : lv_has ls 4 [(0, .ref qv), (1, .int x), (2, .int 0), (3, .int 6)] := hl
  refine lv_iload_n hx hb d_SL_indexOf_0 rfl (lv_at hl 1 rfl) ?_
  refine bw_callR (va_runS (As := [.int x]) (rest := []) ⟨hx, hb, hml, hown, hts⟩ (c_SL_canEncode l q qv x) (cwS 1 hts g_JL_88 rfl rfl rfl (by decide +kernel) ⟨Nat.le_of_ble_eq_true rfl, Nat.le_of_ble_eq_true rfl⟩) ⟨str_blind, str_fact hE⟩ rfl rfl hl.1 rfl (Nat.le_of_ble_eq_true rfl) d_SL_indexOf_1 ⟨Nat.le_of_ble_eq_true rfl, Nat.le_of_ble_eq_true rfl⟩) ?_
  refine lv_if_ne (tgt := 9) hx hb d_SL_indexOf_4 (by decide) (fun c0 => ?_) (fun c0 => ?_)
  · have h9 : ¬ x < 0 ∧ ¬ 255 < x := ⟨fun z => c0 (if_pos z), fun z => c0 (by rw [if_neg (fun w => c0 (if_pos w)), if_pos z])⟩
    rw [idxOf, if_neg h9.1, if_neg h9.2]
    refine lv_iload_n hx hb d_SL_indexOf_9 rfl (lv_at hl 2 rfl) ?_
    refine lv_iconst (v := 0) hx hb d_SL_indexOf_10 (by decide) ?_
    refine va_mmax hx hb (hml.trans hl.1.symm) hown (hts _ ml_JL_92) (hts _ st_JMath_max) (hts _ ini_JMath) (hts _ cd_JMath_max) (Nat.le_of_ble_eq_true rfl) (Nat.le_of_ble_eq_true rfl) (Nat.zero_le _) (Nat.zero_le _) d_SL_indexOf_11 ?_
    refine lv_istore_n (lv' := [(2, .int 0), (0, .ref qv), (1, .int x), (3, .int 6)]) hx hb d_SL_indexOf_14 rfl hl (by decide) rfl (fun ls hl => ?_)
    refine lv_iload_n hx hb d_SL_indexOf_15 rfl (lv_at hl 3 rfl) ?_
    refine lv_aload_n hx hb d_SL_indexOf_16 rfl (lv_at hl 1 rfl) ?_
    refine va_tlen (v := 6) hx hb hT hS rfl d_SL_indexOf_17 ?_
    refine va_mmin hx hb (hml.trans hl.1.symm) hown (hts _ ml_JL_38) (hts _ st_JMath_min) (hts _ ini_JMath) (hts _ cd_JMath_min) (Nat.le_of_ble_eq_true rfl) (Nat.le_of_ble_eq_true rfl) (Nat.zero_le _) (Nat.zero_le _) d_SL_indexOf_18 ?_
    refine lv_istore_n (lv' := [(3, .int 6), (2, .int 0), (0, .ref qv), (1, .int x)]) hx hb d_SL_indexOf_21 rfl hl (by decide) rfl (fun ls hl => ?_)
    refine lv_iload_n hx hb d_SL_indexOf_22 rfl (lv_at hl 1 rfl) ?_
    refine lv_iload_n hx hb d_SL_indexOf_23 rfl (lv_at hl 0 rfl) ?_
    refine lv_icmp_lt (tgt := 29) hx hb d_SL_indexOf_24 (by decide) (fun _ => ?_) (fun c9 => absurd (by decide) c9)
    refine lv_aload_n hx hb d_SL_indexOf_29 rfl (lv_at hl 2 rfl) ?_
    refine lv_iload_n hx hb d_SL_indexOf_30 rfl (lv_at hl 3 rfl) ?_
    refine lv_iload_n hx hb d_SL_indexOf_31 rfl (lv_at hl 1 rfl) ?_
    refine lv_iload_n hx hb d_SL_indexOf_32 rfl (lv_at hl 0 rfl) ?_
    refine bw_callR (va_runS (As := [.ref qv, .int x, .int 0, .int 6]) (rest := []) ⟨hx, hb, hml, hown, hts⟩ (c_SL_indexOfChar l q qv x) (cwS 4 hts g_JL_95 rfl rfl rfl (by decide +kernel) ⟨Nat.le_of_ble_eq_true rfl, Nat.le_of_ble_eq_true rfl⟩) ⟨str_blind, str_fact hE⟩ rfl rfl hl.1 rfl (Nat.le_of_ble_eq_true rfl) d_SL_indexOf_33 ⟨Nat.le_of_ble_eq_true rfl, Nat.le_of_ble_eq_true rfl⟩) ?_
    exact W.iret hx hb hr (fun t ht hW => ⟨rfl, ht⟩) (fun q hq => by cases hq) d_SL_indexOf_36
  · have h9 : idxOf x = -1 := by
      rw [idxOf]
      by_cases z : x < 0
      · rw [if_pos z]
      · rw [if_neg z] at c0 ⊢
        by_cases z2 : 255 < x
        · rw [if_pos z2]
        · rw [if_neg z2] at c0; exact absurd c0 (by decide)
    rw [h9]
    refine lv_iconst (v := -1) hx hb d_SL_indexOf_7 (by decide) ?_
    exact W.iret hx hb hr (fun t ht hW => ⟨rfl, ht⟩) (fun q hq => by cases hq) d_SL_indexOf_8
abbrev rm_Str_coder : Room := { frames := 0, cells := 0, slots := 0, locals := 0 }
set_option maxHeartbeats 4000000 in
set_option maxRecDepth 100000 in
theorem c_Str_coder (l : Launch) (q qv : Nat) (x : Int32) : Met l y_Str_coder ws_Str_coder rm_Str_coder (strP [.ref q] q qv) (bw_QR (some (.int (0)))) 0 0 (fun _ => False) := by
  refine Met.ofW (cc := b_Str_coder) (maxL := 1) (ret := (some .byte)) (by decide) rfl ?_
  intro p e s m args below meth c s₁ B hml hv
  obtain ⟨rfl, hE⟩ := hv
  have hx := B.exec
  have hb := B.bytes
  have hr := B.returns
  have hts : ∀ w ∈ wsAll, w.before ([.ref q] : List Value).toArray s = true := fun w h9 => atoms_spec (ws := ws_Str_coder) B.pre w (List.mem_cons_of_mem _ h9)
  have hown : s.vm.findClass R_JStr = some m.cls := findClass_of_methodNamed B.named
  have hS : va_S (fun _ : Nat => False) s.heap s.heap [] := va_S.rf
  have hl := lv_entry ([.ref q]) (n := 1) (Nat.le_of_ble_eq_true rfl)
  rw [lg_entry_eq]
  generalize (lg_sl ([.ref q]) ++ List.replicate (1 - (lg_sl ([.ref q])).length) Slot.unset).toArray = ls at hl ⊢
  have hl : lv_has ls 1 [(0, .ref q)] := hl
  refine va_gets hx hb hE.2 hS hown (hts _ fl_JS_38) (fun _ h9 => h9) d_Str_coder_0 ?_
  refine lv_if_eq (tgt := 13) hx hb d_Str_coder_3 (by decide) (fun c9 => absurd c9 (by decide)) (fun _ => ?_)
  refine lv_aload_n hx hb d_Str_coder_6 rfl (lv_at hl 0 rfl) ?_
  refine vk_getf hx hb (hE.1.1 0 (by decide)).2.1 hS hown (hts _ fl_JS_15) (fun _ h9 => h9) d_Str_coder_7 ?_
  refine lv_goto (tgt := 14) hx hb d_Str_coder_10 (by decide) ?_
  exact W.zret hx hb hr rfl (fun t ht hW => ⟨rfl, ht⟩) (fun q hq => by cases hq) d_Str_coder_14
abbrev rm_Str_length : Room := { frames := 1, cells := 0, slots := 0, locals := 40 }
theorem g_JS_335 : GoodIn wsAll (wsV R_JStr 335 R_JStr y_Str_coder ws_Str_coder) := gd_V ml_JS_335 im_Str_coder se_Str_coder ini_String cd_Str_coder
set_option maxHeartbeats 4000000 in
set_option maxRecDepth 100000 in
theorem c_Str_length (l : Launch) (q qv : Nat) (x : Int32) : Met l y_Str_length ws_Str_length rm_Str_length (strP [.ref q] q qv) (bw_QR (some (.int (6)))) 0 0 (fun _ => False) := by
  refine Met.ofW (cc := b_Str_length) (maxL := 1) (ret := (some .int)) (by decide) rfl ?_
  intro p e s m args below meth c s₁ B hml hv
  obtain ⟨rfl, hE⟩ := hv
  have hx := B.exec
  have hb := B.bytes
  have hr := B.returns
  have hts : ∀ w ∈ wsAll, w.before ([.ref q] : List Value).toArray s = true := fun w h9 => atoms_spec (ws := ws_Str_length) B.pre w (List.mem_cons_of_mem _ h9)
  have hown : s.vm.findClass R_JStr = some m.cls := findClass_of_methodNamed B.named
  have hS : va_S (fun _ : Nat => False) s.heap s.heap [] := va_S.rf
  have hl := lv_entry ([.ref q]) (n := 1) (Nat.le_of_ble_eq_true rfl)
  rw [lg_entry_eq]
  generalize (lg_sl ([.ref q]) ++ List.replicate (1 - (lg_sl ([.ref q])).length) Slot.unset).toArray = ls at hl ⊢
  have hl : lv_has ls 1 [(0, .ref q)] := hl
  refine lv_aload_n hx hb d_Str_length_0 rfl (lv_at hl 0 rfl) ?_
  refine vk_getf hx hb (hE.1.1 0 (by decide)).2.2.1 hS hown (hts _ fl_JS_9) (fun _ h9 => h9) d_Str_length_1 ?_
  refine va_tlen (v := 6) hx hb (hE.1.1 0 (by decide)).2.2.2 hS rfl d_Str_length_4 ?_
  refine lv_aload_n hx hb d_Str_length_5 rfl (lv_at hl 0 rfl) ?_
  refine bw_callR (va_runV (As := []) (rest := [.int 6]) ⟨hx, hb, hml, hown, hts⟩ (c_Str_coder l q qv x) (cwV 0 hts g_JS_335 rfl rfl rfl (by decide +kernel) ⟨Nat.le_of_ble_eq_true rfl, Nat.le_of_ble_eq_true rfl⟩) ⟨str_blind, vk_recv (i := 0) hE.1 (by decide) hS, str_fact hE⟩ rfl rfl hl.1 rfl (Nat.le_of_ble_eq_true rfl) d_Str_length_6 ⟨Nat.le_of_ble_eq_true rfl, Nat.le_of_ble_eq_true rfl⟩) ?_
  refine lv_ishr hx hb d_Str_length_9 ?_
  exact W.iret hx hb hr (fun t ht hW => ⟨rfl, ht⟩) (fun q hq => by cases hq) d_Str_length_10
abbrev rm_Str_isLatin1 : Room := { frames := 0, cells := 0, slots := 0, locals := 0 }
set_option maxHeartbeats 4000000 in
set_option maxRecDepth 100000 in
theorem c_Str_isLatin1 (l : Launch) (q qv : Nat) (x : Int32) : Met l y_Str_isLatin1 ws_Str_isLatin1 rm_Str_isLatin1 (strP [.ref q] q qv) (bw_QR (some (.int (1)))) 0 0 (fun _ => False) := by
  refine Met.ofW (cc := b_Str_isLatin1) (maxL := 1) (ret := (some .boolean)) (by decide) rfl ?_
  intro p e s m args below meth c s₁ B hml hv
  obtain ⟨rfl, hE⟩ := hv
  have hx := B.exec
  have hb := B.bytes
  have hr := B.returns
  have hts : ∀ w ∈ wsAll, w.before ([.ref q] : List Value).toArray s = true := fun w h9 => atoms_spec (ws := ws_Str_isLatin1) B.pre w (List.mem_cons_of_mem _ h9)
  have hown : s.vm.findClass R_JStr = some m.cls := findClass_of_methodNamed B.named
  have hS : va_S (fun _ : Nat => False) s.heap s.heap [] := va_S.rf
  have hl := lv_entry ([.ref q]) (n := 1) (Nat.le_of_ble_eq_true rfl)
  rw [lg_entry_eq]
  generalize (lg_sl ([.ref q]) ++ List.replicate (1 - (lg_sl ([.ref q])).length) Slot.unset).toArray = ls at hl ⊢
  have hl : lv_has ls 1 [(0, .ref q)] := hl
  refine va_gets hx hb hE.2 hS hown (hts _ fl_JS_38) (fun _ h9 => h9) d_Str_isLatin1_0 ?_
  refine lv_if_eq (tgt := 17) hx hb d_Str_isLatin1_3 (by decide) (fun c9 => absurd c9 (by decide)) (fun _ => ?_)
  refine lv_aload_n hx hb d_Str_isLatin1_6 rfl (lv_at hl 0 rfl) ?_
  refine vk_getf hx hb (hE.1.1 0 (by decide)).2.1 hS hown (hts _ fl_JS_15) (fun _ h9 => h9) d_Str_isLatin1_7 ?_
  refine lv_if_ne (tgt := 17) hx hb d_Str_isLatin1_10 (by decide) (fun c9 => absurd rfl c9) (fun _ => ?_)
  refine lv_iconst (v := 1) hx hb d_Str_isLatin1_13 (by decide) ?_
  refine lv_goto (tgt := 18) hx hb d_Str_isLatin1_14 (by decide) ?_
  exact W.zret hx hb hr rfl (fun t ht hW => ⟨rfl, ht⟩) (fun q hq => by cases hq) d_Str_isLatin1_18
abbrev rm_Str_indexOf2 : Room := { frames := 2, cells := 0, slots := 0, locals := 110 }
theorem g_JS_492 : GoodIn wsAll (wsV R_JStr 492 R_JStr y_Str_isLatin1 ws_Str_isLatin1) := gd_V ml_JS_492 im_Str_isLatin1 se_Str_isLatin1 ini_String cd_Str_isLatin1
theorem g_JS_505 : GoodIn wsAll (wsV R_JStr 505 R_JStr y_Str_length ws_Str_length) := gd_V ml_JS_505 im_Str_length se_Str_length ini_String cd_Str_length
theorem g_JS_637 : GoodIn wsAll (va_wsS R_JStr 637 y_SL_indexOf ws_SL_indexOf) := gd_T ml_JS_637 st_SL_indexOf ini_SL cd_SL_indexOf
set_option maxHeartbeats 4000000 in
set_option maxRecDepth 100000 in
theorem c_Str_indexOf2 (l : Launch) (q qv : Nat) (x : Int32) : Met l y_Str_indexOf2 ws_Str_indexOf2 rm_Str_indexOf2 (strP [.ref q, .int x, .int 0] q qv) (bw_QR (some (.int (idxOf x)))) 0 0 (fun _ => False) := by
  refine Met.ofW (cc := b_Str_indexOf2) (maxL := 3) (ret := (some .int)) (by decide) rfl ?_
  intro p e s m args below meth c s₁ B hml hv
  obtain ⟨rfl, hE⟩ := hv
  have hx := B.exec
  have hb := B.bytes
  have hr := B.returns
  have hts : ∀ w ∈ wsAll, w.before ([.ref q, .int x, .int 0] : List Value).toArray s = true := fun w h9 => atoms_spec (ws := ws_Str_indexOf2) B.pre w (List.mem_cons_of_mem _ h9)
  have hown : s.vm.findClass R_JStr = some m.cls := findClass_of_methodNamed B.named
  have hS : va_S (fun _ : Nat => False) s.heap s.heap [] := va_S.rf
  have hl := lv_entry ([.ref q, .int x, .int 0]) (n := 3) (Nat.le_of_ble_eq_true rfl)
  rw [lg_entry_eq]
  generalize (lg_sl ([.ref q, .int x, .int 0]) ++ List.replicate (3 - (lg_sl ([.ref q, .int x, .int 0])).length) Slot.unset).toArray = ls at hl ⊢
  have hl : lv_has ls 3 [(0, .ref q), (1, .int x), (2, .int 0)] := hl
  refine lv_aload_n hx hb d_Str_indexOf2_0 rfl (lv_at hl 0 rfl) ?_
  refine bw_callR (va_runV (As := []) (rest := []) ⟨hx, hb, hml, hown, hts⟩ (c_Str_isLatin1 l q qv x) (cwV 0 hts g_JS_492 rfl rfl rfl (by decide +kernel) ⟨Nat.le_of_ble_eq_true rfl, Nat.le_of_ble_eq_true rfl⟩) ⟨str_blind, vk_recv (i := 0) hE.1 (by decide) hS, str_fact hE⟩ rfl rfl hl.1 rfl (Nat.le_of_ble_eq_true rfl) d_Str_indexOf2_1 ⟨Nat.le_of_ble_eq_true rfl, Nat.le_of_ble_eq_true rfl⟩) ?_
  refine lv_if_eq (tgt := 23) hx hb d_Str_indexOf2_4 (by decide) (fun c9 => absurd c9 (by decide)) (fun _ => ?_)
  refine lv_aload_n hx hb d_Str_indexOf2_7 rfl (lv_at hl 0 rfl) ?_
  refine vk_getf hx hb (hE.1.1 0 (by decide)).2.2.1 hS hown (hts _ fl_JS_9) (fun _ h9 => h9) d_Str_indexOf2_8 ?_
  refine lv_iload_n hx hb d_Str_indexOf2_11 rfl (lv_at hl 1 rfl) ?_
  refine lv_iload_n hx hb d_Str_indexOf2_12 rfl (lv_at hl 2 rfl) ?_
  refine lv_aload_n hx hb d_Str_indexOf2_13 rfl (lv_at hl 0 rfl) ?_
  refine bw_callR (va_runV (As := []) (rest := [.int 0, .int x, .ref qv]) ⟨hx, hb, hml, hown, hts⟩ (c_Str_length l q qv x) (cwV 0 hts g_JS_505 rfl rfl rfl (by decide +kernel) ⟨Nat.le_of_ble_eq_true rfl, Nat.le_of_ble_eq_true rfl⟩) ⟨str_blind, vk_recv (i := 0) hE.1 (by decide) hS, str_fact hE⟩ rfl rfl hl.1 rfl (Nat.le_of_ble_eq_true rfl) d_Str_indexOf2_14 ⟨Nat.le_of_ble_eq_true rfl, Nat.le_of_ble_eq_true rfl⟩) ?_
  refine bw_callR (va_runS (As := [.ref qv, .int x, .int 0, .int 6]) (rest := []) ⟨hx, hb, hml, hown, hts⟩ (c_SL_indexOf l q qv x) (va_cwS 4 hts g_JS_637 rfl rfl rfl (by decide +kernel) ⟨Nat.le_of_ble_eq_true rfl, Nat.le_of_ble_eq_true rfl⟩) ⟨str_blind, str_fact hE⟩ rfl rfl hl.1 rfl (Nat.le_of_ble_eq_true rfl) d_Str_indexOf2_17 ⟨Nat.le_of_ble_eq_true rfl, Nat.le_of_ble_eq_true rfl⟩) ?_
  refine lv_goto (tgt := 36) hx hb d_Str_indexOf2_20 (by decide) ?_
  exact W.iret hx hb hr (fun t ht hW => ⟨rfl, ht⟩) (fun q hq => by cases hq) d_Str_indexOf2_36
abbrev rm_Str_indexOf : Room := { frames := 3, cells := 0, slots := 0, locals := 150 }
theorem g_JS_633 : GoodIn wsAll (wsV R_JStr 633 R_JStr y_Str_indexOf2 ws_Str_indexOf2) := gd_V ml_JS_633 im_Str_indexOf2 se_Str_indexOf2 ini_String cd_Str_indexOf2
set_option maxHeartbeats 4000000 in
set_option maxRecDepth 100000 in
theorem c_Str_indexOf (l : Launch) (q qv : Nat) (x : Int32) : Met l y_Str_indexOf ws_Str_indexOf rm_Str_indexOf (strP [.ref q, .int x] q qv) (bw_QR (some (.int (idxOf x)))) 0 0 (fun _ => False) := by
  refine Met.ofW (cc := b_Str_indexOf) (maxL := 2) (ret := (some .int)) (by decide) rfl ?_
  intro p e s m args below meth c s₁ B hml hv
  obtain ⟨rfl, hE⟩ := hv
  have hx := B.exec
  have hb := B.bytes
  have hr := B.returns
  have hts : ∀ w ∈ wsAll, w.before ([.ref q, .int x] : List Value).toArray s = true := fun w h9 => atoms_spec (ws := ws_Str_indexOf) B.pre w (List.mem_cons_of_mem _ h9)
  have hown : s.vm.findClass R_JStr = some m.cls := findClass_of_methodNamed B.named
  have hS : va_S (fun _ : Nat => False) s.heap s.heap [] := va_S.rf
  have hl := lv_entry ([.ref q, .int x]) (n := 2) (Nat.le_of_ble_eq_true rfl)
  rw [lg_entry_eq]
  generalize (lg_sl ([.ref q, .int x]) ++ List.replicate (2 - (lg_sl ([.ref q, .int x])).length) Slot.unset).toArray = ls at hl ⊢
  have hl : lv_has ls 2 [(0, .ref q), (1, .int x)] := hl
  refine lv_aload_n hx hb d_Str_indexOf_0 rfl (lv_at hl 0 rfl) ?_
  refine lv_iload_n hx hb d_Str_indexOf_1 rfl (lv_at hl 1 rfl) ?_
  refine lv_iconst (v := 0) hx hb d_Str_indexOf_2 (by decide) ?_
  refine bw_callR (va_runV (As := [.int x, .int 0]) (rest := []) ⟨hx, hb, hml, hown, hts⟩ (c_Str_indexOf2 l q qv x) (cwV 2 hts g_JS_633 rfl rfl rfl (by decide +kernel) ⟨Nat.le_of_ble_eq_true rfl, Nat.le_of_ble_eq_true rfl⟩) ⟨str_blind, vk_recv (i := 0) hE.1 (by decide) hS, str_fact hE⟩ rfl rfl hl.1 rfl (Nat.le_of_ble_eq_true rfl) d_Str_indexOf_3 ⟨Nat.le_of_ble_eq_true rfl, Nat.le_of_ble_eq_true rfl⟩) ?_
  exact W.iret hx hb hr (fun t ht hW => ⟨rfl, ht⟩) (fun q hq => by cases hq) d_Str_indexOf_6
