section
abbrev RXJ0 : String := "java/lang/String"
abbrev RXJ1 : String := "java/lang/StringLatin1"
abbrev cJ0_length_8abf5 : ByteArray := prog_18_method_54_code
def yJ0_length_8abf5 : MethodName := ⟨RXJ0, "length", "()I"⟩
abbrev cJ0_indexOf_0f7a4 : ByteArray := prog_18_method_79_code
def yJ0_indexOf_0f7a4 : MethodName := ⟨RXJ0, "indexOf", "(I)I"⟩
abbrev cJ0_indexOf_7cf53 : ByteArray := prog_18_method_80_code
def yJ0_indexOf_7cf53 : MethodName := ⟨RXJ0, "indexOf", "(II)I"⟩
abbrev cJ0_coder_7d493 : ByteArray := prog_18_method_152_code
def yJ0_coder_7d493 : MethodName := ⟨RXJ0, "coder", "()B"⟩
abbrev cJ0_isLatin1_aae02 : ByteArray := prog_18_method_154_code
def yJ0_isLatin1_aae02 : MethodName := ⟨RXJ0, "isLatin1", "()Z"⟩
abbrev cJ1_canEncode_9a6ad : ByteArray := prog_19_method_4_code
def yJ1_canEncode_9a6ad : MethodName := ⟨RXJ1, "canEncode", "(I)Z"⟩
abbrev cJ1_indexOf_4cfef : ByteArray := prog_19_method_22_code
def yJ1_indexOf_4cfef : MethodName := ⟨RXJ1, "indexOf", "([BIII)I"⟩
abbrev cJ1_indexOfChar_4cfef : ByteArray := prog_19_method_23_code
def yJ1_indexOfChar_4cfef : MethodName := ⟨RXJ1, "indexOfChar", "([BIII)I"⟩
theorem dJ0_length_8abf5_0 : decode cJ0_length_8abf5 0 = .ok (.aload_n 0, 1) := by decide +kernel
theorem dJ0_length_8abf5_1 : decode cJ0_length_8abf5 1 = .ok (.getfield 9, 3) := by decide +kernel
theorem dJ0_length_8abf5_4 : decode cJ0_length_8abf5 4 = .ok (.arraylength, 1) := by decide +kernel
theorem dJ0_length_8abf5_5 : decode cJ0_length_8abf5 5 = .ok (.aload_n 0, 1) := by decide +kernel
theorem dJ0_length_8abf5_6 : decode cJ0_length_8abf5 6 = .ok (.invokevirtual 335, 3) := by decide +kernel
theorem dJ0_length_8abf5_9 : decode cJ0_length_8abf5 9 = .ok (.ishr, 1) := by decide +kernel
theorem dJ0_length_8abf5_10 : decode cJ0_length_8abf5 10 = .ok (.ireturn, 1) := by decide +kernel
theorem dJ0_indexOf_0f7a4_0 : decode cJ0_indexOf_0f7a4 0 = .ok (.aload_n 0, 1) := by decide +kernel
theorem dJ0_indexOf_0f7a4_1 : decode cJ0_indexOf_0f7a4 1 = .ok (.iload_n 1, 1) := by decide +kernel
theorem dJ0_indexOf_0f7a4_2 : decode cJ0_indexOf_0f7a4 2 = .ok (.iconst 0, 1) := by decide +kernel
theorem dJ0_indexOf_0f7a4_3 : decode cJ0_indexOf_0f7a4 3 = .ok (.invokevirtual 633, 3) := by decide +kernel
theorem dJ0_indexOf_0f7a4_6 : decode cJ0_indexOf_0f7a4 6 = .ok (.ireturn, 1) := by decide +kernel
theorem dJ0_indexOf_7cf53_0 : decode cJ0_indexOf_7cf53 0 = .ok (.aload_n 0, 1) := by decide +kernel
theorem dJ0_indexOf_7cf53_1 : decode cJ0_indexOf_7cf53 1 = .ok (.invokevirtual 492, 3) := by decide +kernel
theorem dJ0_indexOf_7cf53_4 : decode cJ0_indexOf_7cf53 4 = .ok (.ifCond .eq 19, 3) := by decide +kernel
theorem dJ0_indexOf_7cf53_7 : decode cJ0_indexOf_7cf53 7 = .ok (.aload_n 0, 1) := by decide +kernel
theorem dJ0_indexOf_7cf53_8 : decode cJ0_indexOf_7cf53 8 = .ok (.getfield 9, 3) := by decide +kernel
theorem dJ0_indexOf_7cf53_11 : decode cJ0_indexOf_7cf53 11 = .ok (.iload_n 1, 1) := by decide +kernel
theorem dJ0_indexOf_7cf53_12 : decode cJ0_indexOf_7cf53 12 = .ok (.iload_n 2, 1) := by decide +kernel
theorem dJ0_indexOf_7cf53_13 : decode cJ0_indexOf_7cf53 13 = .ok (.aload_n 0, 1) := by decide +kernel
theorem dJ0_indexOf_7cf53_14 : decode cJ0_indexOf_7cf53 14 = .ok (.invokevirtual 505, 3) := by decide +kernel
theorem dJ0_indexOf_7cf53_17 : decode cJ0_indexOf_7cf53 17 = .ok (.invokestatic 637, 3) := by decide +kernel
theorem dJ0_indexOf_7cf53_20 : decode cJ0_indexOf_7cf53 20 = .ok (.goto 16, 3) := by decide +kernel
theorem dJ0_indexOf_7cf53_23 : decode cJ0_indexOf_7cf53 23 = .ok (.aload_n 0, 1) := by decide +kernel
theorem dJ0_indexOf_7cf53_24 : decode cJ0_indexOf_7cf53 24 = .ok (.getfield 9, 3) := by decide +kernel
theorem dJ0_indexOf_7cf53_27 : decode cJ0_indexOf_7cf53 27 = .ok (.iload_n 1, 1) := by decide +kernel
theorem dJ0_indexOf_7cf53_28 : decode cJ0_indexOf_7cf53 28 = .ok (.iload_n 2, 1) := by decide +kernel
theorem dJ0_indexOf_7cf53_29 : decode cJ0_indexOf_7cf53 29 = .ok (.aload_n 0, 1) := by decide +kernel
theorem dJ0_indexOf_7cf53_30 : decode cJ0_indexOf_7cf53 30 = .ok (.invokevirtual 505, 3) := by decide +kernel
theorem dJ0_indexOf_7cf53_33 : decode cJ0_indexOf_7cf53 33 = .ok (.invokestatic 640, 3) := by decide +kernel
theorem dJ0_indexOf_7cf53_36 : decode cJ0_indexOf_7cf53 36 = .ok (.ireturn, 1) := by decide +kernel
theorem dJ0_coder_7d493_0 : decode cJ0_coder_7d493 0 = .ok (.getstatic 38, 3) := by decide +kernel
theorem dJ0_coder_7d493_3 : decode cJ0_coder_7d493 3 = .ok (.ifCond .eq 10, 3) := by decide +kernel
theorem dJ0_coder_7d493_6 : decode cJ0_coder_7d493 6 = .ok (.aload_n 0, 1) := by decide +kernel
theorem dJ0_coder_7d493_7 : decode cJ0_coder_7d493 7 = .ok (.getfield 15, 3) := by decide +kernel
theorem dJ0_coder_7d493_10 : decode cJ0_coder_7d493 10 = .ok (.goto 4, 3) := by decide +kernel
theorem dJ0_coder_7d493_13 : decode cJ0_coder_7d493 13 = .ok (.iconst 1, 1) := by decide +kernel
theorem dJ0_coder_7d493_14 : decode cJ0_coder_7d493 14 = .ok (.ireturn, 1) := by decide +kernel
theorem dJ0_isLatin1_aae02_0 : decode cJ0_isLatin1_aae02 0 = .ok (.getstatic 38, 3) := by decide +kernel
theorem dJ0_isLatin1_aae02_3 : decode cJ0_isLatin1_aae02 3 = .ok (.ifCond .eq 14, 3) := by decide +kernel
theorem dJ0_isLatin1_aae02_6 : decode cJ0_isLatin1_aae02 6 = .ok (.aload_n 0, 1) := by decide +kernel
theorem dJ0_isLatin1_aae02_7 : decode cJ0_isLatin1_aae02 7 = .ok (.getfield 15, 3) := by decide +kernel
theorem dJ0_isLatin1_aae02_10 : decode cJ0_isLatin1_aae02 10 = .ok (.ifCond .ne 7, 3) := by decide +kernel
theorem dJ0_isLatin1_aae02_13 : decode cJ0_isLatin1_aae02 13 = .ok (.iconst 1, 1) := by decide +kernel
theorem dJ0_isLatin1_aae02_14 : decode cJ0_isLatin1_aae02 14 = .ok (.goto 4, 3) := by decide +kernel
theorem dJ0_isLatin1_aae02_17 : decode cJ0_isLatin1_aae02 17 = .ok (.iconst 0, 1) := by decide +kernel
theorem dJ0_isLatin1_aae02_18 : decode cJ0_isLatin1_aae02 18 = .ok (.ireturn, 1) := by decide +kernel
theorem dJ1_canEncode_9a6ad_0 : decode cJ1_canEncode_9a6ad 0 = .ok (.iload_n 0, 1) := by decide +kernel
theorem dJ1_canEncode_9a6ad_1 : decode cJ1_canEncode_9a6ad 1 = .ok (.ifCond .lt 14, 3) := by decide +kernel
theorem dJ1_canEncode_9a6ad_4 : decode cJ1_canEncode_9a6ad 4 = .ok (.iload_n 0, 1) := by decide +kernel
theorem dJ1_canEncode_9a6ad_5 : decode cJ1_canEncode_9a6ad 5 = .ok (.sipush 255, 3) := by decide +kernel
theorem dJ1_canEncode_9a6ad_8 : decode cJ1_canEncode_9a6ad 8 = .ok (.if_icmp .gt 7, 3) := by decide +kernel
theorem dJ1_canEncode_9a6ad_11 : decode cJ1_canEncode_9a6ad 11 = .ok (.iconst 1, 1) := by decide +kernel
theorem dJ1_canEncode_9a6ad_12 : decode cJ1_canEncode_9a6ad 12 = .ok (.goto 4, 3) := by decide +kernel
theorem dJ1_canEncode_9a6ad_15 : decode cJ1_canEncode_9a6ad 15 = .ok (.iconst 0, 1) := by decide +kernel
theorem dJ1_canEncode_9a6ad_16 : decode cJ1_canEncode_9a6ad 16 = .ok (.ireturn, 1) := by decide +kernel
theorem dJ1_indexOf_4cfef_0 : decode cJ1_indexOf_4cfef 0 = .ok (.iload_n 1, 1) := by decide +kernel
theorem dJ1_indexOf_4cfef_1 : decode cJ1_indexOf_4cfef 1 = .ok (.invokestatic 88, 3) := by decide +kernel
theorem dJ1_indexOf_4cfef_4 : decode cJ1_indexOf_4cfef 4 = .ok (.ifCond .ne 5, 3) := by decide +kernel
theorem dJ1_indexOf_4cfef_7 : decode cJ1_indexOf_4cfef 7 = .ok (.iconst (-1), 1) := by decide +kernel
theorem dJ1_indexOf_4cfef_8 : decode cJ1_indexOf_4cfef 8 = .ok (.ireturn, 1) := by decide +kernel
theorem dJ1_indexOf_4cfef_9 : decode cJ1_indexOf_4cfef 9 = .ok (.iload_n 2, 1) := by decide +kernel
theorem dJ1_indexOf_4cfef_10 : decode cJ1_indexOf_4cfef 10 = .ok (.iconst 0, 1) := by decide +kernel
theorem dJ1_indexOf_4cfef_11 : decode cJ1_indexOf_4cfef 11 = .ok (.invokestatic 92, 3) := by decide +kernel
theorem dJ1_indexOf_4cfef_14 : decode cJ1_indexOf_4cfef 14 = .ok (.istore_n 2, 1) := by decide +kernel
theorem dJ1_indexOf_4cfef_15 : decode cJ1_indexOf_4cfef 15 = .ok (.iload_n 3, 1) := by decide +kernel
theorem dJ1_indexOf_4cfef_16 : decode cJ1_indexOf_4cfef 16 = .ok (.aload_n 0, 1) := by decide +kernel
theorem dJ1_indexOf_4cfef_17 : decode cJ1_indexOf_4cfef 17 = .ok (.arraylength, 1) := by decide +kernel
theorem dJ1_indexOf_4cfef_18 : decode cJ1_indexOf_4cfef 18 = .ok (.invokestatic 38, 3) := by decide +kernel
theorem dJ1_indexOf_4cfef_21 : decode cJ1_indexOf_4cfef 21 = .ok (.istore_n 3, 1) := by decide +kernel
theorem dJ1_indexOf_4cfef_22 : decode cJ1_indexOf_4cfef 22 = .ok (.iload_n 2, 1) := by decide +kernel
theorem dJ1_indexOf_4cfef_23 : decode cJ1_indexOf_4cfef 23 = .ok (.iload_n 3, 1) := by decide +kernel
theorem dJ1_indexOf_4cfef_24 : decode cJ1_indexOf_4cfef 24 = .ok (.if_icmp .lt 5, 3) := by decide +kernel
theorem dJ1_indexOf_4cfef_27 : decode cJ1_indexOf_4cfef 27 = .ok (.iconst (-1), 1) := by decide +kernel
theorem dJ1_indexOf_4cfef_28 : decode cJ1_indexOf_4cfef 28 = .ok (.ireturn, 1) := by decide +kernel
theorem dJ1_indexOf_4cfef_29 : decode cJ1_indexOf_4cfef 29 = .ok (.aload_n 0, 1) := by decide +kernel
theorem dJ1_indexOf_4cfef_30 : decode cJ1_indexOf_4cfef 30 = .ok (.iload_n 1, 1) := by decide +kernel
theorem dJ1_indexOf_4cfef_31 : decode cJ1_indexOf_4cfef 31 = .ok (.iload_n 2, 1) := by decide +kernel
theorem dJ1_indexOf_4cfef_32 : decode cJ1_indexOf_4cfef 32 = .ok (.iload_n 3, 1) := by decide +kernel
theorem dJ1_indexOf_4cfef_33 : decode cJ1_indexOf_4cfef 33 = .ok (.invokestatic 95, 3) := by decide +kernel
theorem dJ1_indexOf_4cfef_36 : decode cJ1_indexOf_4cfef 36 = .ok (.ireturn, 1) := by decide +kernel
theorem dJ1_indexOfChar_4cfef_0 : decode cJ1_indexOfChar_4cfef 0 = .ok (.iload_n 1, 1) := by decide +kernel
theorem dJ1_indexOfChar_4cfef_1 : decode cJ1_indexOfChar_4cfef 1 = .ok (.i2b, 1) := by decide +kernel
theorem dJ1_indexOfChar_4cfef_2 : decode cJ1_indexOfChar_4cfef 2 = .ok (.istore 4, 2) := by decide +kernel
theorem dJ1_indexOfChar_4cfef_4 : decode cJ1_indexOfChar_4cfef 4 = .ok (.iload_n 2, 1) := by decide +kernel
theorem dJ1_indexOfChar_4cfef_5 : decode cJ1_indexOfChar_4cfef 5 = .ok (.istore 5, 2) := by decide +kernel
theorem dJ1_indexOfChar_4cfef_7 : decode cJ1_indexOfChar_4cfef 7 = .ok (.iload 5, 2) := by decide +kernel
theorem dJ1_indexOfChar_4cfef_9 : decode cJ1_indexOfChar_4cfef 9 = .ok (.iload_n 3, 1) := by decide +kernel
theorem dJ1_indexOfChar_4cfef_10 : decode cJ1_indexOfChar_4cfef 10 = .ok (.if_icmp .ge 21, 3) := by decide +kernel
theorem dJ1_indexOfChar_4cfef_13 : decode cJ1_indexOfChar_4cfef 13 = .ok (.aload_n 0, 1) := by decide +kernel
theorem dJ1_indexOfChar_4cfef_14 : decode cJ1_indexOfChar_4cfef 14 = .ok (.iload 5, 2) := by decide +kernel
theorem dJ1_indexOfChar_4cfef_16 : decode cJ1_indexOfChar_4cfef 16 = .ok (.baload, 1) := by decide +kernel
theorem dJ1_indexOfChar_4cfef_17 : decode cJ1_indexOfChar_4cfef 17 = .ok (.iload 4, 2) := by decide +kernel
theorem dJ1_indexOfChar_4cfef_19 : decode cJ1_indexOfChar_4cfef 19 = .ok (.if_icmp .ne 6, 3) := by decide +kernel
theorem dJ1_indexOfChar_4cfef_22 : decode cJ1_indexOfChar_4cfef 22 = .ok (.iload 5, 2) := by decide +kernel
theorem dJ1_indexOfChar_4cfef_24 : decode cJ1_indexOfChar_4cfef 24 = .ok (.ireturn, 1) := by decide +kernel
theorem dJ1_indexOfChar_4cfef_25 : decode cJ1_indexOfChar_4cfef 25 = .ok (.iinc 5 1, 3) := by decide +kernel
theorem dJ1_indexOfChar_4cfef_28 : decode cJ1_indexOfChar_4cfef 28 = .ok (.goto (-21), 3) := by decide +kernel
theorem dJ1_indexOfChar_4cfef_31 : decode cJ1_indexOfChar_4cfef 31 = .ok (.iconst (-1), 1) := by decide +kernel
theorem dJ1_indexOfChar_4cfef_32 : decode cJ1_indexOfChar_4cfef 32 = .ok (.ireturn, 1) := by decide +kernel
theorem cd_J0_length_8abf5 : Cond.code yJ0_length_8abf5 cJ0_length_8abf5 1 (some .int) ∈ pWW := pw8 (List.mem_of_getElem? (i := 83) rfl) rfl
theorem ini_J0 : Cond.initialized RXJ0 ∈ pWW := pw1 (List.mem_of_getElem? (i := 16) rfl) rfl
abbrev m_J0_length_8abf5 : MT := (yJ0_length_8abf5, cJ0_length_8abf5, 1, (some .int))
theorem ok_J0_length_8abf5 : pOk m_J0_length_8abf5 := ⟨⟨cd_J0_length_8abf5, ini_J0⟩, by decide +kernel, ⟨by decide +kernel, by decide +kernel⟩, Nat.le_of_ble_eq_true rfl⟩
theorem np_J0_length_8abf5 : (parseMethodDescriptor yJ0_length_8abf5.desc).map (fun d => d.parameters.length) = some 0 := by decide +kernel
theorem im_J0_length_8abf5 : Cond.instanceMethod yJ0_length_8abf5 ∈ pWW := pw8 (List.mem_of_getElem? (i := 81) rfl) rfl
theorem se_J0_length_8abf5 : Cond.selects RXJ0 yJ0_length_8abf5 yJ0_length_8abf5 ∈ pWW := pw8 (List.mem_of_getElem? (i := 82) rfl) rfl
theorem cd_J0_indexOf_0f7a4 : Cond.code yJ0_indexOf_0f7a4 cJ0_indexOf_0f7a4 2 (some .int) ∈ pWW := pw8 (List.mem_of_getElem? (i := 69) rfl) rfl
abbrev m_J0_indexOf_0f7a4 : MT := (yJ0_indexOf_0f7a4, cJ0_indexOf_0f7a4, 2, (some .int))
theorem ok_J0_indexOf_0f7a4 : pOk m_J0_indexOf_0f7a4 := ⟨⟨cd_J0_indexOf_0f7a4, ini_J0⟩, by decide +kernel, ⟨by decide +kernel, by decide +kernel⟩, Nat.le_of_ble_eq_true rfl⟩
theorem np_J0_indexOf_0f7a4 : (parseMethodDescriptor yJ0_indexOf_0f7a4.desc).map (fun d => d.parameters.length) = some 1 := by decide +kernel
theorem im_J0_indexOf_0f7a4 : Cond.instanceMethod yJ0_indexOf_0f7a4 ∈ pWW := pw8 (List.mem_of_getElem? (i := 67) rfl) rfl
theorem se_J0_indexOf_0f7a4 : Cond.selects RXJ0 yJ0_indexOf_0f7a4 yJ0_indexOf_0f7a4 ∈ pWW := pw8 (List.mem_of_getElem? (i := 68) rfl) rfl
theorem cd_J0_indexOf_7cf53 : Cond.code yJ0_indexOf_7cf53 cJ0_indexOf_7cf53 3 (some .int) ∈ pWW := pw8 (List.mem_of_getElem? (i := 73) rfl) rfl
abbrev m_J0_indexOf_7cf53 : MT := (yJ0_indexOf_7cf53, cJ0_indexOf_7cf53, 3, (some .int))
theorem ok_J0_indexOf_7cf53 : pOk m_J0_indexOf_7cf53 := ⟨⟨cd_J0_indexOf_7cf53, ini_J0⟩, by decide +kernel, ⟨by decide +kernel, by decide +kernel⟩, Nat.le_of_ble_eq_true rfl⟩
theorem np_J0_indexOf_7cf53 : (parseMethodDescriptor yJ0_indexOf_7cf53.desc).map (fun d => d.parameters.length) = some 2 := by decide +kernel
theorem im_J0_indexOf_7cf53 : Cond.instanceMethod yJ0_indexOf_7cf53 ∈ pWW := pw8 (List.mem_of_getElem? (i := 71) rfl) rfl
theorem se_J0_indexOf_7cf53 : Cond.selects RXJ0 yJ0_indexOf_7cf53 yJ0_indexOf_7cf53 ∈ pWW := pw8 (List.mem_of_getElem? (i := 72) rfl) rfl
theorem cd_J0_coder_7d493 : Cond.code yJ0_coder_7d493 cJ0_coder_7d493 1 (some .byte) ∈ pWW := pw8 (List.mem_of_getElem? (i := 87) rfl) rfl
abbrev m_J0_coder_7d493 : MT := (yJ0_coder_7d493, cJ0_coder_7d493, 1, (some .byte))
theorem ok_J0_coder_7d493 : pOk m_J0_coder_7d493 := ⟨⟨cd_J0_coder_7d493, ini_J0⟩, by decide +kernel, ⟨by decide +kernel, by decide +kernel⟩, Nat.le_of_ble_eq_true rfl⟩
theorem np_J0_coder_7d493 : (parseMethodDescriptor yJ0_coder_7d493.desc).map (fun d => d.parameters.length) = some 0 := by decide +kernel
theorem im_J0_coder_7d493 : Cond.instanceMethod yJ0_coder_7d493 ∈ pWW := pw8 (List.mem_of_getElem? (i := 85) rfl) rfl
theorem se_J0_coder_7d493 : Cond.selects RXJ0 yJ0_coder_7d493 yJ0_coder_7d493 ∈ pWW := pw8 (List.mem_of_getElem? (i := 86) rfl) rfl
theorem cd_J0_isLatin1_aae02 : Cond.code yJ0_isLatin1_aae02 cJ0_isLatin1_aae02 1 (some .boolean) ∈ pWW := pw8 (List.mem_of_getElem? (i := 77) rfl) rfl
abbrev m_J0_isLatin1_aae02 : MT := (yJ0_isLatin1_aae02, cJ0_isLatin1_aae02, 1, (some .boolean))
theorem ok_J0_isLatin1_aae02 : pOk m_J0_isLatin1_aae02 := ⟨⟨cd_J0_isLatin1_aae02, ini_J0⟩, by decide +kernel, ⟨by decide +kernel, by decide +kernel⟩, Nat.le_of_ble_eq_true rfl⟩
theorem np_J0_isLatin1_aae02 : (parseMethodDescriptor yJ0_isLatin1_aae02.desc).map (fun d => d.parameters.length) = some 0 := by decide +kernel
theorem im_J0_isLatin1_aae02 : Cond.instanceMethod yJ0_isLatin1_aae02 ∈ pWW := pw8 (List.mem_of_getElem? (i := 75) rfl) rfl
theorem se_J0_isLatin1_aae02 : Cond.selects RXJ0 yJ0_isLatin1_aae02 yJ0_isLatin1_aae02 ∈ pWW := pw8 (List.mem_of_getElem? (i := 76) rfl) rfl
theorem cd_J1_canEncode_9a6ad : Cond.code yJ1_canEncode_9a6ad cJ1_canEncode_9a6ad 1 (some .boolean) ∈ pWW := pw8 (List.mem_of_getElem? (i := 93) rfl) rfl
theorem ini_J1 : Cond.initialized RXJ1 ∈ pWW := pw1 (List.mem_of_getElem? (i := 17) rfl) rfl
abbrev m_J1_canEncode_9a6ad : MT := (yJ1_canEncode_9a6ad, cJ1_canEncode_9a6ad, 1, (some .boolean))
theorem ok_J1_canEncode_9a6ad : pOk m_J1_canEncode_9a6ad := ⟨⟨cd_J1_canEncode_9a6ad, ini_J1⟩, by decide +kernel, ⟨by decide +kernel, by decide +kernel⟩, Nat.le_of_ble_eq_true rfl⟩
theorem np_J1_canEncode_9a6ad : (parseMethodDescriptor yJ1_canEncode_9a6ad.desc).map (fun d => d.parameters.length) = some 1 := by decide +kernel
theorem stt_J1_canEncode_9a6ad : Cond.static yJ1_canEncode_9a6ad ∈ pWW := pw8 (List.mem_of_getElem? (i := 92) rfl) rfl
theorem cd_J1_indexOf_4cfef : Cond.code yJ1_indexOf_4cfef cJ1_indexOf_4cfef 4 (some .int) ∈ pWW := pw8 (List.mem_of_getElem? (i := 90) rfl) rfl
abbrev m_J1_indexOf_4cfef : MT := (yJ1_indexOf_4cfef, cJ1_indexOf_4cfef, 4, (some .int))
theorem ok_J1_indexOf_4cfef : pOk m_J1_indexOf_4cfef := ⟨⟨cd_J1_indexOf_4cfef, ini_J1⟩, by decide +kernel, ⟨by decide +kernel, by decide +kernel⟩, Nat.le_of_ble_eq_true rfl⟩
theorem np_J1_indexOf_4cfef : (parseMethodDescriptor yJ1_indexOf_4cfef.desc).map (fun d => d.parameters.length) = some 4 := by decide +kernel
theorem stt_J1_indexOf_4cfef : Cond.static yJ1_indexOf_4cfef ∈ pWW := pw8 (List.mem_of_getElem? (i := 89) rfl) rfl
theorem cd_J1_indexOfChar_4cfef : Cond.code yJ1_indexOfChar_4cfef cJ1_indexOfChar_4cfef 6 (some .int) ∈ pWW := pw8 (List.mem_of_getElem? (i := 98) rfl) rfl
abbrev m_J1_indexOfChar_4cfef : MT := (yJ1_indexOfChar_4cfef, cJ1_indexOfChar_4cfef, 6, (some .int))
theorem ok_J1_indexOfChar_4cfef : pOk m_J1_indexOfChar_4cfef := ⟨⟨cd_J1_indexOfChar_4cfef, ini_J1⟩, by decide +kernel, ⟨by decide +kernel, by decide +kernel⟩, Nat.le_of_ble_eq_true rfl⟩
theorem np_J1_indexOfChar_4cfef : (parseMethodDescriptor yJ1_indexOfChar_4cfef.desc).map (fun d => d.parameters.length) = some 4 := by decide +kernel
theorem stt_J1_indexOfChar_4cfef : Cond.static yJ1_indexOfChar_4cfef ∈ pWW := pw8 (List.mem_of_getElem? (i := 97) rfl) rfl
theorem flJ0_38 : Cond.fieldLink RXJ0 38 "java/lang/String" "COMPACT_STRINGS" "Z" ∈ pWW := pw8 (List.mem_of_getElem? (i := 78) rfl) rfl
theorem flJ0_15 : Cond.fieldLink RXJ0 15 "java/lang/String" "coder" "B" ∈ pWW := pw10 (List.mem_of_getElem? (i := 93) rfl) rfl
theorem flJ0_9 : Cond.fieldLink RXJ0 9 "java/lang/String" "value" "[B" ∈ pWW := pw10 (List.mem_of_getElem? (i := 94) rfl) rfl
theorem mlJ0_335 : Cond.methodLink RXJ0 335 yJ0_coder_7d493 ∈ pWW := pw8 (List.mem_of_getElem? (i := 84) rfl) rfl
theorem mlJ0_633 : Cond.methodLink RXJ0 633 yJ0_indexOf_7cf53 ∈ pWW := pw8 (List.mem_of_getElem? (i := 70) rfl) rfl
theorem mlJ0_492 : Cond.methodLink RXJ0 492 yJ0_isLatin1_aae02 ∈ pWW := pw8 (List.mem_of_getElem? (i := 74) rfl) rfl
theorem mlJ0_505 : Cond.methodLink RXJ0 505 yJ0_length_8abf5 ∈ pWW := pw8 (List.mem_of_getElem? (i := 80) rfl) rfl
theorem mlJ0_637 : Cond.methodLink RXJ0 637 yJ1_indexOf_4cfef ∈ pWW := pw8 (List.mem_of_getElem? (i := 88) rfl) rfl
theorem mlJ1_88 : Cond.methodLink RXJ1 88 yJ1_canEncode_9a6ad ∈ pWW := pw8 (List.mem_of_getElem? (i := 91) rfl) rfl
theorem mlJ1_95 : Cond.methodLink RXJ1 95 yJ1_indexOfChar_4cfef ∈ pWW := pw8 (List.mem_of_getElem? (i := 96) rfl) rfl
theorem ml12_237 : Cond.methodLink RX12 237 yJ0_indexOf_0f7a4 ∈ pWW := pw8 (List.mem_of_getElem? (i := 66) rfl) rfl
theorem mlM_max : Cond.methodLink RXJ1 92 Lib.Math.max.name ∈ pWW := pw8 (List.mem_of_getElem? (i := 94) rfl) rfl
theorem mlM_min : Cond.methodLink RXJ1 38 Lib.Math.min.name ∈ pWW := pw8 (List.mem_of_getElem? (i := 95) rfl) rfl

theorem ix_lt : ∀ k, k < 11 → ¬ (11 : Int32) ≤ Int32.ofNat k := by decide
theorem ix_in : ∀ k, k < 11 → vp_in (Int32.ofNat k) 11 := by
  intro k hk
  have : k = 0 ∨ k = 1 ∨ k = 2 ∨ k = 3 ∨ k = 4 ∨ k = 5 ∨ k = 6 ∨ k = 7 ∨ k = 8 ∨ k = 9 ∨ k = 10 := by omega
  rcases this with h | h | h | h | h | h | h | h | h | h | h <;> subst h <;> exact vp_in_iff.mpr (by decide)
theorem ix_at : ∀ k, k < 11 → (Int32.ofNat k).toNatClampNeg = k := by decide
theorem ix_s : ∀ k, k < 11 → Int32.ofNat k + Int32.ofInt 1 = Int32.ofNat (k + 1) := by decide
section JDK
variable {g : Nat × Nat} {d : Nat} {P : PH} {sz : Nat}
theorem jq_coder : Wq g d m_J0_coder_7d493 0 P sz [(0, .ref g.1)] [] (some (.int 0), P, sz, 0) := by
  refine wq_compact dJ0_coder_7d493_0 flJ0_38 ?_
  refine wq_if_eq (tgt := 13) dJ0_coder_7d493_3 (by decide) (fun h => absurd h (by decide)) (fun _ => ?_)
  refine wq_aload_n dJ0_coder_7d493_6 (i := 0) rfl 0 rfl ?_
  refine wq_coder rfl dJ0_coder_7d493_7 flJ0_15 ?_
  refine wq_goto (tgt := 14) dJ0_coder_7d493_10 (by decide) ?_
  exact wq_zret (ty := .byte) rfl rfl dJ0_coder_7d493_14
theorem jq_latin : Wq g d m_J0_isLatin1_aae02 0 P sz [(0, .ref g.1)] [] (some (.int 1), P, sz, 0) := by
  refine wq_compact dJ0_isLatin1_aae02_0 flJ0_38 ?_
  refine wq_if_eq (tgt := 17) dJ0_isLatin1_aae02_3 (by decide) (fun h => absurd h (by decide)) (fun _ => ?_)
  refine wq_aload_n dJ0_isLatin1_aae02_6 (i := 0) rfl 0 rfl ?_
  refine wq_coder rfl dJ0_isLatin1_aae02_7 flJ0_15 ?_
  refine wq_if_ne (tgt := 17) dJ0_isLatin1_aae02_10 (by decide) (fun h => absurd rfl h) (fun _ => ?_)
  refine wq_iconst (v := 1) dJ0_isLatin1_aae02_13 rfl ?_
  refine wq_goto (tgt := 18) dJ0_isLatin1_aae02_14 (by decide) ?_
  exact wq_zret (ty := .boolean) rfl rfl dJ0_isLatin1_aae02_18
theorem jq_length : Wq g (d + 1) m_J0_length_8abf5 0 P sz [(0, .ref g.1)] [] (some (.int 11), P, sz, 0) := by
  refine wq_aload_n dJ0_length_8abf5_0 (i := 0) rfl 0 rfl ?_
  refine wq_value rfl dJ0_length_8abf5_1 flJ0_9 ?_
  refine wq_tlen dJ0_length_8abf5_4 ?_
  refine wq_aload_n dJ0_length_8abf5_5 (i := 0) rfl 0 rfl ?_
  refine wq_callV (M := m_J0_length_8abf5) (M' := m_J0_coder_7d493) (As := []) (rest := [.int 11]) (v := .int (0)) dJ0_length_8abf5_6 ok_J0_coder_7d493 rfl im_J0_coder_7d493 se_J0_coder_7d493 mlJ0_335 np_J0_coder_7d493 rfl (Nat.le_of_ble_eq_true rfl) (Nat.le_of_ble_eq_true rfl) (by exact Nat.le_refl _) (by rfl) (jq_coder) ?_
  refine wq_ishr dJ0_length_8abf5_9 ?_
  exact wq_iret rfl dJ0_length_8abf5_10
theorem jq_can {x : Int32} (h0 : ¬ x < 0) (h1 : ¬ 255 < x) : Wq g d m_J1_canEncode_9a6ad 0 P sz [(0, .int x)] [] (some (.int 1), P, sz, 0) := by
  refine wq_iload_n dJ1_canEncode_9a6ad_0 (i := 0) rfl 0 rfl ?_
  refine wq_if_lt (tgt := 15) dJ1_canEncode_9a6ad_1 (by decide) (fun h => absurd h h0) (fun _ => ?_)
  refine wq_iload_n dJ1_canEncode_9a6ad_4 (i := 0) rfl 0 rfl ?_
  refine wq_sipush (v := 255) dJ1_canEncode_9a6ad_5 rfl ?_
  refine wq_icmp_gt (tgt := 15) dJ1_canEncode_9a6ad_8 (by decide) (fun h => absurd h h1) (fun _ => ?_)
  refine wq_iconst (v := 1) dJ1_canEncode_9a6ad_11 rfl ?_
  refine wq_goto (tgt := 16) dJ1_canEncode_9a6ad_12 (by decide) ?_
  exact wq_zret (ty := .boolean) rfl rfl dJ1_canEncode_9a6ad_16
theorem jq_chl {ch x : Int32} : ∀ (n k : Nat), n + k = 11 → Wq g d m_J1_indexOfChar_4cfef 7 P sz [(5, .int (Int32.ofNat k)), (4, .int x), (0, .ref g.2), (1, .int ch), (2, .int 0), (3, .int 11)] [] (some (.int (ixF x n k)), P, sz, 0) := by
  intro n
  induction n with
  | zero =>
    intro k hk
    have e : k = 11 := by omega
    subst e
    refine wq_iload dJ1_indexOfChar_4cfef_7 0 rfl ?_
    refine wq_iload_n dJ1_indexOfChar_4cfef_9 (i := 3) rfl 5 rfl ?_
    refine wq_icmp_ge (tgt := 31) dJ1_indexOfChar_4cfef_10 (by decide) (fun _ => ?_) (fun h => absurd (by decide) h)
    refine wq_iconst (v := -1) dJ1_indexOfChar_4cfef_31 rfl ?_
    exact wq_iret rfl dJ1_indexOfChar_4cfef_32
  | succ n ih =>
    intro k hk
    have hk11 : k < 11 := by omega
    refine wq_iload dJ1_indexOfChar_4cfef_7 0 rfl ?_
    refine wq_iload_n dJ1_indexOfChar_4cfef_9 (i := 3) rfl 5 rfl ?_
    refine wq_icmp_ge (tgt := 31) dJ1_indexOfChar_4cfef_10 (by decide) (fun h => absurd h (ix_lt k hk11)) (fun _ => ?_)
    refine wq_aload_n dJ1_indexOfChar_4cfef_13 (i := 0) rfl 2 rfl ?_
    refine wq_iload dJ1_indexOfChar_4cfef_14 0 rfl ?_
    refine wq_tb (v := sgB.getD k 0) (ix_in k hk11) (by rw [ix_at k hk11]) dJ1_indexOfChar_4cfef_16 ?_
    refine wq_iload dJ1_indexOfChar_4cfef_17 1 rfl ?_
    refine wq_icmp_ne (tgt := 25) dJ1_indexOfChar_4cfef_19 (by decide) (fun h => ?_) (fun h => ?_)
    · refine wq_iinc (q0 := 0) (v := Int32.ofNat (k + 1)) dJ1_indexOfChar_4cfef_25 rfl (ix_s k hk11) (Nat.le_of_ble_eq_true rfl) rfl ?_
      refine wq_goto (tgt := 7) dJ1_indexOfChar_4cfef_28 (by decide) ?_
      have q := ih (k + 1) (by omega)
      have e : ixF x (n + 1) k = ixF x n (k + 1) := by unfold ixF; rw [if_neg h]; cases n <;> rfl
      rw [e]
      exact q
    · have e : ixF x (n + 1) k = Int32.ofNat k := by unfold ixF; exact if_pos h
      rw [e]
      refine wq_iload dJ1_indexOfChar_4cfef_22 0 rfl ?_
      exact wq_iret rfl dJ1_indexOfChar_4cfef_24
theorem jq_chr {ch : Int32} : Wq g d m_J1_indexOfChar_4cfef 0 P sz [(0, .ref g.2), (1, .int ch), (2, .int 0), (3, .int 11)] [] (some (.int (sgI ch)), P, sz, 0) := by
  refine wq_iload_n dJ1_indexOfChar_4cfef_0 (i := 1) rfl 1 rfl ?_
  refine wq_i2b (v := ch.toInt8.toInt32) dJ1_indexOfChar_4cfef_1 rfl ?_
  refine wq_istore dJ1_indexOfChar_4cfef_2 (Nat.le_of_ble_eq_true rfl) rfl ?_
  refine wq_iload_n dJ1_indexOfChar_4cfef_4 (i := 2) rfl 3 rfl ?_
  refine wq_istore dJ1_indexOfChar_4cfef_5 (Nat.le_of_ble_eq_true rfl) rfl ?_
  exact jq_chl 11 0 rfl
theorem jq_ix4 {ch : Int32} (h0 : ¬ ch < 0) (h1 : ¬ 255 < ch) : Wq g (d + 1) m_J1_indexOf_4cfef 0 P sz [(0, .ref g.2), (1, .int ch), (2, .int 0), (3, .int 11)] [] (some (.int (sgI ch)), P, sz, 0) := by
  refine wq_iload_n dJ1_indexOf_4cfef_0 (i := 1) rfl 1 rfl ?_
  refine wq_callS (M := m_J1_indexOf_4cfef) (M' := m_J1_canEncode_9a6ad) (As := [.int ch]) (rest := []) (v := .int (1)) dJ1_indexOf_4cfef_1 ok_J1_canEncode_9a6ad stt_J1_canEncode_9a6ad mlJ1_88 np_J1_canEncode_9a6ad rfl (Nat.le_of_ble_eq_true rfl) (Nat.le_of_ble_eq_true rfl) (by exact Nat.le_refl _) (by rfl) (jq_can h0 h1) ?_
  refine wq_if_ne (tgt := 9) dJ1_indexOf_4cfef_4 (by decide) (fun _ => ?_) (fun h => absurd h (by decide))
  refine wq_iload_n dJ1_indexOf_4cfef_9 (i := 2) rfl 2 rfl ?_
  refine wq_iconst (v := 0) dJ1_indexOf_4cfef_10 rfl ?_
  refine wq_mmax dJ1_indexOf_4cfef_11 mlM_max stM_max iniM cdM_max (Nat.succ_pos _) (Nat.le_of_ble_eq_true rfl) (Nat.le_refl _) ?_
  refine wq_istore_n (x := 0) dJ1_indexOf_4cfef_14 (i := 2) rfl (Nat.le_of_ble_eq_true rfl) rfl ?_
  refine wq_iload_n dJ1_indexOf_4cfef_15 (i := 3) rfl 3 rfl ?_
  refine wq_aload_n dJ1_indexOf_4cfef_16 (i := 0) rfl 1 rfl ?_
  refine wq_tlen dJ1_indexOf_4cfef_17 ?_
  refine wq_mmin dJ1_indexOf_4cfef_18 mlM_min stM_min iniM cdM_min (Nat.succ_pos _) (Nat.le_of_ble_eq_true rfl) (Nat.le_refl _) ?_
  refine wq_istore_n (x := 11) dJ1_indexOf_4cfef_21 (i := 3) rfl (Nat.le_of_ble_eq_true rfl) rfl ?_
  refine wq_iload_n dJ1_indexOf_4cfef_22 (i := 2) rfl 1 rfl ?_
  refine wq_iload_n dJ1_indexOf_4cfef_23 (i := 3) rfl 0 rfl ?_
  refine wq_icmp_lt (tgt := 29) dJ1_indexOf_4cfef_24 (by decide) (fun _ => ?_) (fun h => absurd (by decide) h)
  refine wq_aload_n dJ1_indexOf_4cfef_29 (i := 0) rfl 2 rfl ?_
  refine wq_iload_n dJ1_indexOf_4cfef_30 (i := 1) rfl 3 rfl ?_
  refine wq_iload_n dJ1_indexOf_4cfef_31 (i := 2) rfl 1 rfl ?_
  refine wq_iload_n dJ1_indexOf_4cfef_32 (i := 3) rfl 0 rfl ?_
  refine wq_callS (M := m_J1_indexOf_4cfef) (M' := m_J1_indexOfChar_4cfef) (As := [.ref g.2, .int ch, .int 0, .int 11]) (rest := []) (v := .int (sgI ch)) dJ1_indexOf_4cfef_33 ok_J1_indexOfChar_4cfef stt_J1_indexOfChar_4cfef mlJ1_95 np_J1_indexOfChar_4cfef rfl (Nat.le_of_ble_eq_true rfl) (Nat.le_of_ble_eq_true rfl) (by exact Nat.le_refl _) (by rfl) (jq_chr) ?_
  exact wq_iret rfl dJ1_indexOf_4cfef_36
theorem jq_ix2 {ch : Int32} (h0 : ¬ ch < 0) (h1 : ¬ 255 < ch) : Wq g (d + 2) m_J0_indexOf_7cf53 0 P sz [(0, .ref g.1), (1, .int ch), (2, .int 0)] [] (some (.int (sgI ch)), P, sz, 0) := by
  refine wq_aload_n dJ0_indexOf_7cf53_0 (i := 0) rfl 0 rfl ?_
  refine wq_callV (M := m_J0_indexOf_7cf53) (M' := m_J0_isLatin1_aae02) (As := []) (rest := []) (v := .int (1)) dJ0_indexOf_7cf53_1 ok_J0_isLatin1_aae02 rfl im_J0_isLatin1_aae02 se_J0_isLatin1_aae02 mlJ0_492 np_J0_isLatin1_aae02 rfl (Nat.le_of_ble_eq_true rfl) (Nat.le_of_ble_eq_true rfl) (by exact Nat.le_refl _) (by rfl) (jq_latin) ?_
  refine wq_if_eq (tgt := 23) dJ0_indexOf_7cf53_4 (by decide) (fun h => absurd h (by decide)) (fun _ => ?_)
  refine wq_aload_n dJ0_indexOf_7cf53_7 (i := 0) rfl 0 rfl ?_
  refine wq_value rfl dJ0_indexOf_7cf53_8 flJ0_9 ?_
  refine wq_iload_n dJ0_indexOf_7cf53_11 (i := 1) rfl 1 rfl ?_
  refine wq_iload_n dJ0_indexOf_7cf53_12 (i := 2) rfl 2 rfl ?_
  refine wq_aload_n dJ0_indexOf_7cf53_13 (i := 0) rfl 0 rfl ?_
  refine wq_callV (M := m_J0_indexOf_7cf53) (M' := m_J0_length_8abf5) (As := []) (rest := [.int 0, .int ch, .ref g.2]) (v := .int (11)) dJ0_indexOf_7cf53_14 ok_J0_length_8abf5 rfl im_J0_length_8abf5 se_J0_length_8abf5 mlJ0_505 np_J0_length_8abf5 rfl (Nat.le_of_ble_eq_true rfl) (Nat.le_of_ble_eq_true rfl) (by exact Nat.le_refl _) (by rfl) (jq_length) ?_
  refine wq_callS (M := m_J0_indexOf_7cf53) (M' := m_J1_indexOf_4cfef) (As := [.ref g.2, .int ch, .int 0, .int 11]) (rest := []) (v := .int (sgI ch)) dJ0_indexOf_7cf53_17 ok_J1_indexOf_4cfef stt_J1_indexOf_4cfef mlJ0_637 np_J1_indexOf_4cfef rfl (Nat.le_of_ble_eq_true rfl) (Nat.le_of_ble_eq_true rfl) (by exact Nat.le_refl _) (by rfl) (jq_ix4 h0 h1) ?_
  refine wq_goto (tgt := 36) dJ0_indexOf_7cf53_20 (by decide) ?_
  exact wq_iret rfl dJ0_indexOf_7cf53_36
theorem jq_ix1 {ch : Int32} (h0 : ¬ ch < 0) (h1 : ¬ 255 < ch) : Wq g (d + 3) m_J0_indexOf_0f7a4 0 P sz [(0, .ref g.1), (1, .int ch)] [] (some (.int (sgI ch)), P, sz, 0) := by
  refine wq_aload_n dJ0_indexOf_0f7a4_0 (i := 0) rfl 0 rfl ?_
  refine wq_iload_n dJ0_indexOf_0f7a4_1 (i := 1) rfl 1 rfl ?_
  refine wq_iconst (v := 0) dJ0_indexOf_0f7a4_2 rfl ?_
  refine wq_callV (M := m_J0_indexOf_0f7a4) (M' := m_J0_indexOf_7cf53) (As := [.int ch, .int 0]) (rest := []) (v := .int (sgI ch)) dJ0_indexOf_0f7a4_3 ok_J0_indexOf_7cf53 rfl im_J0_indexOf_7cf53 se_J0_indexOf_7cf53 mlJ0_633 np_J0_indexOf_7cf53 rfl (Nat.le_of_ble_eq_true rfl) (Nat.le_of_ble_eq_true rfl) (by exact Nat.le_refl _) (by rfl) (jq_ix2 h0 h1) ?_
  exact wq_iret rfl dJ0_indexOf_0f7a4_6
end JDK
/-- ldc of the text, iload, indexOf -/
theorem wp_signs {d : Nat} {M : MT} {pc : Nat} {P : PH} {sz : Nat} {L : List (Nat × Value)} {st : List Value} {o : Option Value × PH × Nat × Nat} {q : Nat} {x : Int32} (hM : M.1.cls = "LineKeeperModel") (h1 : decode M.2.1 pc = .ok (.ldc 235, 2)) (h2 : decode M.2.1 (pc + 2) = .ok (.iload_n 1, 1)) (h3 : decode M.2.1 (pc + 3) = .ok (.invokevirtual 237, 3)) (hq : L[q]? = some (1, .int x)) (h0 : ¬ x < 0) (h5 : ¬ 255 < x) (hcat : (st.map fun v => v.category).sum ≤ 8) (hm : sz ≤ o.2.2.1) (k : Wp (d + 4) M (pc + 6) P sz L (.int (sgI x) :: st) o) : Wp (d + 4) M pc P sz L st o := by
  intro l D bs p e R s m args below meth c H locs cells slots ls C hW hz hS hl hc hn
  obtain ⟨⟨aK, aV, k1, k2⟩, -⟩ := (pC_G C).2.2
  have k3 := k1.1 0 (by decide)
  have hg : pKA (aK 0, aV 0) bs s := ⟨k3.1, k3.2.1, k3.2.2.1, k3.2.2.2⟩
  refine va_ldcS C.1 C.2.1 (own := "LineKeeperModel") (by rw [← hM]; exact pC_own C) k2 h1 ?_
  refine lv_iload_n (i := 1) C.1 C.2.1 h2 rfl (lv_at hl q hq) ?_
  exact pcallq (v := .int (sgI x)) (o2 := o) C hz hS hl (va_runV (Ts := pWW) (C := "java/lang/String") (As := [.int x]) (rest := st) ⟨C.1, C.2.1, C.2.2.1, pC_own C, fun w hw => pC_word C hw⟩ (wq_met (g := (aK 0, aV 0)) (M := m_J0_indexOf_0f7a4) (k := 0) (o := (some (.int (sgI x)), P, sz, 0)) ok_J0_indexOf_0f7a4.2.1 rfl (Nat.le_of_ble_eq_true rfl) rfl (jq_ix1 h0 h5) l D bs) ⟨pCB C ok_J0_indexOf_0f7a4 (by rw [hM]; exact ml12_237) np_J0_indexOf_0f7a4, pC_word C im_J0_indexOf_0f7a4, pC_word C se_J0_indexOf_0f7a4⟩ (pPreVq C hg hW hz hS) rfl rfl hl.1 rfl (lv_room hcat) h3 ⟨by omega, by omega⟩) (fun H1 locs1 w1 w2 w3 => k l D bs p e R s m args below meth c H1 locs1 cells slots ls C w1 w2 w3 hl hc hn)
theorem sgZ_r (z : Int) : -2147483648 ≤ sgZ z ∧ sgZ z ≤ 2147483647 := inR_toInt _
theorem tm_signs {d : Nat} {M : MT} {pc b : Nat} {σ : MS} {L : List (Nat × Value)} {st : List Value} {post : Option Value → MS → Prop} {q : Nat} {z : Int} (hM : M.1.cls = "LineKeeperModel") (h1 : decode M.2.1 pc = .ok (.ldc 235, 2)) (h2 : decode M.2.1 (pc + 2) = .ok (.iload_n 1, 1)) (h3 : decode M.2.1 (pc + 3) = .ok (.invokevirtual 237, 3)) (hq : L[q]? = some (1, .int (iI z))) (hz : 0 ≤ z ∧ z ≤ 255) (hcat : (st.map fun v => v.category).sum ≤ 8) (k : Tm (d + 4) M (pc + 6) b σ L (.int (iI (sgZ z)) :: st) post) : Tm (d + 4) M pc b σ L st post := fun P0 sz hs => by
  obtain ⟨r, σ2, w, hp⟩ := k P0 sz hs
  refine ⟨r, σ2, wp_signs hM h1 h2 h3 hq (iI_n_lt (b := 0) ⟨by omega, by omega⟩ inR_0 (by omega)) (iI_n_lt (a := 255) ⟨by omega, by omega⟩ ⟨by omega, by omega⟩ (by omega)) hcat (Nat.le_refl _) ?_, hp⟩
  have e : iI (sgZ z) = sgI (iI z) := iI_self _
  rw [e] at w
  exact w
end
section
def TOK (σ : MS) : Prop := (0 ≤ σ.1 19 ∧ σ.1 19 ≤ σ.1 20 ∧ σ.1 20 ≤ σ.1 21 ∧ σ.1 21 ≤ 1200) ∧ (σ.1 22 ≠ 0 → σ.1 19 < σ.1 20) ∧ (0 ≤ σ.1 22 ∧ σ.1 22 ≤ 4) ∧ (-1 ≤ σ.1 23 ∧ σ.1 23 ≤ 9999999)

theorem advP_end {s : Int → Int} {p c : Int} (e : c = s p) (h : c < 0) : advP s p = (p, p, 0, c, 0) := by unfold advP; rw [← e, if_pos h]
theorem advP_let {s : Int → Int} {p c n k : Int} {w : Int64} (e : c = s p) (h : ¬ c < 0) (hl : 97 ≤ c ∧ c ≤ 122) (q : ltp s p 0 0 = (n, w, k)) : advP s p = (p, n, if 6 < k then 1 else 2, c, w) := by unfold advP; rw [← e, if_neg h, if_pos hl, q]
theorem advP_dig {s : Int → Int} {p c n k v : Int} (e : c = s p) (h : ¬ c < 0) (hl : ¬ (97 ≤ c ∧ c ≤ 122)) (hd : 48 ≤ c ∧ c ≤ 57) (q : dgp s p 0 0 = (n, v, k)) : advP s p = (p, n, if 7 < k then 1 else 3, v, 0) := by unfold advP; rw [← e, if_neg h, if_neg hl, if_pos hd, q]
theorem advP_sgn {s : Int → Int} {p c : Int} (e : c = s p) (h : ¬ c < 0) (hl : ¬ (97 ≤ c ∧ c ≤ 122)) (hd : ¬ (48 ≤ c ∧ c ≤ 57)) : advP s p = (p, p + 1, if sgZ c < 0 then 1 else 4, c, 0) := by unfold advP; rw [← e, if_neg h, if_neg hl, if_neg hd]

theorem fl12_207 : Cond.fieldLink RX12 207 (TX12 21).1 (TX12 21).2.1 (TX12 21).2.2.1 ∈ pWW := pw7 (List.mem_of_getElem? (i := 28) rfl) rfl
theorem dX12_see_0 : decode cX12_see 0 = .ok (.iload_n 1, 1) := by decide +kernel
theorem dX12_see_1 : decode cX12_see 1 = .ok (.aload_n 0, 1) := by decide +kernel
theorem dX12_see_2 : decode cX12_see 2 = .ok (.getfield 207, 3) := by decide +kernel
theorem dX12_see_5 : decode cX12_see 5 = .ok (.if_icmp .ge 16, 3) := by decide +kernel
theorem dX12_see_21 : decode cX12_see 21 = .ok (.iconst (-1), 1) := by decide +kernel
theorem dX12_see_22 : decode cX12_see 22 = .ok (.ireturn, 1) := by decide +kernel
theorem dX12_see_8 : decode cX12_see 8 = .ok (.aload_n 0, 1) := by decide +kernel
theorem dX12_see_9 : decode cX12_see 9 = .ok (.getfield 7, 3) := by decide +kernel
theorem dX12_see_12 : decode cX12_see 12 = .ok (.iload_n 1, 1) := by decide +kernel
theorem dX12_see_13 : decode cX12_see 13 = .ok (.baload, 1) := by decide +kernel
theorem dX12_see_14 : decode cX12_see 14 = .ok (.sipush 255, 3) := by decide +kernel
theorem dX12_see_17 : decode cX12_see 17 = .ok (.iand, 1) := by decide +kernel
theorem dX12_see_18 : decode cX12_see 18 = .ok (.goto 4, 3) := by decide +kernel
set_option maxHeartbeats 4000000 in
set_option maxRecDepth 20000 in
theorem c_X12_see (d : Nat) {b : Nat} {σ : MS} {k : Int} (hR : RG σ) (hk : 0 ≤ k ∧ k ≤ 2147483647) (hl : σ.1 21 ≤ 1200) : Tm (d + 1) m_X12_see 0 b σ [(0, .ref b), (1, .int (iI k))] [] (fun ro σ2 => ∃ v : Int, ro = some (.int (iI v)) ∧ σ = σ2 ∧ (v = sv σ k) ∧ (-1 ≤ v ∧ v ≤ 255) ∧ ((v < 0 ↔ σ.1 21 ≤ k))) := by
  refine tm_iload_n dX12_see_0 rfl 1 rfl ?_
  refine tm_aload_n dX12_see_1 rfl 0 rfl ?_
  refine tm_getS (k := 21) (t := σ.1 21) dX12_see_2 (by decide) fl12_207 rfl (rfl) ?_
  have g1 := RG.s hR 21
  refine tm_icmp_ge (tgt := 21) dX12_see_5 (by decide) ⟨by omega, by omega⟩ ⟨by omega, by omega⟩ (fun h2 => ?_) (fun h2 => ?_)
  · refine tm_iconst dX12_see_21 ?_
    exact tm_iret rfl dX12_see_22 (⟨_, rfl, rfl, (if_neg (by omega)).symm, by omega, by omega⟩)
  · refine tm_aload_n dX12_see_8 rfl 0 rfl ?_
    refine tm_get (k := 1) (v := .ref (b + 1 + 0)) lay_12 dX12_see_9 (by decide) fl12_7 rfl ?_
    refine tm_iload_n dX12_see_12 rfl 1 rfl ?_
    refine tm_bald (z := k) (v := σ.2.1 1 k) dX12_see_13 (show mT[0]? = some (1, 1, 1200) from rfl) (by omega) (by omega) (by decide) (rfl) ?_
    have g3 := RG.a hR 1 (k)
    refine tm_sipush dX12_see_14 (by decide) ?_
    refine tm_iand dX12_see_17 ?_
    refine tm_goto (tgt := 22) dX12_see_18 (by decide) ?_
    exact tm_iret rfl dX12_see_22 (⟨an5 (σ.2.1 1 k), by rw [an5_eq], rfl, (if_pos (by omega)).symm, by have := an5_r (σ.2.1 1 k); omega, by have := an5_r (σ.2.1 1 k); omega⟩)
theorem fl12_210 : Cond.fieldLink RX12 210 (TX12 20).1 (TX12 20).2.1 (TX12 20).2.2.1 ∈ pWW := pw7 (List.mem_of_getElem? (i := 27) rfl) rfl
theorem ml12_213 : Cond.methodLink RX12 213 yX12_see ∈ pWW := pw8 (List.mem_of_getElem? (i := 55) rfl) rfl
theorem dX12_advance_0 : decode cX12_advance 0 = .ok (.aload_n 0, 1) := by decide +kernel
theorem dX12_advance_1 : decode cX12_advance 1 = .ok (.aload_n 0, 1) := by decide +kernel
theorem dX12_advance_2 : decode cX12_advance 2 = .ok (.getfield 210, 3) := by decide +kernel
theorem dX12_advance_5 : decode cX12_advance 5 = .ok (.invokevirtual 213, 3) := by decide +kernel
theorem dX12_advance_8 : decode cX12_advance 8 = .ok (.bipush 10, 2) := by decide +kernel
theorem dX12_advance_10 : decode cX12_advance 10 = .ok (.if_icmp .eq 16, 3) := by decide +kernel
theorem dX12_advance_26 : decode cX12_advance 26 = .ok (.aload_n 0, 1) := by decide +kernel
theorem dX12_advance_27 : decode cX12_advance 27 = .ok (.dup, 1) := by decide +kernel
theorem dX12_advance_28 : decode cX12_advance 28 = .ok (.getfield 210, 3) := by decide +kernel
theorem dX12_advance_31 : decode cX12_advance 31 = .ok (.iconst 1, 1) := by decide +kernel
theorem dX12_advance_32 : decode cX12_advance 32 = .ok (.iadd, 1) := by decide +kernel
theorem dX12_advance_33 : decode cX12_advance 33 = .ok (.putfield 210, 3) := by decide +kernel
theorem dX12_advance_36 : decode cX12_advance 36 = .ok (.goto (-36), 3) := by decide +kernel
theorem dX12_advance_13 : decode cX12_advance 13 = .ok (.aload_n 0, 1) := by decide +kernel
theorem dX12_advance_14 : decode cX12_advance 14 = .ok (.aload_n 0, 1) := by decide +kernel
theorem dX12_advance_15 : decode cX12_advance 15 = .ok (.getfield 210, 3) := by decide +kernel
theorem dX12_advance_18 : decode cX12_advance 18 = .ok (.invokevirtual 213, 3) := by decide +kernel
theorem dX12_advance_21 : decode cX12_advance 21 = .ok (.bipush 32, 2) := by decide +kernel
theorem dX12_advance_23 : decode cX12_advance 23 = .ok (.if_icmp .ne 16, 3) := by decide +kernel
set_option maxHeartbeats 4000000 in
set_option maxRecDepth 20000 in
theorem l_adv0 (d : Nat) {b : Nat} {σ0 : MS} {p0 : Int} {post : Option Value → MS → Prop} (hR0 : RG σ0) (hlen : 0 ≤ σ0.1 21 ∧ σ0.1 21 ≤ 1200 ∧ 0 ≤ σ0.1 20) (hx_39 : ∀ (σ : MS) , (Fr [20] [] [] σ0 σ) → (RG σ) → (0 ≤ σ.1 20 ∧ σ.1 20 ≤ σ0.1 21 ∧ σ0.1 20 ≤ σ.1 20) → (σ.1 20 = p0) → Tm (d + 2) m_X12_advance 39 b σ [(0, .ref b)] [] post) : ∀ (n : Nat) (σ : MS) , (Fr [20] [] [] σ0 σ) → (RG σ) → (0 ≤ σ.1 20 ∧ σ.1 20 ≤ σ0.1 21 ∧ σ0.1 20 ≤ σ.1 20) → (wsp (sv σ0) (σ.1 20) = p0) → (1300 - σ.1 20).toNat = n → Tm (d + 2) m_X12_advance 0 b σ [(0, .ref b)] [] post := by
  intro n
  induction n using Nat.strongRecOn with
  | _ n ih =>
    intro  σ hF hR h0 hw hm
    have svF : sv σ = sv σ0 := sv_fr hF (by decide) (by decide)
    have e21 : σ.1 21 = σ0.1 21 := hF.1 21 (by decide)
    refine tm_aload_n dX12_advance_0 rfl 0 rfl ?_
    refine tm_aload_n dX12_advance_1 rfl 0 rfl ?_
    refine tm_getS (k := 20) (t := σ.1 20) dX12_advance_2 (by decide) fl12_210 rfl (rfl) ?_
    have g1 := RG.s hR 20
    refine tm_callV (M := m_X12_advance) (pc := 5) (ix := 213) (M' := m_X12_see) (As := [.int (iI (σ.1 20))]) (rest := []) dX12_advance_5 ok_X12_see im_X12_see se_X12_see ml12_213 np_X12_see rfl rfl (Nat.le_of_ble_eq_true rfl) (Nat.le_of_ble_eq_true rfl) rfl (c_X12_see (d) (σ := σ) (k := σ.1 20) hR (by omega) (by rw [show σ.1 21 = σ0.1 21 from rs_F hF (by decide) (rfl)]; omega)) (fun r2 σ3 hp => ?_)
    obtain ⟨v4, rfl, rfl, f5, f6, f7⟩ := hp
    show Tm _ _ 8 b σ [(0, .ref b)] [.int (iI v4)] _
    have es1 : v4 = sv σ0 (σ.1 20) := by rw [f5, svF]
    refine tm_bipush dX12_advance_8 (by decide) ?_
    refine tm_icmp_eq (tgt := 26) dX12_advance_10 (by decide) ⟨by omega, by omega⟩ ⟨by decide, by decide⟩ (fun h8 => ?_) (fun h8 => ?_)
    · refine tm_aload_n dX12_advance_26 rfl 0 rfl ?_
      refine tm_dup dX12_advance_27 rfl ?_
      refine tm_getS (k := 20) (t := σ.1 20) dX12_advance_28 (by decide) fl12_210 rfl (rfl) ?_
      have g9 := RG.s hR 20
      refine tm_iconst dX12_advance_31 ?_
      refine tm_iadd dX12_advance_32 ?_
      refine tm_putS (k := 20) (v := (σ.1 20) + 1) lay_12 dX12_advance_33 (by decide) fl12_210 rfl (tyX12_ok 20 (by decide)) rfl rfl rfl ?_
      refine tm_goto (tgt := 0) dX12_advance_36 (by decide) ?_
      exact tm_sub [0] rfl (ih _ (by rw [show (sS 20 ((σ.1 20) + 1) σ).1 20 = (σ.1 20) + 1 from rs_eq]; omega)  (sS 20 ((σ.1 20) + 1) σ) ((Fr.rfl.trans (Fr.sub hF (by decide) (by decide) (by decide))).S (by decide)) (hR.S (by omega)) (by rw [show (sS 20 ((σ.1 20) + 1) σ).1 20 = (σ.1 20) + 1 from rs_eq]; omega) ((wsp_s (by omega) (by omega)).symm.trans hw) rfl)
    · refine tm_aload_n dX12_advance_13 rfl 0 rfl ?_
      refine tm_aload_n dX12_advance_14 rfl 0 rfl ?_
      refine tm_getS (k := 20) (t := σ.1 20) dX12_advance_15 (by decide) fl12_210 rfl (rfl) ?_
      have g10 := RG.s hR 20
      refine tm_callV (M := m_X12_advance) (pc := 18) (ix := 213) (M' := m_X12_see) (As := [.int (iI (σ.1 20))]) (rest := []) dX12_advance_18 ok_X12_see im_X12_see se_X12_see ml12_213 np_X12_see rfl rfl (Nat.le_of_ble_eq_true rfl) (Nat.le_of_ble_eq_true rfl) rfl (c_X12_see (d) (σ := σ) (k := σ.1 20) hR (by omega) (by rw [show σ.1 21 = σ0.1 21 from rs_F hF (by decide) (rfl)]; omega)) (fun r11 σ12 hp => ?_)
      obtain ⟨v13, rfl, rfl, f14, f15, f16⟩ := hp
      show Tm _ _ 21 b σ [(0, .ref b)] [.int (iI v13)] _
      have es2 : v13 = sv σ0 (σ.1 20) := by rw [f14, svF]
      refine tm_bipush dX12_advance_21 (by decide) ?_
      refine tm_icmp_ne (tgt := 39) dX12_advance_23 (by decide) ⟨by omega, by omega⟩ ⟨by decide, by decide⟩ (fun h17 => ?_) (fun h17 => ?_)
      · exact tm_sub [0] rfl (hx_39  σ (Fr.rfl.trans (Fr.sub hF (by decide) (by decide) (by decide))) hR (by omega) ((wsp_e (by omega)).symm.trans hw))
      · refine tm_aload_n dX12_advance_26 rfl 0 rfl ?_
        refine tm_dup dX12_advance_27 rfl ?_
        refine tm_getS (k := 20) (t := σ.1 20) dX12_advance_28 (by decide) fl12_210 rfl (rfl) ?_
        have g18 := RG.s hR 20
        refine tm_iconst dX12_advance_31 ?_
        refine tm_iadd dX12_advance_32 ?_
        refine tm_putS (k := 20) (v := (σ.1 20) + 1) lay_12 dX12_advance_33 (by decide) fl12_210 rfl (tyX12_ok 20 (by decide)) rfl rfl rfl ?_
        refine tm_goto (tgt := 0) dX12_advance_36 (by decide) ?_
        exact tm_sub [0] rfl (ih _ (by rw [show (sS 20 ((σ.1 20) + 1) σ).1 20 = (σ.1 20) + 1 from rs_eq]; omega)  (sS 20 ((σ.1 20) + 1) σ) ((Fr.rfl.trans (Fr.sub hF (by decide) (by decide) (by decide))).S (by decide)) (hR.S (by omega)) (by rw [show (sS 20 ((σ.1 20) + 1) σ).1 20 = (σ.1 20) + 1 from rs_eq]; omega) ((wsp_s (by omega) (by omega)).symm.trans hw) rfl)
theorem ml12_229 : Cond.methodLink RX12 229 yX12_isLetter ∈ pWW := pw8 (List.mem_of_getElem? (i := 59) rfl) rfl
theorem dX12_advance_87 : decode cX12_advance 87 = .ok (.aload_n 0, 1) := by decide +kernel
theorem dX12_advance_88 : decode cX12_advance 88 = .ok (.aload_n 0, 1) := by decide +kernel
theorem dX12_advance_89 : decode cX12_advance 89 = .ok (.getfield 210, 3) := by decide +kernel
theorem dX12_advance_92 : decode cX12_advance 92 = .ok (.invokevirtual 213, 3) := by decide +kernel
theorem dX12_advance_95 : decode cX12_advance 95 = .ok (.invokestatic 229, 3) := by decide +kernel
theorem dX12_advance_98 : decode cX12_advance 98 = .ok (.ifCond .eq 40, 3) := by decide +kernel
theorem dX12_advance_101 : decode cX12_advance 101 = .ok (.aload_n 0, 1) := by decide +kernel
theorem dX12_advance_102 : decode cX12_advance 102 = .ok (.aload_n 0, 1) := by decide +kernel
theorem dX12_advance_103 : decode cX12_advance 103 = .ok (.getfield 219, 3) := by decide +kernel
theorem dX12_advance_106 : decode cX12_advance 106 = .ok (.bipush 8, 2) := by decide +kernel
theorem dX12_advance_108 : decode cX12_advance 108 = .ok (.lshl, 1) := by decide +kernel
theorem dX12_advance_109 : decode cX12_advance 109 = .ok (.aload_n 0, 1) := by decide +kernel
theorem dX12_advance_110 : decode cX12_advance 110 = .ok (.aload_n 0, 1) := by decide +kernel
theorem dX12_advance_111 : decode cX12_advance 111 = .ok (.getfield 210, 3) := by decide +kernel
theorem dX12_advance_114 : decode cX12_advance 114 = .ok (.invokevirtual 213, 3) := by decide +kernel
theorem dX12_advance_117 : decode cX12_advance 117 = .ok (.i2l, 1) := by decide +kernel
theorem dX12_advance_118 : decode cX12_advance 118 = .ok (.lor, 1) := by decide +kernel
theorem dX12_advance_119 : decode cX12_advance 119 = .ok (.putfield 219, 3) := by decide +kernel
theorem dX12_advance_122 : decode cX12_advance 122 = .ok (.aload_n 0, 1) := by decide +kernel
theorem dX12_advance_123 : decode cX12_advance 123 = .ok (.dup, 1) := by decide +kernel
theorem dX12_advance_124 : decode cX12_advance 124 = .ok (.getfield 210, 3) := by decide +kernel
theorem dX12_advance_127 : decode cX12_advance 127 = .ok (.iconst 1, 1) := by decide +kernel
theorem dX12_advance_128 : decode cX12_advance 128 = .ok (.iadd, 1) := by decide +kernel
theorem dX12_advance_129 : decode cX12_advance 129 = .ok (.putfield 210, 3) := by decide +kernel
theorem dX12_advance_132 : decode cX12_advance 132 = .ok (.iinc 2 1, 3) := by decide +kernel
theorem dX12_advance_135 : decode cX12_advance 135 = .ok (.goto (-48), 3) := by decide +kernel
set_option maxHeartbeats 4000000 in
set_option maxRecDepth 20000 in
theorem l_adv1 (d : Nat) {b : Nat} {σ0 : MS} {c : Int} {R0 : Int × Int64 × Int} {post : Option Value → MS → Prop} (hR0 : RG σ0) (hlen : 0 ≤ σ0.1 21 ∧ σ0.1 21 ≤ 1200 ∧ 0 ≤ σ0.1 20) (hcl : 97 ≤ c ∧ c ≤ 122) (hx_138 : ∀ (n1 : Int) (σ : MS) , (Fr [20] [] [24] σ0 σ) → (RG σ) → (0 ≤ σ.1 20 ∧ σ.1 20 ≤ σ0.1 21 ∧ σ0.1 20 ≤ σ.1 20 ∧ n1 = σ.1 20 - σ0.1 20 ∧ 1 ≤ n1) → (R0 = (σ.1 20, σ.2.2 24 0, n1)) → Tm (d + 3) m_X12_advance 138 b σ [(2, .int (iI n1)), (1, .int (iI c)), (0, .ref b)] [] post) : ∀ (n : Nat) (n1 : Int) (σ : MS) , (Fr [20] [] [24] σ0 σ) → (RG σ) → (0 ≤ σ.1 20 ∧ σ.1 20 ≤ σ0.1 21 ∧ σ0.1 20 ≤ σ.1 20 ∧ n1 = σ.1 20 - σ0.1 20) → (n1 = 0 → c = sv σ0 (σ.1 20)) → (ltp (sv σ0) (σ.1 20) (σ.2.2 24 0) n1 = R0) → (1300 - σ.1 20).toNat = n → Tm (d + 3) m_X12_advance 87 b σ [(2, .int (iI n1)), (1, .int (iI c)), (0, .ref b)] [] post := by
  intro n
  induction n using Nat.strongRecOn with
  | _ n ih =>
    intro n1 σ hF hR h0 hc hw hm
    have svF : sv σ = sv σ0 := sv_fr hF (by decide) (by decide)
    have e21 : σ.1 21 = σ0.1 21 := hF.1 21 (by decide)
    refine tm_aload_n dX12_advance_87 rfl 2 rfl ?_
    refine tm_aload_n dX12_advance_88 rfl 2 rfl ?_
    refine tm_getS (k := 20) (t := σ.1 20) dX12_advance_89 (by decide) fl12_210 rfl (rfl) ?_
    have g1 := RG.s hR 20
    refine tm_callV (M := m_X12_advance) (pc := 92) (ix := 213) (M' := m_X12_see) (As := [.int (iI (σ.1 20))]) (rest := []) dX12_advance_92 ok_X12_see im_X12_see se_X12_see ml12_213 np_X12_see rfl rfl (Nat.le_of_ble_eq_true rfl) (Nat.le_of_ble_eq_true rfl) rfl (c_X12_see (d + 1) (σ := σ) (k := σ.1 20) hR (by omega) (by rw [show σ.1 21 = σ0.1 21 from rs_F hF (by decide) (rfl)]; omega)) (fun r2 σ3 hp => ?_)
    obtain ⟨v4, rfl, rfl, f5, f6, f7⟩ := hp
    show Tm _ _ 95 b σ [(2, .int (iI n1)), (1, .int (iI c)), (0, .ref b)] [.int (iI v4)] _
    have es1 : v4 = sv σ0 (σ.1 20) := by rw [f5, svF]
    refine tm_callS (M := m_X12_advance) (pc := 95) (ix := 229) (M' := m_X12_isLetter) (As := [.int (iI v4)]) (rest := []) dX12_advance_95 ok_X12_isLetter stt_X12_isLetter ml12_229 np_X12_isLetter rfl (Nat.le_of_ble_eq_true rfl) (Nat.le_of_ble_eq_true rfl) rfl (c_X12_isLetter (d) (σ := σ) (x := v4) (by omega)) (fun r8 σ9 hp => ?_)
    obtain ⟨v10, rfl, rfl, f11, f12⟩ := hp
    show Tm _ _ 98 b σ [(2, .int (iI n1)), (1, .int (iI c)), (0, .ref b)] [.int (iI v10)] _
    refine tm_if_eq (tgt := 138) dX12_advance_98 (by decide) ⟨by omega, by omega⟩ (fun h13 => ?_) (fun h13 => ?_)
    · exact tm_sub [0, 1, 2] rfl (hx_138 (n1) σ (Fr.rfl.trans (Fr.sub hF (by decide) (by decide) (by decide))) hR (by omega) (hw.symm.trans (ltp_e (by omega))))
    · refine tm_aload_n dX12_advance_101 rfl 2 rfl ?_
      refine tm_aload_n dX12_advance_102 rfl 2 rfl ?_
      refine tm_getW (t := σ.2.2 24 0) dX12_advance_103 fl12_219 (rfl) ?_
      refine tm_bipush dX12_advance_106 (by decide) ?_
      refine tm_lshl dX12_advance_108 ?_
      refine tm_aload_n dX12_advance_109 rfl 2 rfl ?_
      refine tm_aload_n dX12_advance_110 rfl 2 rfl ?_
      refine tm_getS (k := 20) (t := σ.1 20) dX12_advance_111 (by decide) fl12_210 rfl (rfl) ?_
      have g14 := RG.s hR 20
      refine tm_callV (M := m_X12_advance) (pc := 114) (ix := 213) (M' := m_X12_see) (As := [.int (iI (σ.1 20))]) (rest := [.long ((σ.2.2 24 0) <<< ((iI 8).toInt64 &&& 63)), .ref b]) dX12_advance_114 ok_X12_see im_X12_see se_X12_see ml12_213 np_X12_see rfl rfl (Nat.le_of_ble_eq_true rfl) (Nat.le_of_ble_eq_true rfl) rfl (c_X12_see (d + 1) (σ := σ) (k := σ.1 20) hR (by omega) (by rw [show σ.1 21 = σ0.1 21 from rs_F hF (by decide) (rfl)]; omega)) (fun r15 σ16 hp => ?_)
      obtain ⟨v17, rfl, rfl, f18, f19, f20⟩ := hp
      show Tm _ _ 117 b σ [(2, .int (iI n1)), (1, .int (iI c)), (0, .ref b)] [.int (iI v17), .long ((σ.2.2 24 0) <<< ((iI 8).toInt64 &&& 63)), .ref b] _
      have es2 : v17 = sv σ0 (σ.1 20) := by rw [f18, svF]
      refine tm_i2l dX12_advance_117 ?_
      refine tm_lor dX12_advance_118 ?_
      refine tm_putW lay_12 dX12_advance_119 fl12_219 ?_
      refine tm_aload_n dX12_advance_122 rfl 2 rfl ?_
      refine tm_dup dX12_advance_123 rfl ?_
      refine tm_getS (k := 20) (t := σ.1 20) dX12_advance_124 (by decide) fl12_210 rfl (rs_J (rfl)) ?_
      have g21 := RG.s hR 20
      refine tm_iconst dX12_advance_127 ?_
      refine tm_iadd dX12_advance_128 ?_
      refine tm_putS (k := 20) (v := (σ.1 20) + 1) lay_12 dX12_advance_129 (by decide) fl12_210 rfl (tyX12_ok 20 (by decide)) rfl rfl rfl ?_
      refine tm_iinc (q0 := 0) (L' := [(2, .int (iI (n1 + 1))), (1, .int (iI c)), (0, .ref b)]) dX12_advance_132 rfl (by decide) rfl ?_
      refine tm_goto (tgt := 87) dX12_advance_135 (by decide) ?_
      exact tm_sub [0, 1, 2] rfl (ih _ (by rw [show (sS 20 ((σ.1 20) + 1) (sJ 24 0 (((σ.2.2 24 0) <<< ((iI 8).toInt64 &&& 63)) ||| ((iI v17).toInt64)) σ)).1 20 = (σ.1 20) + 1 from rs_eq]; omega) (n1 + 1) (sS 20 ((σ.1 20) + 1) (sJ 24 0 (((σ.2.2 24 0) <<< ((iI 8).toInt64 &&& 63)) ||| ((iI v17).toInt64)) σ)) (((Fr.rfl.trans (Fr.sub hF (by decide) (by decide) (by decide))).J (by decide)).S (by decide)) ((hR.J).S (by omega)) (by rw [show (sS 20 ((σ.1 20) + 1) (sJ 24 0 (((σ.2.2 24 0) <<< ((iI 8).toInt64 &&& 63)) ||| ((iI v17).toInt64)) σ)).1 20 = (σ.1 20) + 1 from rs_eq]; omega) (fun q => absurd q (by omega)) (by rw [es2]; exact (ltp_s (by omega) (by omega)).symm.trans hw) rfl)
theorem ml12_232 : Cond.methodLink RX12 232 yX12_isDigit ∈ pWW := pw8 (List.mem_of_getElem? (i := 62) rfl) rfl
theorem dX12_advance_170 : decode cX12_advance 170 = .ok (.aload_n 0, 1) := by decide +kernel
theorem dX12_advance_171 : decode cX12_advance 171 = .ok (.aload_n 0, 1) := by decide +kernel
theorem dX12_advance_172 : decode cX12_advance 172 = .ok (.getfield 210, 3) := by decide +kernel
theorem dX12_advance_175 : decode cX12_advance 175 = .ok (.invokevirtual 213, 3) := by decide +kernel
theorem dX12_advance_178 : decode cX12_advance 178 = .ok (.invokestatic 232, 3) := by decide +kernel
theorem dX12_advance_181 : decode cX12_advance 181 = .ok (.ifCond .eq 55, 3) := by decide +kernel
theorem dX12_advance_184 : decode cX12_advance 184 = .ok (.aload_n 0, 1) := by decide +kernel
theorem dX12_advance_185 : decode cX12_advance 185 = .ok (.iload_n 2, 1) := by decide +kernel
theorem dX12_advance_186 : decode cX12_advance 186 = .ok (.bipush 7, 2) := by decide +kernel
theorem dX12_advance_188 : decode cX12_advance 188 = .ok (.if_icmp .ge 25, 3) := by decide +kernel
theorem dX12_advance_213 : decode cX12_advance 213 = .ok (.aload_n 0, 1) := by decide +kernel
theorem dX12_advance_214 : decode cX12_advance 214 = .ok (.getfield 223, 3) := by decide +kernel
theorem dX12_advance_217 : decode cX12_advance 217 = .ok (.putfield 223, 3) := by decide +kernel
theorem dX12_advance_220 : decode cX12_advance 220 = .ok (.aload_n 0, 1) := by decide +kernel
theorem dX12_advance_221 : decode cX12_advance 221 = .ok (.dup, 1) := by decide +kernel
theorem dX12_advance_222 : decode cX12_advance 222 = .ok (.getfield 210, 3) := by decide +kernel
theorem dX12_advance_225 : decode cX12_advance 225 = .ok (.iconst 1, 1) := by decide +kernel
theorem dX12_advance_226 : decode cX12_advance 226 = .ok (.iadd, 1) := by decide +kernel
theorem dX12_advance_227 : decode cX12_advance 227 = .ok (.putfield 210, 3) := by decide +kernel
theorem dX12_advance_230 : decode cX12_advance 230 = .ok (.iinc 2 1, 3) := by decide +kernel
theorem dX12_advance_233 : decode cX12_advance 233 = .ok (.goto (-63), 3) := by decide +kernel
theorem dX12_advance_191 : decode cX12_advance 191 = .ok (.bipush 10, 2) := by decide +kernel
theorem dX12_advance_193 : decode cX12_advance 193 = .ok (.aload_n 0, 1) := by decide +kernel
theorem dX12_advance_194 : decode cX12_advance 194 = .ok (.getfield 223, 3) := by decide +kernel
theorem dX12_advance_197 : decode cX12_advance 197 = .ok (.imul, 1) := by decide +kernel
theorem dX12_advance_198 : decode cX12_advance 198 = .ok (.aload_n 0, 1) := by decide +kernel
theorem dX12_advance_199 : decode cX12_advance 199 = .ok (.aload_n 0, 1) := by decide +kernel
theorem dX12_advance_200 : decode cX12_advance 200 = .ok (.getfield 210, 3) := by decide +kernel
theorem dX12_advance_203 : decode cX12_advance 203 = .ok (.invokevirtual 213, 3) := by decide +kernel
theorem dX12_advance_206 : decode cX12_advance 206 = .ok (.iadd, 1) := by decide +kernel
theorem dX12_advance_207 : decode cX12_advance 207 = .ok (.bipush 48, 2) := by decide +kernel
theorem dX12_advance_209 : decode cX12_advance 209 = .ok (.isub, 1) := by decide +kernel
theorem dX12_advance_210 : decode cX12_advance 210 = .ok (.goto 7, 3) := by decide +kernel
set_option maxHeartbeats 4000000 in
set_option maxRecDepth 20000 in
theorem l_adv2 (d : Nat) {b : Nat} {σ0 : MS} {c : Int} {R0 : Int × Int × Int} {post : Option Value → MS → Prop} (hR0 : RG σ0) (hlen : 0 ≤ σ0.1 21 ∧ σ0.1 21 ≤ 1200 ∧ 0 ≤ σ0.1 20) (hcl : 48 ≤ c ∧ c ≤ 57) (hx_236 : ∀ (n1 : Int) (σ : MS) , (Fr [20, 23] [] [] σ0 σ) → (RG σ) → (0 ≤ σ.1 20 ∧ σ.1 20 ≤ σ0.1 21 ∧ σ0.1 20 ≤ σ.1 20 ∧ n1 = σ.1 20 - σ0.1 20 ∧ 1 ≤ n1) → (0 ≤ σ.1 23 ∧ σ.1 23 ≤ 9999999) → (R0 = (σ.1 20, σ.1 23, n1)) → Tm (d + 3) m_X12_advance 236 b σ [(2, .int (iI n1)), (1, .int (iI c)), (0, .ref b)] [] post) : ∀ (n : Nat) (n1 : Int) (σ : MS) , (Fr [20, 23] [] [] σ0 σ) → (RG σ) → (0 ≤ σ.1 20 ∧ σ.1 20 ≤ σ0.1 21 ∧ σ0.1 20 ≤ σ.1 20 ∧ n1 = σ.1 20 - σ0.1 20) → (n1 = 0 → c = sv σ0 (σ.1 20)) → ((n1 = 0 → σ.1 23 = 0) ∧ (n1 = 1 → σ.1 23 ≤ 9) ∧ (n1 = 2 → σ.1 23 ≤ 99) ∧ (n1 = 3 → σ.1 23 ≤ 999) ∧ (n1 = 4 → σ.1 23 ≤ 9999) ∧ (n1 = 5 → σ.1 23 ≤ 99999) ∧ (n1 = 6 → σ.1 23 ≤ 999999) ∧ 0 ≤ σ.1 23 ∧ σ.1 23 ≤ 9999999) → (dgp (sv σ0) (σ.1 20) (σ.1 23) n1 = R0) → (1300 - σ.1 20).toNat = n → Tm (d + 3) m_X12_advance 170 b σ [(2, .int (iI n1)), (1, .int (iI c)), (0, .ref b)] [] post := by
  intro n
  induction n using Nat.strongRecOn with
  | _ n ih =>
    intro n1 σ hF hR h0 hc hv hw hm
    have svF : sv σ = sv σ0 := sv_fr hF (by decide) (by decide)
    have e21 : σ.1 21 = σ0.1 21 := hF.1 21 (by decide)
    refine tm_aload_n dX12_advance_170 rfl 2 rfl ?_
    refine tm_aload_n dX12_advance_171 rfl 2 rfl ?_
    refine tm_getS (k := 20) (t := σ.1 20) dX12_advance_172 (by decide) fl12_210 rfl (rfl) ?_
    have g1 := RG.s hR 20
    refine tm_callV (M := m_X12_advance) (pc := 175) (ix := 213) (M' := m_X12_see) (As := [.int (iI (σ.1 20))]) (rest := []) dX12_advance_175 ok_X12_see im_X12_see se_X12_see ml12_213 np_X12_see rfl rfl (Nat.le_of_ble_eq_true rfl) (Nat.le_of_ble_eq_true rfl) rfl (c_X12_see (d + 1) (σ := σ) (k := σ.1 20) hR (by omega) (by rw [show σ.1 21 = σ0.1 21 from rs_F hF (by decide) (rfl)]; omega)) (fun r2 σ3 hp => ?_)
    obtain ⟨v4, rfl, rfl, f5, f6, f7⟩ := hp
    show Tm _ _ 178 b σ [(2, .int (iI n1)), (1, .int (iI c)), (0, .ref b)] [.int (iI v4)] _
    have es1 : v4 = sv σ0 (σ.1 20) := by rw [f5, svF]
    refine tm_callS (M := m_X12_advance) (pc := 178) (ix := 232) (M' := m_X12_isDigit) (As := [.int (iI v4)]) (rest := []) dX12_advance_178 ok_X12_isDigit stt_X12_isDigit ml12_232 np_X12_isDigit rfl (Nat.le_of_ble_eq_true rfl) (Nat.le_of_ble_eq_true rfl) rfl (c_X12_isDigit (d) (σ := σ) (x := v4) (by omega)) (fun r8 σ9 hp => ?_)
    obtain ⟨v10, rfl, rfl, f11, f12⟩ := hp
    show Tm _ _ 181 b σ [(2, .int (iI n1)), (1, .int (iI c)), (0, .ref b)] [.int (iI v10)] _
    refine tm_if_eq (tgt := 236) dX12_advance_181 (by decide) ⟨by omega, by omega⟩ (fun h13 => ?_) (fun h13 => ?_)
    · exact tm_sub [0, 1, 2] rfl (hx_236 (n1) σ (Fr.rfl.trans (Fr.sub hF (by decide) (by decide) (by decide))) hR (by omega) (by omega) (hw.symm.trans (dgp_e (by omega))))
    · refine tm_aload_n dX12_advance_184 rfl 2 rfl ?_
      refine tm_iload_n dX12_advance_185 rfl 0 rfl ?_
      refine tm_bipush dX12_advance_186 (by decide) ?_
      refine tm_icmp_ge (tgt := 213) dX12_advance_188 (by decide) ⟨by omega, by omega⟩ ⟨by decide, by decide⟩ (fun h14 => ?_) (fun h14 => ?_)
      · refine tm_aload_n dX12_advance_213 rfl 2 rfl ?_
        refine tm_getS (k := 23) (t := σ.1 23) dX12_advance_214 (by decide) fl12_223 rfl (rfl) ?_
        have g15 := RG.s hR 23
        refine tm_putS (k := 23) (v := σ.1 23) lay_12 dX12_advance_217 (by decide) fl12_223 rfl (tyX12_ok 23 (by decide)) rfl rfl rfl ?_
        refine tm_aload_n dX12_advance_220 rfl 2 rfl ?_
        refine tm_dup dX12_advance_221 rfl ?_
        refine tm_getS (k := 20) (t := σ.1 20) dX12_advance_222 (by decide) fl12_210 rfl (rs_o (by decide) (rfl)) ?_
        have g16 := RG.s hR 20
        refine tm_iconst dX12_advance_225 ?_
        refine tm_iadd dX12_advance_226 ?_
        refine tm_putS (k := 20) (v := (σ.1 20) + 1) lay_12 dX12_advance_227 (by decide) fl12_210 rfl (tyX12_ok 20 (by decide)) rfl rfl rfl ?_
        refine tm_iinc (q0 := 0) (L' := [(2, .int (iI (n1 + 1))), (1, .int (iI c)), (0, .ref b)]) dX12_advance_230 rfl (by decide) rfl ?_
        refine tm_goto (tgt := 170) dX12_advance_233 (by decide) ?_
        exact tm_sub [0, 1, 2] rfl (ih _ (by rw [show (sS 20 ((σ.1 20) + 1) (sS 23 (σ.1 23) σ)).1 20 = (σ.1 20) + 1 from rs_eq]; omega) (n1 + 1) (sS 20 ((σ.1 20) + 1) (sS 23 (σ.1 23) σ)) (((Fr.rfl.trans (Fr.sub hF (by decide) (by decide) (by decide))).S (by decide)).S (by decide)) ((hR.S (by omega)).S (by omega)) (by rw [show (sS 20 ((σ.1 20) + 1) (sS 23 (σ.1 23) σ)).1 20 = (σ.1 20) + 1 from rs_eq]; omega) (fun q => absurd q (by omega)) (by rw [show (sS 20 ((σ.1 20) + 1) (sS 23 (σ.1 23) σ)).1 23 = σ.1 23 from rs_o (by decide) (rs_eq)]; omega) (by have z := dgp_s (s := sv σ0) (n := σ.1 20) (v := σ.1 23) (c := n1) (by omega) (by omega); unfold dgv at z; rw [if_neg (by omega)] at z; exact z.symm.trans hw) rfl)
      · refine tm_bipush dX12_advance_191 (by decide) ?_
        refine tm_aload_n dX12_advance_193 rfl 2 rfl ?_
        refine tm_getS (k := 23) (t := σ.1 23) dX12_advance_194 (by decide) fl12_223 rfl (rfl) ?_
        have g17 := RG.s hR 23
        refine tm_imul dX12_advance_197 ?_
        refine tm_aload_n dX12_advance_198 rfl 2 rfl ?_
        refine tm_aload_n dX12_advance_199 rfl 2 rfl ?_
        refine tm_getS (k := 20) (t := σ.1 20) dX12_advance_200 (by decide) fl12_210 rfl (rfl) ?_
        have g18 := RG.s hR 20
        refine tm_callV (M := m_X12_advance) (pc := 203) (ix := 213) (M' := m_X12_see) (As := [.int (iI (σ.1 20))]) (rest := [.int (iI (10 * (σ.1 23))), .ref b]) dX12_advance_203 ok_X12_see im_X12_see se_X12_see ml12_213 np_X12_see rfl rfl (Nat.le_of_ble_eq_true rfl) (Nat.le_of_ble_eq_true rfl) rfl (c_X12_see (d + 1) (σ := σ) (k := σ.1 20) hR (by omega) (by rw [show σ.1 21 = σ0.1 21 from rs_F hF (by decide) (rfl)]; omega)) (fun r19 σ20 hp => ?_)
        obtain ⟨v21, rfl, rfl, f22, f23, f24⟩ := hp
        show Tm _ _ 206 b σ [(2, .int (iI n1)), (1, .int (iI c)), (0, .ref b)] [.int (iI v21), .int (iI (10 * (σ.1 23))), .ref b] _
        have es2 : v21 = sv σ0 (σ.1 20) := by rw [f22, svF]
        refine tm_iadd dX12_advance_206 ?_
        refine tm_bipush dX12_advance_207 (by decide) ?_
        refine tm_isub dX12_advance_209 ?_
        refine tm_goto (tgt := 217) dX12_advance_210 (by decide) ?_
        refine tm_putS (k := 23) (v := ((10 * (σ.1 23)) + v21) - 48) lay_12 dX12_advance_217 (by decide) fl12_223 rfl (tyX12_ok 23 (by decide)) rfl rfl rfl ?_
        refine tm_aload_n dX12_advance_220 rfl 2 rfl ?_
        refine tm_dup dX12_advance_221 rfl ?_
        refine tm_getS (k := 20) (t := σ.1 20) dX12_advance_222 (by decide) fl12_210 rfl (rs_o (by decide) (rfl)) ?_
        have g25 := RG.s hR 20
        refine tm_iconst dX12_advance_225 ?_
        refine tm_iadd dX12_advance_226 ?_
        refine tm_putS (k := 20) (v := (σ.1 20) + 1) lay_12 dX12_advance_227 (by decide) fl12_210 rfl (tyX12_ok 20 (by decide)) rfl rfl rfl ?_
        refine tm_iinc (q0 := 0) (L' := [(2, .int (iI (n1 + 1))), (1, .int (iI c)), (0, .ref b)]) dX12_advance_230 rfl (by decide) rfl ?_
        refine tm_goto (tgt := 170) dX12_advance_233 (by decide) ?_
        exact tm_sub [0, 1, 2] rfl (ih _ (by rw [show (sS 20 ((σ.1 20) + 1) (sS 23 (((10 * (σ.1 23)) + v21) - 48) σ)).1 20 = (σ.1 20) + 1 from rs_eq]; omega) (n1 + 1) (sS 20 ((σ.1 20) + 1) (sS 23 (((10 * (σ.1 23)) + v21) - 48) σ)) (((Fr.rfl.trans (Fr.sub hF (by decide) (by decide) (by decide))).S (by decide)).S (by decide)) ((hR.S (by omega)).S (by omega)) (by rw [show (sS 20 ((σ.1 20) + 1) (sS 23 (((10 * (σ.1 23)) + v21) - 48) σ)).1 20 = (σ.1 20) + 1 from rs_eq]; omega) (fun q => absurd q (by omega)) (by rw [show (sS 20 ((σ.1 20) + 1) (sS 23 (((10 * (σ.1 23)) + v21) - 48) σ)).1 23 = ((10 * (σ.1 23)) + v21) - 48 from rs_o (by decide) (rs_eq)]; omega) (by rw [es2]; have z := dgp_s (s := sv σ0) (n := σ.1 20) (v := σ.1 23) (c := n1) (by omega) (by omega); unfold dgv at z; rw [if_pos (by omega)] at z; exact z.symm.trans hw) rfl)
theorem dX12_advance_39 : decode cX12_advance 39 = .ok (.aload_n 0, 1) := by decide +kernel
theorem dX12_advance_40 : decode cX12_advance 40 = .ok (.aload_n 0, 1) := by decide +kernel
theorem dX12_advance_41 : decode cX12_advance 41 = .ok (.getfield 210, 3) := by decide +kernel
theorem dX12_advance_44 : decode cX12_advance 44 = .ok (.putfield 216, 3) := by decide +kernel
theorem dX12_advance_47 : decode cX12_advance 47 = .ok (.aload_n 0, 1) := by decide +kernel
theorem dX12_advance_48 : decode cX12_advance 48 = .ok (.aload_n 0, 1) := by decide +kernel
theorem dX12_advance_49 : decode cX12_advance 49 = .ok (.getfield 210, 3) := by decide +kernel
theorem dX12_advance_52 : decode cX12_advance 52 = .ok (.invokevirtual 213, 3) := by decide +kernel
theorem dX12_advance_55 : decode cX12_advance 55 = .ok (.istore_n 1, 1) := by decide +kernel
theorem dX12_advance_56 : decode cX12_advance 56 = .ok (.aload_n 0, 1) := by decide +kernel
theorem dX12_advance_57 : decode cX12_advance 57 = .ok (.lconst 0, 1) := by decide +kernel
theorem dX12_advance_58 : decode cX12_advance 58 = .ok (.putfield 219, 3) := by decide +kernel
theorem dX12_advance_61 : decode cX12_advance 61 = .ok (.aload_n 0, 1) := by decide +kernel
theorem dX12_advance_62 : decode cX12_advance 62 = .ok (.iload_n 1, 1) := by decide +kernel
theorem dX12_advance_63 : decode cX12_advance 63 = .ok (.putfield 223, 3) := by decide +kernel
theorem dX12_advance_66 : decode cX12_advance 66 = .ok (.iload_n 1, 1) := by decide +kernel
theorem dX12_advance_67 : decode cX12_advance 67 = .ok (.ifCond .ge 11, 3) := by decide +kernel
theorem dX12_advance_78 : decode cX12_advance 78 = .ok (.iload_n 1, 1) := by decide +kernel
theorem dX12_advance_79 : decode cX12_advance 79 = .ok (.invokestatic 229, 3) := by decide +kernel
theorem dX12_advance_82 : decode cX12_advance 82 = .ok (.ifCond .eq 74, 3) := by decide +kernel
theorem dX12_advance_156 : decode cX12_advance 156 = .ok (.iload_n 1, 1) := by decide +kernel
theorem dX12_advance_157 : decode cX12_advance 157 = .ok (.invokestatic 232, 3) := by decide +kernel
theorem dX12_advance_160 : decode cX12_advance 160 = .ok (.ifCond .eq 94, 3) := by decide +kernel
theorem dX12_advance_254 : decode cX12_advance 254 = .ok (.aload_n 0, 1) := by decide +kernel
theorem dX12_advance_255 : decode cX12_advance 255 = .ok (.dup, 1) := by decide +kernel
theorem dX12_advance_256 : decode cX12_advance 256 = .ok (.getfield 210, 3) := by decide +kernel
theorem dX12_advance_259 : decode cX12_advance 259 = .ok (.iconst 1, 1) := by decide +kernel
theorem dX12_advance_260 : decode cX12_advance 260 = .ok (.iadd, 1) := by decide +kernel
theorem dX12_advance_261 : decode cX12_advance 261 = .ok (.putfield 210, 3) := by decide +kernel
theorem dX12_advance_264 : decode cX12_advance 264 = .ok (.aload_n 0, 1) := by decide +kernel
theorem dX12_advance_265 : decode cX12_advance 265 = .ok (.ldc 235, 2) := by decide +kernel
theorem dX12_advance_267 : decode cX12_advance 267 = .ok (.iload_n 1, 1) := by decide +kernel
theorem dX12_advance_268 : decode cX12_advance 268 = .ok (.invokevirtual 237, 3) := by decide +kernel
theorem dX12_advance_271 : decode cX12_advance 271 = .ok (.ifCond .lt 7, 3) := by decide +kernel
theorem dX12_advance_278 : decode cX12_advance 278 = .ok (.iconst 1, 1) := by decide +kernel
theorem dX12_advance_279 : decode cX12_advance 279 = .ok (.putfield 226, 3) := by decide +kernel
theorem dX12_advance_282 : decode cX12_advance 282 = .ok (.return_, 1) := by decide +kernel
theorem dX12_advance_274 : decode cX12_advance 274 = .ok (.iconst 4, 1) := by decide +kernel
theorem dX12_advance_275 : decode cX12_advance 275 = .ok (.goto 4, 3) := by decide +kernel
theorem dX12_advance_163 : decode cX12_advance 163 = .ok (.iconst 0, 1) := by decide +kernel
theorem dX12_advance_164 : decode cX12_advance 164 = .ok (.istore_n 2, 1) := by decide +kernel
theorem dX12_advance_165 : decode cX12_advance 165 = .ok (.aload_n 0, 1) := by decide +kernel
theorem dX12_advance_166 : decode cX12_advance 166 = .ok (.iconst 0, 1) := by decide +kernel
theorem dX12_advance_167 : decode cX12_advance 167 = .ok (.putfield 223, 3) := by decide +kernel
theorem dX12_advance_236 : decode cX12_advance 236 = .ok (.aload_n 0, 1) := by decide +kernel
theorem dX12_advance_237 : decode cX12_advance 237 = .ok (.iload_n 2, 1) := by decide +kernel
theorem dX12_advance_238 : decode cX12_advance 238 = .ok (.bipush 7, 2) := by decide +kernel
theorem dX12_advance_240 : decode cX12_advance 240 = .ok (.if_icmp .le 7, 3) := by decide +kernel
theorem dX12_advance_247 : decode cX12_advance 247 = .ok (.iconst 3, 1) := by decide +kernel
theorem dX12_advance_248 : decode cX12_advance 248 = .ok (.putfield 226, 3) := by decide +kernel
theorem dX12_advance_251 : decode cX12_advance 251 = .ok (.goto 31, 3) := by decide +kernel
theorem dX12_advance_243 : decode cX12_advance 243 = .ok (.iconst 1, 1) := by decide +kernel
theorem dX12_advance_244 : decode cX12_advance 244 = .ok (.goto 4, 3) := by decide +kernel
theorem dX12_advance_85 : decode cX12_advance 85 = .ok (.iconst 0, 1) := by decide +kernel
theorem dX12_advance_86 : decode cX12_advance 86 = .ok (.istore_n 2, 1) := by decide +kernel
theorem dX12_advance_138 : decode cX12_advance 138 = .ok (.aload_n 0, 1) := by decide +kernel
theorem dX12_advance_139 : decode cX12_advance 139 = .ok (.iload_n 2, 1) := by decide +kernel
theorem dX12_advance_140 : decode cX12_advance 140 = .ok (.bipush 6, 2) := by decide +kernel
theorem dX12_advance_142 : decode cX12_advance 142 = .ok (.if_icmp .le 7, 3) := by decide +kernel
theorem dX12_advance_149 : decode cX12_advance 149 = .ok (.iconst 2, 1) := by decide +kernel
theorem dX12_advance_150 : decode cX12_advance 150 = .ok (.putfield 226, 3) := by decide +kernel
theorem dX12_advance_153 : decode cX12_advance 153 = .ok (.goto 129, 3) := by decide +kernel
theorem dX12_advance_145 : decode cX12_advance 145 = .ok (.iconst 1, 1) := by decide +kernel
theorem dX12_advance_146 : decode cX12_advance 146 = .ok (.goto 4, 3) := by decide +kernel
theorem dX12_advance_70 : decode cX12_advance 70 = .ok (.aload_n 0, 1) := by decide +kernel
theorem dX12_advance_71 : decode cX12_advance 71 = .ok (.iconst 0, 1) := by decide +kernel
theorem dX12_advance_72 : decode cX12_advance 72 = .ok (.putfield 226, 3) := by decide +kernel
theorem dX12_advance_75 : decode cX12_advance 75 = .ok (.goto 207, 3) := by decide +kernel
set_option maxHeartbeats 4000000 in
set_option maxRecDepth 20000 in
theorem c_X12_advance (d : Nat) {b : Nat} {σ : MS} (hR : RG σ) (htl : (0 ≤ σ.1 20 ∧ σ.1 20 ≤ σ.1 21) ∧ σ.1 21 ≤ 1200) : Tm (d + 5) m_X12_advance 0 b σ [(0, .ref b)] [] (fun ro σ2 => ro = none ∧ (ADVm σ σ2) ∧ (Fr [19, 20, 22, 23] [] [24] σ σ2) ∧ (RG σ2) ∧ (TOK σ2) ∧ (σ.1 20 ≤ σ2.1 19)) := by
  refine tm_sub [0] rfl (l_adv0 (d + 3) (σ0 := σ) (p0 := (wsp (sv σ) (σ.1 20))) hR (by omega) (fun σ6 F2 R3 f4 f5 => ?_) _ σ Fr.rfl hR (by omega) rfl rfl)
  show Tm _ _ 39 b σ6 [(0, .ref b)] [] _
  have hA0 := f4
  have hA := f5
  have svA : sv σ6 = sv σ := sv_fr (show Fr [20] [] [] σ σ6 from (Fr.rfl.trans (Fr.sub F2 (by decide) (by decide) (by decide)))) (by decide) (by decide)
  have sA_ : σ6.1 21 = σ.1 21 := F2.1 21 (by decide)
  refine tm_aload_n dX12_advance_39 rfl 0 rfl ?_
  refine tm_aload_n dX12_advance_40 rfl 0 rfl ?_
  refine tm_getS (k := 20) (t := σ6.1 20) dX12_advance_41 (by decide) fl12_210 rfl (rfl) ?_
  have g7 := RG.s R3 20
  refine tm_putS (k := 19) (v := σ6.1 20) lay_12 dX12_advance_44 (by decide) fl12_216 rfl (tyX12_ok 19 (by decide)) rfl rfl rfl ?_
  refine tm_aload_n dX12_advance_47 rfl 0 rfl ?_
  refine tm_aload_n dX12_advance_48 rfl 0 rfl ?_
  refine tm_getS (k := 20) (t := σ6.1 20) dX12_advance_49 (by decide) fl12_210 rfl (rs_o (by decide) (rfl)) ?_
  have g8 := RG.s R3 20
  refine tm_callV (M := m_X12_advance) (pc := 52) (ix := 213) (M' := m_X12_see) (As := [.int (iI (σ6.1 20))]) (rest := []) dX12_advance_52 ok_X12_see im_X12_see se_X12_see ml12_213 np_X12_see rfl rfl (Nat.le_of_ble_eq_true rfl) (Nat.le_of_ble_eq_true rfl) rfl (c_X12_see (d + 3) (σ := (sS 19 (σ6.1 20) σ6)) (k := σ6.1 20) (R3.S (by omega)) (by omega) (by rw [show (sS 19 (σ6.1 20) σ6).1 21 = σ.1 21 from rs_o (by decide) (rs_F F2 (by decide) (rfl))]; omega)) (fun r9 σ10 hp => ?_)
  obtain ⟨v11, rfl, rfl, f12, f13, f14⟩ := hp
  show Tm _ _ 55 b (sS 19 (σ6.1 20) σ6) [(0, .ref b)] [.int (iI v11)] _
  have hc : v11 = sv σ (σ6.1 20) := by rw [f12]; exact congrFun svA _
  have hcr := f13
  have hcl := f14
  rw [show (sS 19 (σ6.1 20) σ6).1 21 = σ.1 21 from rs_o (by decide) (rs_F F2 (by decide) (rfl))] at hcl
  refine tm_istore_n (L' := [(1, .int (iI v11)), (0, .ref b)]) dX12_advance_55 rfl (by decide) rfl ?_
  refine tm_aload_n dX12_advance_56 rfl 1 rfl ?_
  refine tm_lconst (v := 0) dX12_advance_57 rfl ?_
  refine tm_putW lay_12 dX12_advance_58 fl12_219 ?_
  refine tm_aload_n dX12_advance_61 rfl 1 rfl ?_
  refine tm_iload_n dX12_advance_62 rfl 0 rfl ?_
  refine tm_putS (k := 23) (v := v11) lay_12 dX12_advance_63 (by decide) fl12_223 rfl (tyX12_ok 23 (by decide)) rfl rfl rfl ?_
  refine tm_iload_n dX12_advance_66 rfl 0 rfl ?_
  refine tm_if_ge (tgt := 78) dX12_advance_67 (by decide) ⟨by omega, by omega⟩ (fun h15 => ?_) (fun h15 => ?_)
  · refine tm_iload_n dX12_advance_78 rfl 0 rfl ?_
    refine tm_callS (M := m_X12_advance) (pc := 79) (ix := 229) (M' := m_X12_isLetter) (As := [.int (iI v11)]) (rest := []) dX12_advance_79 ok_X12_isLetter stt_X12_isLetter ml12_229 np_X12_isLetter rfl (Nat.le_of_ble_eq_true rfl) (Nat.le_of_ble_eq_true rfl) rfl (c_X12_isLetter (d + 2) (σ := (sS 23 v11 (sJ 24 0 (0) (sS 19 (σ6.1 20) σ6)))) (x := v11) (by omega)) (fun r16 σ17 hp => ?_)
    obtain ⟨v18, rfl, rfl, f19, f20⟩ := hp
    show Tm _ _ 82 b (sS 23 v11 (sJ 24 0 (0) (sS 19 (σ6.1 20) σ6))) [(1, .int (iI v11)), (0, .ref b)] [.int (iI v18)] _
    refine tm_if_eq (tgt := 156) dX12_advance_82 (by decide) ⟨by omega, by omega⟩ (fun h21 => ?_) (fun h21 => ?_)
    · refine tm_iload_n dX12_advance_156 rfl 0 rfl ?_
      refine tm_callS (M := m_X12_advance) (pc := 157) (ix := 232) (M' := m_X12_isDigit) (As := [.int (iI v11)]) (rest := []) dX12_advance_157 ok_X12_isDigit stt_X12_isDigit ml12_232 np_X12_isDigit rfl (Nat.le_of_ble_eq_true rfl) (Nat.le_of_ble_eq_true rfl) rfl (c_X12_isDigit (d + 2) (σ := (sS 23 v11 (sJ 24 0 (0) (sS 19 (σ6.1 20) σ6)))) (x := v11) (by omega)) (fun r22 σ23 hp => ?_)
      obtain ⟨v24, rfl, rfl, f25, f26⟩ := hp
      show Tm _ _ 160 b (sS 23 v11 (sJ 24 0 (0) (sS 19 (σ6.1 20) σ6))) [(1, .int (iI v11)), (0, .ref b)] [.int (iI v24)] _
      refine tm_if_eq (tgt := 254) dX12_advance_160 (by decide) ⟨by omega, by omega⟩ (fun h27 => ?_) (fun h27 => ?_)
      · refine tm_aload_n dX12_advance_254 rfl 1 rfl ?_
        refine tm_dup dX12_advance_255 rfl ?_
        refine tm_getS (k := 20) (t := σ6.1 20) dX12_advance_256 (by decide) fl12_210 rfl (rs_o (by decide) (rs_J (rs_o (by decide) (rfl)))) ?_
        have g28 := RG.s R3 20
        refine tm_iconst dX12_advance_259 ?_
        refine tm_iadd dX12_advance_260 ?_
        refine tm_putS (k := 20) (v := (σ6.1 20) + 1) lay_12 dX12_advance_261 (by decide) fl12_210 rfl (tyX12_ok 20 (by decide)) rfl rfl rfl ?_
        refine tm_aload_n dX12_advance_264 rfl 1 rfl ?_
        refine tm_signs (d := d + 1) (q := 0) (z := v11) rfl dX12_advance_265 dX12_advance_267 dX12_advance_268 rfl (by omega) (Nat.le_of_ble_eq_true rfl) ?_
        have hsg_ := sgZ_r (v11)
        refine tm_if_lt (tgt := 278) dX12_advance_271 (by decide) ⟨by omega, by omega⟩ (fun h29 => ?_) (fun h29 => ?_)
        · refine tm_iconst dX12_advance_278 ?_
          refine tm_putS (k := 22) (v := 1) lay_12 dX12_advance_279 (by decide) fl12_226 rfl (tyX12_ok 22 (by decide)) rfl rfl rfl ?_
          exact tm_vret rfl dX12_advance_282 (⟨rfl, ⟨by unfold tks advT; rw [← hA, show (sS 22 1 (sS 20 ((σ6.1 20) + 1) (sS 23 v11 (sJ 24 0 (0) (sS 19 (σ6.1 20) σ6))))).1 19 = σ6.1 20 from rs_o (by decide) (rs_o (by decide) (rs_o (by decide) (rs_J (rs_eq)))), show (sS 22 1 (sS 20 ((σ6.1 20) + 1) (sS 23 v11 (sJ 24 0 (0) (sS 19 (σ6.1 20) σ6))))).1 20 = (σ6.1 20) + 1 from rs_o (by decide) (rs_eq), show (sS 22 1 (sS 20 ((σ6.1 20) + 1) (sS 23 v11 (sJ 24 0 (0) (sS 19 (σ6.1 20) σ6))))).1 22 = 1 from rs_eq, show (sS 22 1 (sS 20 ((σ6.1 20) + 1) (sS 23 v11 (sJ 24 0 (0) (sS 19 (σ6.1 20) σ6))))).1 23 = v11 from rs_o (by decide) (rs_o (by decide) (rs_eq)), show (sS 22 1 (sS 20 ((σ6.1 20) + 1) (sS 23 v11 (sJ 24 0 (0) (sS 19 (σ6.1 20) σ6))))).2.2 24 0 = 0 from rj_S (rj_S (rj_S (rj_eq)))]; exact (advP_sgn hc (by omega) (by omega) (by omega) |>.trans (by rw [if_pos (by omega)])).symm, by unfold xs; rw [(show Fr [19, 20, 22, 23] [] [24] σ (sS 22 1 (sS 20 ((σ6.1 20) + 1) (sS 23 v11 (sJ 24 0 (0) (sS 19 (σ6.1 20) σ6))))) from ((((((Fr.rfl.trans (Fr.sub F2 (by decide) (by decide) (by decide))).S (by decide)).J (by decide)).S (by decide)).S (by decide)).S (by decide))).1 28 (by decide), (show Fr [19, 20, 22, 23] [] [24] σ (sS 22 1 (sS 20 ((σ6.1 20) + 1) (sS 23 v11 (sJ 24 0 (0) (sS 19 (σ6.1 20) σ6))))) from ((((((Fr.rfl.trans (Fr.sub F2 (by decide) (by decide) (by decide))).S (by decide)).J (by decide)).S (by decide)).S (by decide)).S (by decide))).1 29 (by decide), (show Fr [19, 20, 22, 23] [] [24] σ (sS 22 1 (sS 20 ((σ6.1 20) + 1) (sS 23 v11 (sJ 24 0 (0) (sS 19 (σ6.1 20) σ6))))) from ((((((Fr.rfl.trans (Fr.sub F2 (by decide) (by decide) (by decide))).S (by decide)).J (by decide)).S (by decide)).S (by decide)).S (by decide))).1 34 (by decide)], sv_fr (show Fr [19, 20, 22, 23] [] [24] σ (sS 22 1 (sS 20 ((σ6.1 20) + 1) (sS 23 v11 (sJ 24 0 (0) (sS 19 (σ6.1 20) σ6))))) from ((((((Fr.rfl.trans (Fr.sub F2 (by decide) (by decide) (by decide))).S (by decide)).J (by decide)).S (by decide)).S (by decide)).S (by decide))) (by decide) (by decide), srt_fr (show Fr [19, 20, 22, 23] [] [24] σ (sS 22 1 (sS 20 ((σ6.1 20) + 1) (sS 23 v11 (sJ 24 0 (0) (sS 19 (σ6.1 20) σ6))))) from ((((((Fr.rfl.trans (Fr.sub F2 (by decide) (by decide) (by decide))).S (by decide)).J (by decide)).S (by decide)).S (by decide)).S (by decide))) (by decide) (by decide) (by decide)⟩, ((((((Fr.rfl.trans (Fr.sub F2 (by decide) (by decide) (by decide))).S (by decide)).J (by decide)).S (by decide)).S (by decide)).S (by decide)), (((((R3.S (by omega)).J).S (by omega)).S (by omega)).S (by omega)), by unfold TOK; rw [show (sS 22 1 (sS 20 ((σ6.1 20) + 1) (sS 23 v11 (sJ 24 0 (0) (sS 19 (σ6.1 20) σ6))))).1 19 = σ6.1 20 from rs_o (by decide) (rs_o (by decide) (rs_o (by decide) (rs_J (rs_eq)))), show (sS 22 1 (sS 20 ((σ6.1 20) + 1) (sS 23 v11 (sJ 24 0 (0) (sS 19 (σ6.1 20) σ6))))).1 20 = (σ6.1 20) + 1 from rs_o (by decide) (rs_eq), show (sS 22 1 (sS 20 ((σ6.1 20) + 1) (sS 23 v11 (sJ 24 0 (0) (sS 19 (σ6.1 20) σ6))))).1 22 = 1 from rs_eq, show (sS 22 1 (sS 20 ((σ6.1 20) + 1) (sS 23 v11 (sJ 24 0 (0) (sS 19 (σ6.1 20) σ6))))).1 23 = v11 from rs_o (by decide) (rs_o (by decide) (rs_eq)), show (sS 22 1 (sS 20 ((σ6.1 20) + 1) (sS 23 v11 (sJ 24 0 (0) (sS 19 (σ6.1 20) σ6))))).1 21 = σ.1 21 from rs_o (by decide) (rs_o (by decide) (rs_o (by decide) (rs_J (rs_o (by decide) (rs_F F2 (by decide) (rfl))))))]; omega, by rw [show (sS 22 1 (sS 20 ((σ6.1 20) + 1) (sS 23 v11 (sJ 24 0 (0) (sS 19 (σ6.1 20) σ6))))).1 19 = σ6.1 20 from rs_o (by decide) (rs_o (by decide) (rs_o (by decide) (rs_J (rs_eq))))]; omega⟩)
        · refine tm_iconst dX12_advance_274 ?_
          refine tm_goto (tgt := 279) dX12_advance_275 (by decide) ?_
          refine tm_putS (k := 22) (v := 4) lay_12 dX12_advance_279 (by decide) fl12_226 rfl (tyX12_ok 22 (by decide)) rfl rfl rfl ?_
          exact tm_vret rfl dX12_advance_282 (⟨rfl, ⟨by unfold tks advT; rw [← hA, show (sS 22 4 (sS 20 ((σ6.1 20) + 1) (sS 23 v11 (sJ 24 0 (0) (sS 19 (σ6.1 20) σ6))))).1 19 = σ6.1 20 from rs_o (by decide) (rs_o (by decide) (rs_o (by decide) (rs_J (rs_eq)))), show (sS 22 4 (sS 20 ((σ6.1 20) + 1) (sS 23 v11 (sJ 24 0 (0) (sS 19 (σ6.1 20) σ6))))).1 20 = (σ6.1 20) + 1 from rs_o (by decide) (rs_eq), show (sS 22 4 (sS 20 ((σ6.1 20) + 1) (sS 23 v11 (sJ 24 0 (0) (sS 19 (σ6.1 20) σ6))))).1 22 = 4 from rs_eq, show (sS 22 4 (sS 20 ((σ6.1 20) + 1) (sS 23 v11 (sJ 24 0 (0) (sS 19 (σ6.1 20) σ6))))).1 23 = v11 from rs_o (by decide) (rs_o (by decide) (rs_eq)), show (sS 22 4 (sS 20 ((σ6.1 20) + 1) (sS 23 v11 (sJ 24 0 (0) (sS 19 (σ6.1 20) σ6))))).2.2 24 0 = 0 from rj_S (rj_S (rj_S (rj_eq)))]; exact (advP_sgn hc (by omega) (by omega) (by omega) |>.trans (by rw [if_neg (by omega)])).symm, by unfold xs; rw [(show Fr [19, 20, 22, 23] [] [24] σ (sS 22 4 (sS 20 ((σ6.1 20) + 1) (sS 23 v11 (sJ 24 0 (0) (sS 19 (σ6.1 20) σ6))))) from ((((((Fr.rfl.trans (Fr.sub F2 (by decide) (by decide) (by decide))).S (by decide)).J (by decide)).S (by decide)).S (by decide)).S (by decide))).1 28 (by decide), (show Fr [19, 20, 22, 23] [] [24] σ (sS 22 4 (sS 20 ((σ6.1 20) + 1) (sS 23 v11 (sJ 24 0 (0) (sS 19 (σ6.1 20) σ6))))) from ((((((Fr.rfl.trans (Fr.sub F2 (by decide) (by decide) (by decide))).S (by decide)).J (by decide)).S (by decide)).S (by decide)).S (by decide))).1 29 (by decide), (show Fr [19, 20, 22, 23] [] [24] σ (sS 22 4 (sS 20 ((σ6.1 20) + 1) (sS 23 v11 (sJ 24 0 (0) (sS 19 (σ6.1 20) σ6))))) from ((((((Fr.rfl.trans (Fr.sub F2 (by decide) (by decide) (by decide))).S (by decide)).J (by decide)).S (by decide)).S (by decide)).S (by decide))).1 34 (by decide)], sv_fr (show Fr [19, 20, 22, 23] [] [24] σ (sS 22 4 (sS 20 ((σ6.1 20) + 1) (sS 23 v11 (sJ 24 0 (0) (sS 19 (σ6.1 20) σ6))))) from ((((((Fr.rfl.trans (Fr.sub F2 (by decide) (by decide) (by decide))).S (by decide)).J (by decide)).S (by decide)).S (by decide)).S (by decide))) (by decide) (by decide), srt_fr (show Fr [19, 20, 22, 23] [] [24] σ (sS 22 4 (sS 20 ((σ6.1 20) + 1) (sS 23 v11 (sJ 24 0 (0) (sS 19 (σ6.1 20) σ6))))) from ((((((Fr.rfl.trans (Fr.sub F2 (by decide) (by decide) (by decide))).S (by decide)).J (by decide)).S (by decide)).S (by decide)).S (by decide))) (by decide) (by decide) (by decide)⟩, ((((((Fr.rfl.trans (Fr.sub F2 (by decide) (by decide) (by decide))).S (by decide)).J (by decide)).S (by decide)).S (by decide)).S (by decide)), (((((R3.S (by omega)).J).S (by omega)).S (by omega)).S (by omega)), by unfold TOK; rw [show (sS 22 4 (sS 20 ((σ6.1 20) + 1) (sS 23 v11 (sJ 24 0 (0) (sS 19 (σ6.1 20) σ6))))).1 19 = σ6.1 20 from rs_o (by decide) (rs_o (by decide) (rs_o (by decide) (rs_J (rs_eq)))), show (sS 22 4 (sS 20 ((σ6.1 20) + 1) (sS 23 v11 (sJ 24 0 (0) (sS 19 (σ6.1 20) σ6))))).1 20 = (σ6.1 20) + 1 from rs_o (by decide) (rs_eq), show (sS 22 4 (sS 20 ((σ6.1 20) + 1) (sS 23 v11 (sJ 24 0 (0) (sS 19 (σ6.1 20) σ6))))).1 22 = 4 from rs_eq, show (sS 22 4 (sS 20 ((σ6.1 20) + 1) (sS 23 v11 (sJ 24 0 (0) (sS 19 (σ6.1 20) σ6))))).1 23 = v11 from rs_o (by decide) (rs_o (by decide) (rs_eq)), show (sS 22 4 (sS 20 ((σ6.1 20) + 1) (sS 23 v11 (sJ 24 0 (0) (sS 19 (σ6.1 20) σ6))))).1 21 = σ.1 21 from rs_o (by decide) (rs_o (by decide) (rs_o (by decide) (rs_J (rs_o (by decide) (rs_F F2 (by decide) (rfl))))))]; omega, by rw [show (sS 22 4 (sS 20 ((σ6.1 20) + 1) (sS 23 v11 (sJ 24 0 (0) (sS 19 (σ6.1 20) σ6))))).1 19 = σ6.1 20 from rs_o (by decide) (rs_o (by decide) (rs_o (by decide) (rs_J (rs_eq))))]; omega⟩)
      · refine tm_iconst dX12_advance_163 ?_
        refine tm_istore_n (L' := [(2, .int (iI 0)), (1, .int (iI v11)), (0, .ref b)]) dX12_advance_164 rfl (by decide) rfl ?_
        refine tm_aload_n dX12_advance_165 rfl 2 rfl ?_
        refine tm_iconst dX12_advance_166 ?_
        refine tm_putS (k := 23) (v := 0) lay_12 dX12_advance_167 (by decide) fl12_223 rfl (tyX12_ok 23 (by decide)) rfl rfl rfl ?_
        refine tm_sub [0, 1, 2] rfl (l_adv2 (d + 2) (σ0 := (sS 23 0 (sS 23 v11 (sJ 24 0 (0) (sS 19 (σ6.1 20) σ6))))) (c := v11) (R0 := (dgp (sv σ) (σ6.1 20) 0 0)) ((((R3.S (by omega)).J).S (by omega)).S (by omega)) (by rw [show (sS 23 0 (sS 23 v11 (sJ 24 0 (0) (sS 19 (σ6.1 20) σ6)))).1 20 = σ6.1 20 from rs_o (by decide) (rs_o (by decide) (rs_J (rs_o (by decide) (rfl)))), show (sS 23 0 (sS 23 v11 (sJ 24 0 (0) (sS 19 (σ6.1 20) σ6)))).1 21 = σ.1 21 from rs_o (by decide) (rs_o (by decide) (rs_J (rs_o (by decide) (rs_F F2 (by decide) (rfl)))))]; omega) (by omega) (fun n137 σ38 F32 R33 f34 f35 f36 => ?_) _ (0) (sS 23 0 (sS 23 v11 (sJ 24 0 (0) (sS 19 (σ6.1 20) σ6)))) Fr.rfl ((((R3.S (by omega)).J).S (by omega)).S (by omega)) (by rw [show (sS 23 0 (sS 23 v11 (sJ 24 0 (0) (sS 19 (σ6.1 20) σ6)))).1 20 = σ6.1 20 from rs_o (by decide) (rs_o (by decide) (rs_J (rs_o (by decide) (rfl)))), show (sS 23 0 (sS 23 v11 (sJ 24 0 (0) (sS 19 (σ6.1 20) σ6)))).1 21 = σ.1 21 from rs_o (by decide) (rs_o (by decide) (rs_J (rs_o (by decide) (rs_F F2 (by decide) (rfl)))))]; omega) (fun _ => by rw [show sv (sS 23 0 (sS 23 v11 (sJ 24 0 (0) (sS 19 (σ6.1 20) σ6)))) = sv σ from sv_fr (show Fr [19, 20, 23] [] [24] σ (sS 23 0 (sS 23 v11 (sJ 24 0 (0) (sS 19 (σ6.1 20) σ6)))) from (((((Fr.rfl.trans (Fr.sub F2 (by decide) (by decide) (by decide))).S (by decide)).J (by decide)).S (by decide)).S (by decide))) (by decide) (by decide)]; exact hc) (by rw [show (sS 23 0 (sS 23 v11 (sJ 24 0 (0) (sS 19 (σ6.1 20) σ6)))).1 23 = 0 from rs_eq]; omega) (by rw [show sv (sS 23 0 (sS 23 v11 (sJ 24 0 (0) (sS 19 (σ6.1 20) σ6)))) = sv σ from sv_fr (show Fr [19, 20, 23] [] [24] σ (sS 23 0 (sS 23 v11 (sJ 24 0 (0) (sS 19 (σ6.1 20) σ6)))) from (((((Fr.rfl.trans (Fr.sub F2 (by decide) (by decide) (by decide))).S (by decide)).J (by decide)).S (by decide)).S (by decide))) (by decide) (by decide)]; rfl) rfl)
        show Tm _ _ 236 b σ38 [(2, .int (iI n137)), (1, .int (iI v11)), (0, .ref b)] [] _
        have hB0 := f34
        rw [show (sS 23 0 (sS 23 v11 (sJ 24 0 (0) (sS 19 (σ6.1 20) σ6)))).1 20 = σ6.1 20 from rs_o (by decide) (rs_o (by decide) (rs_J (rs_o (by decide) (rfl)))), show (sS 23 0 (sS 23 v11 (sJ 24 0 (0) (sS 19 (σ6.1 20) σ6)))).1 21 = σ.1 21 from rs_o (by decide) (rs_o (by decide) (rs_J (rs_o (by decide) (rs_F F2 (by decide) (rfl)))))] at hB0
        have hB := f36
        have hBv := f35
        refine tm_aload_n dX12_advance_236 rfl 2 rfl ?_
        refine tm_iload_n dX12_advance_237 rfl 0 rfl ?_
        refine tm_bipush dX12_advance_238 (by decide) ?_
        refine tm_icmp_le (tgt := 247) dX12_advance_240 (by decide) ⟨by omega, by omega⟩ ⟨by decide, by decide⟩ (fun h39 => ?_) (fun h39 => ?_)
        · refine tm_iconst dX12_advance_247 ?_
          refine tm_putS (k := 22) (v := 3) lay_12 dX12_advance_248 (by decide) fl12_226 rfl (tyX12_ok 22 (by decide)) rfl rfl rfl ?_
          refine tm_goto (tgt := 282) dX12_advance_251 (by decide) ?_
          exact tm_vret rfl dX12_advance_282 (⟨rfl, ⟨by unfold tks advT; rw [← hA, show (sS 22 3 σ38).1 19 = σ6.1 20 from rs_o (by decide) (rs_F F32 (by decide) (rs_o (by decide) (rs_o (by decide) (rs_J (rs_eq))))), show (sS 22 3 σ38).1 20 = σ38.1 20 from rs_o (by decide) (rfl), show (sS 22 3 σ38).1 22 = 3 from rs_eq, show (sS 22 3 σ38).1 23 = σ38.1 23 from rs_o (by decide) (rfl), show (sS 22 3 σ38).2.2 24 0 = 0 from rj_S (rj_F F32 (by decide) (rj_S (rj_S (rj_eq))))]; exact (advP_dig hc (by omega) (by omega) (by omega) (hB) |>.trans (by rw [if_neg (by omega)])).symm, by unfold xs; rw [(show Fr [19, 20, 22, 23] [] [24] σ (sS 22 3 σ38) from (((((((Fr.rfl.trans (Fr.sub F2 (by decide) (by decide) (by decide))).S (by decide)).J (by decide)).S (by decide)).S (by decide)).trans (Fr.sub F32 (by decide) (by decide) (by decide))).S (by decide))).1 28 (by decide), (show Fr [19, 20, 22, 23] [] [24] σ (sS 22 3 σ38) from (((((((Fr.rfl.trans (Fr.sub F2 (by decide) (by decide) (by decide))).S (by decide)).J (by decide)).S (by decide)).S (by decide)).trans (Fr.sub F32 (by decide) (by decide) (by decide))).S (by decide))).1 29 (by decide), (show Fr [19, 20, 22, 23] [] [24] σ (sS 22 3 σ38) from (((((((Fr.rfl.trans (Fr.sub F2 (by decide) (by decide) (by decide))).S (by decide)).J (by decide)).S (by decide)).S (by decide)).trans (Fr.sub F32 (by decide) (by decide) (by decide))).S (by decide))).1 34 (by decide)], sv_fr (show Fr [19, 20, 22, 23] [] [24] σ (sS 22 3 σ38) from (((((((Fr.rfl.trans (Fr.sub F2 (by decide) (by decide) (by decide))).S (by decide)).J (by decide)).S (by decide)).S (by decide)).trans (Fr.sub F32 (by decide) (by decide) (by decide))).S (by decide))) (by decide) (by decide), srt_fr (show Fr [19, 20, 22, 23] [] [24] σ (sS 22 3 σ38) from (((((((Fr.rfl.trans (Fr.sub F2 (by decide) (by decide) (by decide))).S (by decide)).J (by decide)).S (by decide)).S (by decide)).trans (Fr.sub F32 (by decide) (by decide) (by decide))).S (by decide))) (by decide) (by decide) (by decide)⟩, (((((((Fr.rfl.trans (Fr.sub F2 (by decide) (by decide) (by decide))).S (by decide)).J (by decide)).S (by decide)).S (by decide)).trans (Fr.sub F32 (by decide) (by decide) (by decide))).S (by decide)), (R33.S (by omega)), by unfold TOK; rw [show (sS 22 3 σ38).1 19 = σ6.1 20 from rs_o (by decide) (rs_F F32 (by decide) (rs_o (by decide) (rs_o (by decide) (rs_J (rs_eq))))), show (sS 22 3 σ38).1 20 = σ38.1 20 from rs_o (by decide) (rfl), show (sS 22 3 σ38).1 22 = 3 from rs_eq, show (sS 22 3 σ38).1 23 = σ38.1 23 from rs_o (by decide) (rfl), show (sS 22 3 σ38).1 21 = σ.1 21 from rs_o (by decide) (rs_F F32 (by decide) (rs_o (by decide) (rs_o (by decide) (rs_J (rs_o (by decide) (rs_F F2 (by decide) (rfl)))))))]; omega, by rw [show (sS 22 3 σ38).1 19 = σ6.1 20 from rs_o (by decide) (rs_F F32 (by decide) (rs_o (by decide) (rs_o (by decide) (rs_J (rs_eq)))))]; omega⟩)
        · refine tm_iconst dX12_advance_243 ?_
          refine tm_goto (tgt := 248) dX12_advance_244 (by decide) ?_
          refine tm_putS (k := 22) (v := 1) lay_12 dX12_advance_248 (by decide) fl12_226 rfl (tyX12_ok 22 (by decide)) rfl rfl rfl ?_
          refine tm_goto (tgt := 282) dX12_advance_251 (by decide) ?_
          exact tm_vret rfl dX12_advance_282 (⟨rfl, ⟨by unfold tks advT; rw [← hA, show (sS 22 1 σ38).1 19 = σ6.1 20 from rs_o (by decide) (rs_F F32 (by decide) (rs_o (by decide) (rs_o (by decide) (rs_J (rs_eq))))), show (sS 22 1 σ38).1 20 = σ38.1 20 from rs_o (by decide) (rfl), show (sS 22 1 σ38).1 22 = 1 from rs_eq, show (sS 22 1 σ38).1 23 = σ38.1 23 from rs_o (by decide) (rfl), show (sS 22 1 σ38).2.2 24 0 = 0 from rj_S (rj_F F32 (by decide) (rj_S (rj_S (rj_eq))))]; exact (advP_dig hc (by omega) (by omega) (by omega) (hB) |>.trans (by rw [if_pos (by omega)])).symm, by unfold xs; rw [(show Fr [19, 20, 22, 23] [] [24] σ (sS 22 1 σ38) from (((((((Fr.rfl.trans (Fr.sub F2 (by decide) (by decide) (by decide))).S (by decide)).J (by decide)).S (by decide)).S (by decide)).trans (Fr.sub F32 (by decide) (by decide) (by decide))).S (by decide))).1 28 (by decide), (show Fr [19, 20, 22, 23] [] [24] σ (sS 22 1 σ38) from (((((((Fr.rfl.trans (Fr.sub F2 (by decide) (by decide) (by decide))).S (by decide)).J (by decide)).S (by decide)).S (by decide)).trans (Fr.sub F32 (by decide) (by decide) (by decide))).S (by decide))).1 29 (by decide), (show Fr [19, 20, 22, 23] [] [24] σ (sS 22 1 σ38) from (((((((Fr.rfl.trans (Fr.sub F2 (by decide) (by decide) (by decide))).S (by decide)).J (by decide)).S (by decide)).S (by decide)).trans (Fr.sub F32 (by decide) (by decide) (by decide))).S (by decide))).1 34 (by decide)], sv_fr (show Fr [19, 20, 22, 23] [] [24] σ (sS 22 1 σ38) from (((((((Fr.rfl.trans (Fr.sub F2 (by decide) (by decide) (by decide))).S (by decide)).J (by decide)).S (by decide)).S (by decide)).trans (Fr.sub F32 (by decide) (by decide) (by decide))).S (by decide))) (by decide) (by decide), srt_fr (show Fr [19, 20, 22, 23] [] [24] σ (sS 22 1 σ38) from (((((((Fr.rfl.trans (Fr.sub F2 (by decide) (by decide) (by decide))).S (by decide)).J (by decide)).S (by decide)).S (by decide)).trans (Fr.sub F32 (by decide) (by decide) (by decide))).S (by decide))) (by decide) (by decide) (by decide)⟩, (((((((Fr.rfl.trans (Fr.sub F2 (by decide) (by decide) (by decide))).S (by decide)).J (by decide)).S (by decide)).S (by decide)).trans (Fr.sub F32 (by decide) (by decide) (by decide))).S (by decide)), (R33.S (by omega)), by unfold TOK; rw [show (sS 22 1 σ38).1 19 = σ6.1 20 from rs_o (by decide) (rs_F F32 (by decide) (rs_o (by decide) (rs_o (by decide) (rs_J (rs_eq))))), show (sS 22 1 σ38).1 20 = σ38.1 20 from rs_o (by decide) (rfl), show (sS 22 1 σ38).1 22 = 1 from rs_eq, show (sS 22 1 σ38).1 23 = σ38.1 23 from rs_o (by decide) (rfl), show (sS 22 1 σ38).1 21 = σ.1 21 from rs_o (by decide) (rs_F F32 (by decide) (rs_o (by decide) (rs_o (by decide) (rs_J (rs_o (by decide) (rs_F F2 (by decide) (rfl)))))))]; omega, by rw [show (sS 22 1 σ38).1 19 = σ6.1 20 from rs_o (by decide) (rs_F F32 (by decide) (rs_o (by decide) (rs_o (by decide) (rs_J (rs_eq)))))]; omega⟩)
    · refine tm_iconst dX12_advance_85 ?_
      refine tm_istore_n (L' := [(2, .int (iI 0)), (1, .int (iI v11)), (0, .ref b)]) dX12_advance_86 rfl (by decide) rfl ?_
      refine tm_sub [0, 1, 2] rfl (l_adv1 (d + 2) (σ0 := (sS 23 v11 (sJ 24 0 (0) (sS 19 (σ6.1 20) σ6)))) (c := v11) (R0 := (ltp (sv σ) (σ6.1 20) 0 0)) (((R3.S (by omega)).J).S (by omega)) (by rw [show (sS 23 v11 (sJ 24 0 (0) (sS 19 (σ6.1 20) σ6))).1 20 = σ6.1 20 from rs_o (by decide) (rs_J (rs_o (by decide) (rfl))), show (sS 23 v11 (sJ 24 0 (0) (sS 19 (σ6.1 20) σ6))).1 21 = σ.1 21 from rs_o (by decide) (rs_J (rs_o (by decide) (rs_F F2 (by decide) (rfl))))]; omega) (by omega) (fun n146 σ47 F42 R43 f44 f45 => ?_) _ (0) (sS 23 v11 (sJ 24 0 (0) (sS 19 (σ6.1 20) σ6))) Fr.rfl (((R3.S (by omega)).J).S (by omega)) (by rw [show (sS 23 v11 (sJ 24 0 (0) (sS 19 (σ6.1 20) σ6))).1 20 = σ6.1 20 from rs_o (by decide) (rs_J (rs_o (by decide) (rfl))), show (sS 23 v11 (sJ 24 0 (0) (sS 19 (σ6.1 20) σ6))).1 21 = σ.1 21 from rs_o (by decide) (rs_J (rs_o (by decide) (rs_F F2 (by decide) (rfl))))]; omega) (fun _ => by rw [show sv (sS 23 v11 (sJ 24 0 (0) (sS 19 (σ6.1 20) σ6))) = sv σ from sv_fr (show Fr [19, 20, 23] [] [24] σ (sS 23 v11 (sJ 24 0 (0) (sS 19 (σ6.1 20) σ6))) from ((((Fr.rfl.trans (Fr.sub F2 (by decide) (by decide) (by decide))).S (by decide)).J (by decide)).S (by decide))) (by decide) (by decide)]; exact hc) (by rw [show sv (sS 23 v11 (sJ 24 0 (0) (sS 19 (σ6.1 20) σ6))) = sv σ from sv_fr (show Fr [19, 20, 23] [] [24] σ (sS 23 v11 (sJ 24 0 (0) (sS 19 (σ6.1 20) σ6))) from ((((Fr.rfl.trans (Fr.sub F2 (by decide) (by decide) (by decide))).S (by decide)).J (by decide)).S (by decide))) (by decide) (by decide)]; rfl) rfl)
      show Tm _ _ 138 b σ47 [(2, .int (iI n146)), (1, .int (iI v11)), (0, .ref b)] [] _
      have hB0 := f44
      rw [show (sS 23 v11 (sJ 24 0 (0) (sS 19 (σ6.1 20) σ6))).1 20 = σ6.1 20 from rs_o (by decide) (rs_J (rs_o (by decide) (rfl))), show (sS 23 v11 (sJ 24 0 (0) (sS 19 (σ6.1 20) σ6))).1 21 = σ.1 21 from rs_o (by decide) (rs_J (rs_o (by decide) (rs_F F2 (by decide) (rfl))))] at hB0
      have hB := f45
      refine tm_aload_n dX12_advance_138 rfl 2 rfl ?_
      refine tm_iload_n dX12_advance_139 rfl 0 rfl ?_
      refine tm_bipush dX12_advance_140 (by decide) ?_
      refine tm_icmp_le (tgt := 149) dX12_advance_142 (by decide) ⟨by omega, by omega⟩ ⟨by decide, by decide⟩ (fun h48 => ?_) (fun h48 => ?_)
      · refine tm_iconst dX12_advance_149 ?_
        refine tm_putS (k := 22) (v := 2) lay_12 dX12_advance_150 (by decide) fl12_226 rfl (tyX12_ok 22 (by decide)) rfl rfl rfl ?_
        refine tm_goto (tgt := 282) dX12_advance_153 (by decide) ?_
        exact tm_vret rfl dX12_advance_282 (⟨rfl, ⟨by unfold tks advT; rw [← hA, show (sS 22 2 σ47).1 19 = σ6.1 20 from rs_o (by decide) (rs_F F42 (by decide) (rs_o (by decide) (rs_J (rs_eq)))), show (sS 22 2 σ47).1 20 = σ47.1 20 from rs_o (by decide) (rfl), show (sS 22 2 σ47).1 22 = 2 from rs_eq, show (sS 22 2 σ47).1 23 = v11 from rs_o (by decide) (rs_F F42 (by decide) (rs_eq)), show (sS 22 2 σ47).2.2 24 0 = σ47.2.2 24 0 from rj_S (rfl)]; exact (advP_let hc (by omega) (by omega) (hB) |>.trans (by rw [if_neg (by omega)])).symm, by unfold xs; rw [(show Fr [19, 20, 22, 23] [] [24] σ (sS 22 2 σ47) from ((((((Fr.rfl.trans (Fr.sub F2 (by decide) (by decide) (by decide))).S (by decide)).J (by decide)).S (by decide)).trans (Fr.sub F42 (by decide) (by decide) (by decide))).S (by decide))).1 28 (by decide), (show Fr [19, 20, 22, 23] [] [24] σ (sS 22 2 σ47) from ((((((Fr.rfl.trans (Fr.sub F2 (by decide) (by decide) (by decide))).S (by decide)).J (by decide)).S (by decide)).trans (Fr.sub F42 (by decide) (by decide) (by decide))).S (by decide))).1 29 (by decide), (show Fr [19, 20, 22, 23] [] [24] σ (sS 22 2 σ47) from ((((((Fr.rfl.trans (Fr.sub F2 (by decide) (by decide) (by decide))).S (by decide)).J (by decide)).S (by decide)).trans (Fr.sub F42 (by decide) (by decide) (by decide))).S (by decide))).1 34 (by decide)], sv_fr (show Fr [19, 20, 22, 23] [] [24] σ (sS 22 2 σ47) from ((((((Fr.rfl.trans (Fr.sub F2 (by decide) (by decide) (by decide))).S (by decide)).J (by decide)).S (by decide)).trans (Fr.sub F42 (by decide) (by decide) (by decide))).S (by decide))) (by decide) (by decide), srt_fr (show Fr [19, 20, 22, 23] [] [24] σ (sS 22 2 σ47) from ((((((Fr.rfl.trans (Fr.sub F2 (by decide) (by decide) (by decide))).S (by decide)).J (by decide)).S (by decide)).trans (Fr.sub F42 (by decide) (by decide) (by decide))).S (by decide))) (by decide) (by decide) (by decide)⟩, ((((((Fr.rfl.trans (Fr.sub F2 (by decide) (by decide) (by decide))).S (by decide)).J (by decide)).S (by decide)).trans (Fr.sub F42 (by decide) (by decide) (by decide))).S (by decide)), (R43.S (by omega)), by unfold TOK; rw [show (sS 22 2 σ47).1 19 = σ6.1 20 from rs_o (by decide) (rs_F F42 (by decide) (rs_o (by decide) (rs_J (rs_eq)))), show (sS 22 2 σ47).1 20 = σ47.1 20 from rs_o (by decide) (rfl), show (sS 22 2 σ47).1 22 = 2 from rs_eq, show (sS 22 2 σ47).1 23 = v11 from rs_o (by decide) (rs_F F42 (by decide) (rs_eq)), show (sS 22 2 σ47).1 21 = σ.1 21 from rs_o (by decide) (rs_F F42 (by decide) (rs_o (by decide) (rs_J (rs_o (by decide) (rs_F F2 (by decide) (rfl))))))]; omega, by rw [show (sS 22 2 σ47).1 19 = σ6.1 20 from rs_o (by decide) (rs_F F42 (by decide) (rs_o (by decide) (rs_J (rs_eq))))]; omega⟩)
      · refine tm_iconst dX12_advance_145 ?_
        refine tm_goto (tgt := 150) dX12_advance_146 (by decide) ?_
        refine tm_putS (k := 22) (v := 1) lay_12 dX12_advance_150 (by decide) fl12_226 rfl (tyX12_ok 22 (by decide)) rfl rfl rfl ?_
        refine tm_goto (tgt := 282) dX12_advance_153 (by decide) ?_
        exact tm_vret rfl dX12_advance_282 (⟨rfl, ⟨by unfold tks advT; rw [← hA, show (sS 22 1 σ47).1 19 = σ6.1 20 from rs_o (by decide) (rs_F F42 (by decide) (rs_o (by decide) (rs_J (rs_eq)))), show (sS 22 1 σ47).1 20 = σ47.1 20 from rs_o (by decide) (rfl), show (sS 22 1 σ47).1 22 = 1 from rs_eq, show (sS 22 1 σ47).1 23 = v11 from rs_o (by decide) (rs_F F42 (by decide) (rs_eq)), show (sS 22 1 σ47).2.2 24 0 = σ47.2.2 24 0 from rj_S (rfl)]; exact (advP_let hc (by omega) (by omega) (hB) |>.trans (by rw [if_pos (by omega)])).symm, by unfold xs; rw [(show Fr [19, 20, 22, 23] [] [24] σ (sS 22 1 σ47) from ((((((Fr.rfl.trans (Fr.sub F2 (by decide) (by decide) (by decide))).S (by decide)).J (by decide)).S (by decide)).trans (Fr.sub F42 (by decide) (by decide) (by decide))).S (by decide))).1 28 (by decide), (show Fr [19, 20, 22, 23] [] [24] σ (sS 22 1 σ47) from ((((((Fr.rfl.trans (Fr.sub F2 (by decide) (by decide) (by decide))).S (by decide)).J (by decide)).S (by decide)).trans (Fr.sub F42 (by decide) (by decide) (by decide))).S (by decide))).1 29 (by decide), (show Fr [19, 20, 22, 23] [] [24] σ (sS 22 1 σ47) from ((((((Fr.rfl.trans (Fr.sub F2 (by decide) (by decide) (by decide))).S (by decide)).J (by decide)).S (by decide)).trans (Fr.sub F42 (by decide) (by decide) (by decide))).S (by decide))).1 34 (by decide)], sv_fr (show Fr [19, 20, 22, 23] [] [24] σ (sS 22 1 σ47) from ((((((Fr.rfl.trans (Fr.sub F2 (by decide) (by decide) (by decide))).S (by decide)).J (by decide)).S (by decide)).trans (Fr.sub F42 (by decide) (by decide) (by decide))).S (by decide))) (by decide) (by decide), srt_fr (show Fr [19, 20, 22, 23] [] [24] σ (sS 22 1 σ47) from ((((((Fr.rfl.trans (Fr.sub F2 (by decide) (by decide) (by decide))).S (by decide)).J (by decide)).S (by decide)).trans (Fr.sub F42 (by decide) (by decide) (by decide))).S (by decide))) (by decide) (by decide) (by decide)⟩, ((((((Fr.rfl.trans (Fr.sub F2 (by decide) (by decide) (by decide))).S (by decide)).J (by decide)).S (by decide)).trans (Fr.sub F42 (by decide) (by decide) (by decide))).S (by decide)), (R43.S (by omega)), by unfold TOK; rw [show (sS 22 1 σ47).1 19 = σ6.1 20 from rs_o (by decide) (rs_F F42 (by decide) (rs_o (by decide) (rs_J (rs_eq)))), show (sS 22 1 σ47).1 20 = σ47.1 20 from rs_o (by decide) (rfl), show (sS 22 1 σ47).1 22 = 1 from rs_eq, show (sS 22 1 σ47).1 23 = v11 from rs_o (by decide) (rs_F F42 (by decide) (rs_eq)), show (sS 22 1 σ47).1 21 = σ.1 21 from rs_o (by decide) (rs_F F42 (by decide) (rs_o (by decide) (rs_J (rs_o (by decide) (rs_F F2 (by decide) (rfl))))))]; omega, by rw [show (sS 22 1 σ47).1 19 = σ6.1 20 from rs_o (by decide) (rs_F F42 (by decide) (rs_o (by decide) (rs_J (rs_eq))))]; omega⟩)
  · refine tm_aload_n dX12_advance_70 rfl 1 rfl ?_
    refine tm_iconst dX12_advance_71 ?_
    refine tm_putS (k := 22) (v := 0) lay_12 dX12_advance_72 (by decide) fl12_226 rfl (tyX12_ok 22 (by decide)) rfl rfl rfl ?_
    refine tm_goto (tgt := 282) dX12_advance_75 (by decide) ?_
    exact tm_vret rfl dX12_advance_282 (⟨rfl, ⟨by unfold tks advT; rw [← hA, show (sS 22 0 (sS 23 v11 (sJ 24 0 (0) (sS 19 (σ6.1 20) σ6)))).1 19 = σ6.1 20 from rs_o (by decide) (rs_o (by decide) (rs_J (rs_eq))), show (sS 22 0 (sS 23 v11 (sJ 24 0 (0) (sS 19 (σ6.1 20) σ6)))).1 20 = σ6.1 20 from rs_o (by decide) (rs_o (by decide) (rs_J (rs_o (by decide) (rfl)))), show (sS 22 0 (sS 23 v11 (sJ 24 0 (0) (sS 19 (σ6.1 20) σ6)))).1 22 = 0 from rs_eq, show (sS 22 0 (sS 23 v11 (sJ 24 0 (0) (sS 19 (σ6.1 20) σ6)))).1 23 = v11 from rs_o (by decide) (rs_eq), show (sS 22 0 (sS 23 v11 (sJ 24 0 (0) (sS 19 (σ6.1 20) σ6)))).2.2 24 0 = 0 from rj_S (rj_S (rj_eq))]; exact (advP_end hc (by omega)).symm, by unfold xs; rw [(show Fr [19, 20, 22, 23] [] [24] σ (sS 22 0 (sS 23 v11 (sJ 24 0 (0) (sS 19 (σ6.1 20) σ6)))) from (((((Fr.rfl.trans (Fr.sub F2 (by decide) (by decide) (by decide))).S (by decide)).J (by decide)).S (by decide)).S (by decide))).1 28 (by decide), (show Fr [19, 20, 22, 23] [] [24] σ (sS 22 0 (sS 23 v11 (sJ 24 0 (0) (sS 19 (σ6.1 20) σ6)))) from (((((Fr.rfl.trans (Fr.sub F2 (by decide) (by decide) (by decide))).S (by decide)).J (by decide)).S (by decide)).S (by decide))).1 29 (by decide), (show Fr [19, 20, 22, 23] [] [24] σ (sS 22 0 (sS 23 v11 (sJ 24 0 (0) (sS 19 (σ6.1 20) σ6)))) from (((((Fr.rfl.trans (Fr.sub F2 (by decide) (by decide) (by decide))).S (by decide)).J (by decide)).S (by decide)).S (by decide))).1 34 (by decide)], sv_fr (show Fr [19, 20, 22, 23] [] [24] σ (sS 22 0 (sS 23 v11 (sJ 24 0 (0) (sS 19 (σ6.1 20) σ6)))) from (((((Fr.rfl.trans (Fr.sub F2 (by decide) (by decide) (by decide))).S (by decide)).J (by decide)).S (by decide)).S (by decide))) (by decide) (by decide), srt_fr (show Fr [19, 20, 22, 23] [] [24] σ (sS 22 0 (sS 23 v11 (sJ 24 0 (0) (sS 19 (σ6.1 20) σ6)))) from (((((Fr.rfl.trans (Fr.sub F2 (by decide) (by decide) (by decide))).S (by decide)).J (by decide)).S (by decide)).S (by decide))) (by decide) (by decide) (by decide)⟩, (((((Fr.rfl.trans (Fr.sub F2 (by decide) (by decide) (by decide))).S (by decide)).J (by decide)).S (by decide)).S (by decide)), ((((R3.S (by omega)).J).S (by omega)).S (by omega)), by unfold TOK; rw [show (sS 22 0 (sS 23 v11 (sJ 24 0 (0) (sS 19 (σ6.1 20) σ6)))).1 19 = σ6.1 20 from rs_o (by decide) (rs_o (by decide) (rs_J (rs_eq))), show (sS 22 0 (sS 23 v11 (sJ 24 0 (0) (sS 19 (σ6.1 20) σ6)))).1 20 = σ6.1 20 from rs_o (by decide) (rs_o (by decide) (rs_J (rs_o (by decide) (rfl)))), show (sS 22 0 (sS 23 v11 (sJ 24 0 (0) (sS 19 (σ6.1 20) σ6)))).1 22 = 0 from rs_eq, show (sS 22 0 (sS 23 v11 (sJ 24 0 (0) (sS 19 (σ6.1 20) σ6)))).1 23 = v11 from rs_o (by decide) (rs_eq), show (sS 22 0 (sS 23 v11 (sJ 24 0 (0) (sS 19 (σ6.1 20) σ6)))).1 21 = σ.1 21 from rs_o (by decide) (rs_o (by decide) (rs_J (rs_o (by decide) (rs_F F2 (by decide) (rfl)))))]; omega, by rw [show (sS 22 0 (sS 23 v11 (sJ 24 0 (0) (sS 19 (σ6.1 20) σ6)))).1 19 = σ6.1 20 from rs_o (by decide) (rs_o (by decide) (rs_J (rs_eq)))]; omega⟩)
end
section
/-! if v is k (folded, so that omega does not split it) -/
def Im (v k : Int) (P : Prop) : Prop := v = k → P
end
section
/-! what the reader keeps -/
def PXx (σ : MS) : Int := if σ.1 25 = 3 ∧ σ.1 34 < 220 ∧ σ.1 30 < 6 then 220 * σ.1 30 + σ.1 34 else 2640
def ITz (τ : MS) (x k d o : Int) : Prop := τ.2.1 3 x = k ∧ τ.2.1 4 x = d ∧ τ.2.1 5 x = o ∧ τ.2.1 6 x = 0 ∧ ∀ i, 0 ≤ i → i < 4 → τ.2.1 7 (4 * x + i) = 0
def NN (σ : MS) : Prop := ∀ r, 0 ≤ r → r < 6 → 0 ≤ σ.2.1 35 r ∧ σ.2.1 35 r ≤ 12
theorem NN.fr {ss ks js : List Nat} {σ τ : MS} (h : NN σ) (f : Fr ss ks js σ τ) (hk : 35 ∉ ks) : NN τ := by unfold NN; rw [f.2.1 35 hk]; exact h
def FLT (σ τ : MS) : Prop := (σ.1 26 ≠ 0 → τ.1 26 ≠ 0) ∧ (0 ≤ σ.1 26 → 0 ≤ τ.1 26)
theorem FLT.trans {σ τ υ : MS} (h : FLT σ τ) (g : FLT τ υ) : FLT σ υ := ⟨fun a => g.1 (h.1 a), fun a => g.2 (h.2 a)⟩
theorem FLT.eq {σ τ : MS} (h : τ.1 26 = σ.1 26) : FLT σ τ := by unfold FLT; rw [h]; exact ⟨id, id⟩
theorem FLT.wr {σ τ : MS} (h1 : σ.1 26 ≠ 0 → τ = σ) (h2 : σ.1 26 = 0 → τ = sS 27 (σ.1 19) (sS 26 1 σ)) : FLT σ τ := by
  by_cases z : σ.1 26 = 0
  · rw [h2 z]; exact ⟨fun a => absurd z a, fun _ => (by decide : (0 : Int) ≤ 1)⟩
  · rw [h1 z]; exact FLT.eq rfl
def PBF (σ τ : MS) : Prop :=
  (∀ x, x ≠ 2640 → (x < 220 * σ.1 30 + σ.1 34 ∨ 220 * σ.1 30 + 220 ≤ x ∨ σ.1 25 ≠ 3 ∨ 6 ≤ σ.1 30) → IEQ σ x τ x) ∧
  (σ.1 25 ≠ 1 → τ.2.1 35 = σ.2.1 35 ∧ τ.2.2 38 = σ.2.2 38) ∧ NN τ ∧ (∀ r, σ.2.1 35 r ≤ τ.2.1 35 r ∧ (r ≠ σ.1 30 → τ.2.1 35 r = σ.2.1 35 r)) ∧
  FLT σ τ ∧ σ.1 34 ≤ τ.1 34 ∧ τ.1 25 = σ.1 25 ∧ τ.1 30 = σ.1 30
theorem PBF.trans {σ τ υ : MS} (h : PBF σ τ) (g : PBF τ υ) : PBF σ υ := by
  obtain ⟨h1, h2, h3, h4, h5, h6, h7, h8⟩ := h
  obtain ⟨g1, g2, g3, g4, g5, g6, g7, g8⟩ := g
  refine ⟨fun x a b => (h1 x a b).trans (g1 x a (by omega)), fun a => ?_, g3, fun r => ⟨Int.le_trans (h4 r).1 (g4 r).1, fun a => ((g4 r).2 (by omega)).trans ((h4 r).2 a)⟩, h5.trans g5, by omega, g7.trans h7, g8.trans h8⟩
  have x := h2 a
  have y := g2 (by omega)
  exact ⟨y.1.trans x.1, y.2.trans x.2⟩
theorem IEQ.of {ss ks js : List Nat} {σ τ : MS} {x : Int} (f : Fr ss ks js σ τ) (h : ∀ k ∈ [3, 4, 5, 6, 7, 8], k ∉ ks) : IEQ σ x τ x := by
  unfold IEQ
  rw [f.q h (k := 3) (by decide), f.q h (k := 4) (by decide), f.q h (k := 5) (by decide), f.q h (k := 6) (by decide), f.q h (k := 7) (by decide), f.q h (k := 8) (by decide)]
  exact ⟨Eq.refl _, Eq.refl _, Eq.refl _, Eq.refl _, fun _ _ _ => ⟨Eq.refl _, Eq.refl _⟩⟩
theorem PBF.of {ss ks js : List Nat} {σ τ : MS} (hn : NN σ) (f : Fr ss ks js σ τ) (hs : ∀ k ∈ [25, 30, 34], k ∉ ss) (hk : ∀ k ∈ [3, 4, 5, 6, 7, 8, 35], k ∉ ks) (hj : 38 ∉ js) (h26 : FLT σ τ) : PBF σ τ :=
  ⟨fun x _ _ => IEQ.of f (fun k q => hk k (by revert k q; decide)), fun _ => ⟨f.2.1 35 (hk 35 (by decide)), f.2.2 38 hj⟩, hn.fr f (hk 35 (by decide)), fun r => by rw [f.2.1 35 (hk 35 (by decide))]; exact ⟨Int.le_refl _, fun _ => Eq.refl _⟩, h26, by rw [f.1 34 (hs 34 (by decide))]; omega, f.1 25 (hs 25 (by decide)), f.1 30 (hs 30 (by decide))⟩
theorem PBF.nop {ss ks js : List Nat} {σ τ : MS} (hn : NN σ) (f : Fr ss ks js σ τ) (hs : ∀ k ∈ [25, 26, 30, 34], k ∉ ss) (hk : ∀ k ∈ [3, 4, 5, 6, 7, 8, 35], k ∉ ks) (hj : 38 ∉ js) : PBF σ τ := PBF.of hn f (fun k q => hs k (by revert k q; decide)) hk hj (FLT.eq (f.1 26 (hs 26 (by decide))))
/-- one item is put -/
theorem PBF.put {ss ks js : List Nat} {σ τ : MS} (hn : NN σ) (f : Fr ss ks js σ τ) (hs : ∀ k ∈ [25, 26, 30], k ∉ ss) (hk : 35 ∉ ks) (hj : 38 ∉ js) (h34 : τ.1 34 = σ.1 34 + 1) (o : OFF (PXx σ) σ τ) : PBF σ τ := by
  refine ⟨fun x a b => o.ieq ?_, fun _ => ⟨f.2.1 35 hk, f.2.2 38 hj⟩, hn.fr f hk, fun r => by rw [f.2.1 35 hk]; exact ⟨Int.le_refl _, fun _ => Eq.refl _⟩, FLT.eq (f.1 26 (hs 26 (by decide))), by omega, f.1 25 (hs 25 (by decide)), f.1 30 (hs 30 (by decide))⟩
  unfold PXx
  split <;> omega
/-- a number that is worked out -/
def ACI (σ : MS) (B x : Int) : Prop := (1 ≤ σ.2.1 3 x ∧ σ.2.1 3 x ≤ 5) ∧ (0 ≤ σ.2.1 4 x ∧ σ.2.1 4 x < B) ∧ σ.2.1 5 x = 0 ∧ ∀ i, 0 ≤ i → i < 4 → (0 ≤ σ.2.1 7 (4 * x + i) ∧ σ.2.1 7 (4 * x + i) ≤ 2) ∧ (σ.2.1 7 (4 * x + i) = 2 → (0 ≤ σ.2.1 8 (4 * x + i) ∧ σ.2.1 8 (4 * x + i) < B) ∧ i < 2)
theorem ACI.mv {σ τ : MS} {B C x : Int} (h : ACI σ B x) (e : IEQ σ x τ x) (hb : B ≤ C) : ACI τ C x := by
  obtain ⟨h1, h2, h3, h4⟩ := h
  obtain ⟨e1, e2, e3, e4, e5⟩ := e
  refine ⟨by rw [e1]; exact h1, by rw [e2]; omega, by rw [e3]; exact h3, fun i a b => ?_⟩
  have q := h4 i a b
  rw [(e5 i a b).1, (e5 i a b).2]
  refine ⟨q.1, fun z => ?_⟩
  have := q.2 z
  omega
def AC (σ τ : MS) : Prop := σ.1 25 = 3 → σ.1 30 < 6 → ∀ k, σ.1 34 ≤ k → k < τ.1 34 → k < 220 → ACI τ (12 + τ.1 34) (220 * σ.1 30 + k)
theorem AC.trans {σ τ υ : MS} (h : AC σ τ) (p : PBF σ τ) (g : AC τ υ) (q : PBF τ υ) (h0 : 0 ≤ σ.1 30) : AC σ υ := fun a b k c d e => by
  obtain ⟨-, -, -, -, -, p6, p7, p8⟩ := p
  obtain ⟨q1, -, -, -, -, q6, -, -⟩ := q
  by_cases z : k < τ.1 34
  · refine (h a b k c z e).mv ?_ (by omega)
    rw [← p8]
    exact q1 _ (by omega) (by omega)
  · have y := g (by omega) (by omega) k (by omega) d e
    rw [p8] at y
    exact y
theorem AC.nil {σ τ : MS} (h : τ.1 34 = σ.1 34) : AC σ τ := fun _ _ k c d _ => by omega
theorem AC.one {σ τ : MS} (h34 : τ.1 34 = σ.1 34 + 1) (h : ACI τ (12 + τ.1 34) (PXx σ)) : AC σ τ := fun a b k c d e => by
  have ek : k = σ.1 34 := by omega
  have : PXx σ = 220 * σ.1 30 + k := by unfold PXx; rw [if_pos (by omega), ek]
  rw [← this]; exact h
def GTm (τ : MS) : Prop := (τ.1 39 = 1 ∨ τ.1 39 = 2) ∧ (τ.1 39 = 2 → 0 ≤ τ.1 40 ∧ τ.1 40 < 12 + τ.1 34)
/-- what is used up of the text, and what is made -/
def PBC (n : Int) (σ τ : MS) : Prop := σ.1 19 ≤ τ.1 19 ∧ 2 * σ.1 19 - σ.1 34 + n ≤ 2 * τ.1 19 - τ.1 34 ∧ σ.1 32 ≤ τ.1 32 ∧ τ.1 32 - σ.1 32 ≤ τ.1 34 - σ.1 34 ∧ σ.1 31 ≤ τ.1 31 ∧ τ.1 31 - σ.1 31 ≤ τ.1 19 - σ.1 19 ∧ σ.1 33 ≤ τ.1 33 ∧ τ.1 33 - σ.1 33 ≤ τ.1 34 - σ.1 34
theorem PBC.trans {n m : Int} {σ τ υ : MS} (h : PBC n σ τ) (g : PBC m τ υ) : PBC (n + m) σ υ := by
  unfold PBC at *
  omega
theorem PBC.le {n m : Int} {σ τ : MS} (h : PBC n σ τ) (e : m ≤ n) : PBC m σ τ := by
  unfold PBC at *
  omega
theorem PBC.nop {ss ks js : List Nat} {σ τ : MS} (f : Fr ss ks js σ τ) (hs : ∀ k ∈ [19, 31, 32, 33, 34], k ∉ ss) : PBC 0 σ τ := by
  unfold PBC
  rw [f.1 19 (hs 19 (by decide)), f.1 31 (hs 31 (by decide)), f.1 32 (hs 32 (by decide)), f.1 33 (hs 33 (by decide)), f.1 34 (hs 34 (by decide))]
  omega
/-- the reader stands well -/
def RDY (σ : MS) : Prop := TOK σ ∧ (0 ≤ σ.1 25 ∧ σ.1 25 ≤ 3) ∧ (0 ≤ σ.1 30 ∧ σ.1 30 ≤ 2000) ∧ (0 ≤ σ.1 34 ∧ σ.1 34 ≤ 2 * σ.1 19 + 10) ∧ (0 ≤ σ.1 32 ∧ σ.1 32 ≤ 12 + σ.1 34) ∧ (0 ≤ σ.1 31 ∧ σ.1 31 ≤ σ.1 19) ∧ (0 ≤ σ.1 33 ∧ σ.1 33 ≤ σ.1 34)
theorem OFF.fr {ss ks js : List Nat} {x : Int} {σ τ υ : MS} (h : OFF x σ τ) (f : Fr ss ks js τ υ) (hk : ∀ k ∈ [3, 4, 5, 6, 7, 8, 9, 11], k ∉ ks) : OFF x σ υ := by
  unfold OFF
  rw [f.q hk (k := 3) (by decide), f.q hk (k := 4) (by decide), f.q hk (k := 5) (by decide), f.q hk (k := 6) (by decide), f.q hk (k := 7) (by decide), f.q hk (k := 8) (by decide), f.q hk (k := 9) (by decide), f.q hk (k := 11) (by decide)]
  exact h
theorem fArg_at {x i k v : Int} {σ : MS} : (fArg x i k v σ).2.1 7 (4 * x + i) = k ∧ (fArg x i k v σ).2.1 8 (4 * x + i) = v := ⟨ra_o (by decide) ra_eq, ra_eq⟩
theorem fArg_ne {x i j k v : Int} {σ : MS} (h : j ≠ i) : (fArg x i k v σ).2.1 7 (4 * x + j) = σ.2.1 7 (4 * x + j) ∧ (fArg x i k v σ).2.1 8 (4 * x + j) = σ.2.1 8 (4 * x + j) := ⟨ra_o (by decide) (ra_ne (by omega) rfl), ra_ne (by omega) (ra_o (by decide) rfl)⟩
theorem ACI.mk {σ : MS} {x k t ak a bk c B : Int} (h : ITz σ x k t 0) (hk : 1 ≤ k ∧ k ≤ 5) (ht : 0 ≤ t ∧ t < B) (ha : (0 ≤ ak ∧ ak ≤ 2) ∧ (ak = 2 → 0 ≤ a ∧ a < B)) (hb : (0 ≤ bk ∧ bk ≤ 2) ∧ (bk = 2 → 0 ≤ c ∧ c < B)) : ACI (fArg x 1 bk c (fArg x 0 ak a σ)) B x := by
  obtain ⟨h1, h2, h3, h4, h5⟩ := h
  refine ⟨?_, ?_, ?_, fun i i0 i4 => ?_⟩
  · show 1 ≤ σ.2.1 3 x ∧ σ.2.1 3 x ≤ 5
    omega
  · show 0 ≤ σ.2.1 4 x ∧ σ.2.1 4 x < B
    omega
  · exact h3
  · by_cases z1 : i = 1
    · rw [z1, fArg_at.1, fArg_at.2]
      exact ⟨hb.1, fun q => ⟨hb.2 q, by omega⟩⟩
    · rw [(fArg_ne z1).1, (fArg_ne z1).2]
      by_cases z0 : i = 0
      · rw [z0, fArg_at.1, fArg_at.2]
        exact ⟨ha.1, fun q => ⟨ha.2 q, by omega⟩⟩
      · rw [(fArg_ne z0).1, h5 i i0 i4]
        exact ⟨by omega, fun q => by omega⟩
theorem PBF.name {σ : MS} {w : Int64} {z : Int} (hn : NN σ) (h1 : σ.1 25 = 1) (hr : 0 ≤ σ.1 30 ∧ σ.1 30 < 6) (h12 : σ.2.1 35 (σ.1 30) ≠ 12) : PBF σ (sA 35 (σ.1 30) (σ.2.1 35 (σ.1 30) + 1) (sJ 38 z w σ)) := by
  have f : Fr [] [35] [38] σ (sA 35 (σ.1 30) (σ.2.1 35 (σ.1 30) + 1) (sJ 38 z w σ)) := (Fr.rfl.J (by decide)).A (by decide)
  refine ⟨fun x _ _ => IEQ.of f (by decide), fun a => absurd h1 a, fun r a b => ?_, fun r => ⟨?_, fun a => ra_ne a rfl⟩, FLT.eq rfl, Int.le_refl _, rfl, rfl⟩
  by_cases e : r = σ.1 30
  · rw [e, show (sA 35 (σ.1 30) (σ.2.1 35 (σ.1 30) + 1) (sJ 38 z w σ)).2.1 35 (σ.1 30) = σ.2.1 35 (σ.1 30) + 1 from ra_eq]
    have := hn (σ.1 30) hr.1 hr.2
    omega
  · rw [show (sA 35 (σ.1 30) (σ.2.1 35 (σ.1 30) + 1) (sJ 38 z w σ)).2.1 35 r = σ.2.1 35 r from ra_ne e rfl]
    exact hn r a b
  by_cases e : r = σ.1 30
  · rw [e, show (sA 35 (σ.1 30) (σ.2.1 35 (σ.1 30) + 1) (sJ 38 z w σ)).2.1 35 (σ.1 30) = σ.2.1 35 (σ.1 30) + 1 from ra_eq]
    omega
  · rw [show (sA 35 (σ.1 30) (σ.2.1 35 (σ.1 30) + 1) (sJ 38 z w σ)).2.1 35 r = σ.2.1 35 r from ra_ne e rfl]
    exact Int.le_refl _
def NDQ (σ : MS) (c : Int) (τ : MS) : Prop := SG σ c ∧ ADVm σ τ ∧ TOK τ ∧ σ.1 20 ≤ τ.1 19 ∧ τ.1 26 = σ.1 26
theorem WRG.of {σ τ : MS} (h : σ.1 26 = 0 → τ = sS 27 (σ.1 19) (sS 26 1 σ)) : WRG σ τ := fun z => by
  rw [h z]
  exact ⟨rfl, rfl⟩
end
section
set_option maxHeartbeats 4000000 in
set_option maxRecDepth 20000 in
theorem c2_X12_note (d : Nat) {b : Nat} {σ : MS} {f : Int} {p : Int} (hR : RG σ) (hf : 1 ≤ f ∧ f ≤ 9) (h_p : -2147483648 ≤ p ∧ p ≤ 2147483647) : Tm (d + 1) m_X12_note 0 b σ [(0, .ref b), (1, .int (iI f)), (2, .int (iI p))] [] (fun ro σ2 => ro = none ∧ (Fr [26, 27] [] [] σ σ2) ∧ (RG σ2) ∧ (FLT σ σ2) ∧ (0 < σ.1 25 → σ2.1 26 ≠ 0) ∧ (σ2 = ntP f p σ)) := by
  refine tm_aload_n dX12_note_0 rfl 0 rfl ?_
  refine tm_getS (k := 25) (t := σ.1 25) dX12_note_1 (by decide) fl12_255 rfl (rfl) ?_
  have g1 := RG.s hR 25
  refine tm_if_le (tgt := 48) dX12_note_4 (by decide) ⟨by omega, by omega⟩ (fun h2 => ?_) (fun h2 => ?_)
  · exact tm_vret rfl dX12_note_48 (⟨rfl, Fr.rfl, hR, FLT.eq rfl, fun q => by omega, by unfold ntP; rw [if_neg (by omega)]⟩)
  · refine tm_aload_n dX12_note_7 rfl 0 rfl ?_
    refine tm_getS (k := 26) (t := σ.1 26) dX12_note_8 (by decide) fl12_252 rfl (rfl) ?_
    have g3 := RG.s hR 26
    refine tm_if_eq (tgt := 38) dX12_note_11 (by decide) ⟨by omega, by omega⟩ (fun h4 => ?_) (fun h4 => ?_)
    · refine tm_aload_n dX12_note_38 rfl 0 rfl ?_
      refine tm_iload_n dX12_note_39 rfl 1 rfl ?_
      refine tm_putS (k := 26) (v := f) lay_12 dX12_note_40 (by decide) fl12_252 rfl (tyX12_ok 26 (by decide)) rfl rfl rfl ?_
      refine tm_aload_n dX12_note_43 rfl 0 rfl ?_
      refine tm_iload_n dX12_note_44 rfl 2 rfl ?_
      refine tm_putS (k := 27) (v := p) lay_12 dX12_note_45 (by decide) fl12_59 rfl (tyX12_ok 27 (by decide)) rfl rfl rfl ?_
      exact tm_vret rfl dX12_note_48 (⟨rfl, ((Fr.rfl.S (by decide)).S (by decide)), ((hR.S (by omega)).S (by omega)), ⟨fun _ => (by rw [show (sS 27 p (sS 26 f σ)).1 26 = f from rs_o (by decide) (rs_eq)]; omega), fun _ => (by rw [show (sS 27 p (sS 26 f σ)).1 26 = f from rs_o (by decide) (rs_eq)]; omega)⟩, fun _ => (by rw [show (sS 27 p (sS 26 f σ)).1 26 = f from rs_o (by decide) (rs_eq)]; omega), by unfold ntP; rw [if_pos (by omega)]⟩)
    · refine tm_iload_n dX12_note_14 rfl 2 rfl ?_
      refine tm_aload_n dX12_note_15 rfl 0 rfl ?_
      refine tm_getS (k := 27) (t := σ.1 27) dX12_note_16 (by decide) fl12_59 rfl (rfl) ?_
      have g5 := RG.s hR 27
      refine tm_icmp_lt (tgt := 38) dX12_note_19 (by decide) ⟨by omega, by omega⟩ ⟨by omega, by omega⟩ (fun h6 => ?_) (fun h6 => ?_)
      · refine tm_aload_n dX12_note_38 rfl 0 rfl ?_
        refine tm_iload_n dX12_note_39 rfl 1 rfl ?_
        refine tm_putS (k := 26) (v := f) lay_12 dX12_note_40 (by decide) fl12_252 rfl (tyX12_ok 26 (by decide)) rfl rfl rfl ?_
        refine tm_aload_n dX12_note_43 rfl 0 rfl ?_
        refine tm_iload_n dX12_note_44 rfl 2 rfl ?_
        refine tm_putS (k := 27) (v := p) lay_12 dX12_note_45 (by decide) fl12_59 rfl (tyX12_ok 27 (by decide)) rfl rfl rfl ?_
        exact tm_vret rfl dX12_note_48 (⟨rfl, ((Fr.rfl.S (by decide)).S (by decide)), ((hR.S (by omega)).S (by omega)), ⟨fun _ => (by rw [show (sS 27 p (sS 26 f σ)).1 26 = f from rs_o (by decide) (rs_eq)]; omega), fun _ => (by rw [show (sS 27 p (sS 26 f σ)).1 26 = f from rs_o (by decide) (rs_eq)]; omega)⟩, fun _ => (by rw [show (sS 27 p (sS 26 f σ)).1 26 = f from rs_o (by decide) (rs_eq)]; omega), by unfold ntP; rw [if_pos (by omega)]⟩)
      · refine tm_iload_n dX12_note_22 rfl 2 rfl ?_
        refine tm_aload_n dX12_note_23 rfl 0 rfl ?_
        refine tm_getS (k := 27) (t := σ.1 27) dX12_note_24 (by decide) fl12_59 rfl (rfl) ?_
        have g7 := RG.s hR 27
        refine tm_icmp_ne (tgt := 48) dX12_note_27 (by decide) ⟨by omega, by omega⟩ ⟨by omega, by omega⟩ (fun h8 => ?_) (fun h8 => ?_)
        · exact tm_vret rfl dX12_note_48 (⟨rfl, Fr.rfl, hR, FLT.eq rfl, fun q => by omega, by unfold ntP; rw [if_neg (by omega)]⟩)
        · refine tm_iload_n dX12_note_30 rfl 1 rfl ?_
          refine tm_aload_n dX12_note_31 rfl 0 rfl ?_
          refine tm_getS (k := 26) (t := σ.1 26) dX12_note_32 (by decide) fl12_252 rfl (rfl) ?_
          have g9 := RG.s hR 26
          refine tm_icmp_ge (tgt := 48) dX12_note_35 (by decide) ⟨by omega, by omega⟩ ⟨by omega, by omega⟩ (fun h10 => ?_) (fun h10 => ?_)
          · exact tm_vret rfl dX12_note_48 (⟨rfl, Fr.rfl, hR, FLT.eq rfl, fun q => by omega, by unfold ntP; rw [if_neg (by omega)]⟩)
          · refine tm_aload_n dX12_note_38 rfl 0 rfl ?_
            refine tm_iload_n dX12_note_39 rfl 1 rfl ?_
            refine tm_putS (k := 26) (v := f) lay_12 dX12_note_40 (by decide) fl12_252 rfl (tyX12_ok 26 (by decide)) rfl rfl rfl ?_
            refine tm_aload_n dX12_note_43 rfl 0 rfl ?_
            refine tm_iload_n dX12_note_44 rfl 2 rfl ?_
            refine tm_putS (k := 27) (v := p) lay_12 dX12_note_45 (by decide) fl12_59 rfl (tyX12_ok 27 (by decide)) rfl rfl rfl ?_
            exact tm_vret rfl dX12_note_48 (⟨rfl, ((Fr.rfl.S (by decide)).S (by decide)), ((hR.S (by omega)).S (by omega)), ⟨fun _ => (by rw [show (sS 27 p (sS 26 f σ)).1 26 = f from rs_o (by decide) (rs_eq)]; omega), fun _ => (by rw [show (sS 27 p (sS 26 f σ)).1 26 = f from rs_o (by decide) (rs_eq)]; omega)⟩, fun _ => (by rw [show (sS 27 p (sS 26 f σ)).1 26 = f from rs_o (by decide) (rs_eq)]; omega), by unfold ntP; rw [if_pos (by omega)]⟩)
set_option maxHeartbeats 4000000 in
set_option maxRecDepth 20000 in
theorem c2_X12_give (d : Nat) {b : Nat} {σ : MS} {k : Int} {w : Int} (hR : RG σ) (h_k : -2147483648 ≤ k ∧ k ≤ 2147483647) (h_w : -2147483648 ≤ w ∧ w ≤ 2147483647) : Tm (d + 1) m_X12_give 0 b σ [(0, .ref b), (1, .int (iI k)), (2, .int (iI w))] [] (fun ro σ2 => ro = none ∧ (Fr [39, 40] [] [] σ σ2) ∧ (RG σ2) ∧ (σ2.1 39 = k ∧ σ2.1 40 = w)) := by
  refine tm_aload_n dX12_give_0 rfl 0 rfl ?_
  refine tm_iload_n dX12_give_1 rfl 1 rfl ?_
  refine tm_putS (k := 39) (v := k) lay_12 dX12_give_2 (by decide) fl12_285 rfl (tyX12_ok 39 (by decide)) rfl rfl rfl ?_
  refine tm_aload_n dX12_give_5 rfl 0 rfl ?_
  refine tm_iload_n dX12_give_6 rfl 2 rfl ?_
  refine tm_putS (k := 40) (v := w) lay_12 dX12_give_7 (by decide) fl12_288 rfl (tyX12_ok 40 (by decide)) rfl rfl rfl ?_
  exact tm_vret rfl dX12_give_10 (⟨rfl, ((Fr.rfl.S (by decide)).S (by decide)), ((hR.S (by omega)).S (by omega)), rs_o (by decide) rs_eq, rs_eq⟩)
theorem fl12_278 : Cond.fieldLink RX12 278 (TX12 34).1 (TX12 34).2.1 (TX12 34).2.2.1 ∈ pWW := pw7 (List.mem_of_getElem? (i := 41) rfl) rfl
theorem ml12_271 : Cond.methodLink RX12 271 yX12_isKept ∈ pWW := pw8 (List.mem_of_getElem? (i := 181) rfl) rfl
theorem dX12_put_0 : decode cX12_put 0 = .ok (.aload_n 0, 1) := by decide +kernel
theorem dX12_put_1 : decode cX12_put 1 = .ok (.getfield 278, 3) := by decide +kernel
theorem dX12_put_4 : decode cX12_put 4 = .ok (.istore 4, 2) := by decide +kernel
theorem dX12_put_6 : decode cX12_put 6 = .ok (.aload_n 0, 1) := by decide +kernel
theorem dX12_put_7 : decode cX12_put 7 = .ok (.dup, 1) := by decide +kernel
theorem dX12_put_8 : decode cX12_put 8 = .ok (.getfield 278, 3) := by decide +kernel
theorem dX12_put_11 : decode cX12_put 11 = .ok (.iconst 1, 1) := by decide +kernel
theorem dX12_put_12 : decode cX12_put 12 = .ok (.iadd, 1) := by decide +kernel
theorem dX12_put_13 : decode cX12_put 13 = .ok (.putfield 278, 3) := by decide +kernel
theorem dX12_put_16 : decode cX12_put 16 = .ok (.aload_n 0, 1) := by decide +kernel
theorem dX12_put_17 : decode cX12_put 17 = .ok (.getfield 255, 3) := by decide +kernel
theorem dX12_put_20 : decode cX12_put 20 = .ok (.iconst 3, 1) := by decide +kernel
theorem dX12_put_21 : decode cX12_put 21 = .ok (.if_icmp .ne 31, 3) := by decide +kernel
theorem dX12_put_52 : decode cX12_put 52 = .ok (.sipush 2640, 3) := by decide +kernel
theorem dX12_put_55 : decode cX12_put 55 = .ok (.istore 5, 2) := by decide +kernel
theorem dX12_put_57 : decode cX12_put 57 = .ok (.aload_n 0, 1) := by decide +kernel
theorem dX12_put_58 : decode cX12_put 58 = .ok (.iload 5, 2) := by decide +kernel
theorem dX12_put_60 : decode cX12_put 60 = .ok (.iload_n 1, 1) := by decide +kernel
theorem dX12_put_61 : decode cX12_put 61 = .ok (.iload_n 2, 1) := by decide +kernel
theorem dX12_put_62 : decode cX12_put 62 = .ok (.iload_n 3, 1) := by decide +kernel
theorem dX12_put_63 : decode cX12_put 63 = .ok (.invokevirtual 281, 3) := by decide +kernel
theorem dX12_put_66 : decode cX12_put 66 = .ok (.iload 5, 2) := by decide +kernel
theorem dX12_put_68 : decode cX12_put 68 = .ok (.ireturn, 1) := by decide +kernel
theorem dX12_put_24 : decode cX12_put 24 = .ok (.iload 4, 2) := by decide +kernel
theorem dX12_put_26 : decode cX12_put 26 = .ok (.sipush 220, 3) := by decide +kernel
theorem dX12_put_29 : decode cX12_put 29 = .ok (.if_icmp .ge 23, 3) := by decide +kernel
theorem dX12_put_32 : decode cX12_put 32 = .ok (.aload_n 0, 1) := by decide +kernel
theorem dX12_put_33 : decode cX12_put 33 = .ok (.invokevirtual 271, 3) := by decide +kernel
theorem dX12_put_36 : decode cX12_put 36 = .ok (.ifCond .eq 16, 3) := by decide +kernel
theorem dX12_put_39 : decode cX12_put 39 = .ok (.aload_n 0, 1) := by decide +kernel
theorem dX12_put_40 : decode cX12_put 40 = .ok (.aload_n 0, 1) := by decide +kernel
theorem dX12_put_41 : decode cX12_put 41 = .ok (.getfield 268, 3) := by decide +kernel
theorem dX12_put_44 : decode cX12_put 44 = .ok (.iload 4, 2) := by decide +kernel
theorem dX12_put_46 : decode cX12_put 46 = .ok (.invokevirtual 203, 3) := by decide +kernel
theorem dX12_put_49 : decode cX12_put 49 = .ok (.goto 6, 3) := by decide +kernel
set_option maxHeartbeats 4000000 in
set_option maxRecDepth 20000 in
theorem c_X12_put (d : Nat) {b : Nat} {σ : MS} {k : Int} {e : Int} {o : Int} (hR : RG σ) (hph : (0 ≤ σ.1 30 ∧ σ.1 30 ≤ 2000) ∧ (0 ≤ σ.1 34 ∧ σ.1 34 ≤ 10000)) (h_k : -2147483648 ≤ k ∧ k ≤ 2147483647) (h_e : -2147483648 ≤ e ∧ e ≤ 2147483647) (h_o : -2147483648 ≤ o ∧ o ≤ 2147483647) : Tm (d + 2) m_X12_put 0 b σ [(0, .ref b), (1, .int (iI k)), (2, .int (iI e)), (3, .int (iI o))] [] (fun ro σ2 => ∃ v : Int, ro = some (.int (iI v)) ∧ (Fr [34] [3, 4, 5, 6, 7, 8] [] σ σ2) ∧ (RG σ2) ∧ (v = PXx σ) ∧ (σ2.1 34 = σ.1 34 + 1) ∧ (ITz σ2 v k e o) ∧ (OFF v σ σ2) ∧ (0 ≤ v ∧ v ≤ 2640)) := by
  refine tm_aload_n dX12_put_0 rfl 0 rfl ?_
  refine tm_getS (k := 34) (t := σ.1 34) dX12_put_1 (by decide) fl12_278 rfl (rfl) ?_
  have g1 := RG.s hR 34
  refine tm_istore (L' := [(4, .int (iI (σ.1 34))), (0, .ref b), (1, .int (iI k)), (2, .int (iI e)), (3, .int (iI o))]) dX12_put_4 (by decide) rfl ?_
  refine tm_aload_n dX12_put_6 rfl 1 rfl ?_
  refine tm_dup dX12_put_7 rfl ?_
  refine tm_getS (k := 34) (t := σ.1 34) dX12_put_8 (by decide) fl12_278 rfl (rfl) ?_
  have g2 := RG.s hR 34
  refine tm_iconst dX12_put_11 ?_
  refine tm_iadd dX12_put_12 ?_
  refine tm_putS (k := 34) (v := (σ.1 34) + 1) lay_12 dX12_put_13 (by decide) fl12_278 rfl (tyX12_ok 34 (by decide)) rfl rfl rfl ?_
  refine tm_aload_n dX12_put_16 rfl 1 rfl ?_
  refine tm_getS (k := 25) (t := σ.1 25) dX12_put_17 (by decide) fl12_255 rfl (rs_o (by decide) (rfl)) ?_
  have g3 := RG.s hR 25
  refine tm_iconst dX12_put_20 ?_
  refine tm_icmp_ne (tgt := 52) dX12_put_21 (by decide) ⟨by omega, by omega⟩ ⟨by decide, by decide⟩ (fun h4 => ?_) (fun h4 => ?_)
  · refine tm_sipush dX12_put_52 (by decide) ?_
    refine tm_istore (L' := [(5, .int (iI 2640)), (4, .int (iI (σ.1 34))), (0, .ref b), (1, .int (iI k)), (2, .int (iI e)), (3, .int (iI o))]) dX12_put_55 (by decide) rfl ?_
    refine tm_aload_n dX12_put_57 rfl 2 rfl ?_
    refine tm_iload dX12_put_58 0 rfl ?_
    refine tm_iload_n dX12_put_60 rfl 3 rfl ?_
    refine tm_iload_n dX12_put_61 rfl 4 rfl ?_
    refine tm_iload_n dX12_put_62 rfl 5 rfl ?_
    refine tm_callV (M := m_X12_put) (pc := 63) (ix := 281) (M' := m_X12_setItem) (As := [.int (iI 2640), .int (iI k), .int (iI e), .int (iI o)]) (rest := []) dX12_put_63 ok_X12_setItem im_X12_setItem se_X12_setItem ml12_281 np_X12_setItem rfl rfl (Nat.le_of_ble_eq_true rfl) (Nat.le_of_ble_eq_true rfl) rfl (c_X12_setItem (d) (σ := (sS 34 ((σ.1 34) + 1) σ)) (x := 2640) (k := k) (e := e) (o := o) (by omega)) (fun r5 σ6 hp => ?_)
    obtain ⟨rfl, f8⟩ := hp
    subst f8
    show Tm _ _ 66 b (fItem (2640) (k) (e) (o) (sS 34 ((σ.1 34) + 1) σ)) [(5, .int (iI 2640)), (4, .int (iI (σ.1 34))), (0, .ref b), (1, .int (iI k)), (2, .int (iI e)), (3, .int (iI o))] [] _
    refine tm_iload dX12_put_66 0 rfl ?_
    exact tm_iret rfl dX12_put_68 (⟨_, rfl, ((Fr.rfl.S (by decide)).trans (Fr.sub fItem_fr (by decide) (by decide) (by decide))), (((hR.S (by omega))).item (by omega) (by omega) (by omega)), (if_neg (by omega)).symm, rfl, fItem_at, (fItem_off : OFF _ (sS 34 (σ.1 34 + 1) σ) _), by omega⟩)
  · refine tm_iload dX12_put_24 0 rfl ?_
    refine tm_sipush dX12_put_26 (by decide) ?_
    refine tm_icmp_ge (tgt := 52) dX12_put_29 (by decide) ⟨by omega, by omega⟩ ⟨by decide, by decide⟩ (fun h9 => ?_) (fun h9 => ?_)
    · refine tm_sipush dX12_put_52 (by decide) ?_
      refine tm_istore (L' := [(5, .int (iI 2640)), (4, .int (iI (σ.1 34))), (0, .ref b), (1, .int (iI k)), (2, .int (iI e)), (3, .int (iI o))]) dX12_put_55 (by decide) rfl ?_
      refine tm_aload_n dX12_put_57 rfl 2 rfl ?_
      refine tm_iload dX12_put_58 0 rfl ?_
      refine tm_iload_n dX12_put_60 rfl 3 rfl ?_
      refine tm_iload_n dX12_put_61 rfl 4 rfl ?_
      refine tm_iload_n dX12_put_62 rfl 5 rfl ?_
      refine tm_callV (M := m_X12_put) (pc := 63) (ix := 281) (M' := m_X12_setItem) (As := [.int (iI 2640), .int (iI k), .int (iI e), .int (iI o)]) (rest := []) dX12_put_63 ok_X12_setItem im_X12_setItem se_X12_setItem ml12_281 np_X12_setItem rfl rfl (Nat.le_of_ble_eq_true rfl) (Nat.le_of_ble_eq_true rfl) rfl (c_X12_setItem (d) (σ := (sS 34 ((σ.1 34) + 1) σ)) (x := 2640) (k := k) (e := e) (o := o) (by omega)) (fun r10 σ11 hp => ?_)
      obtain ⟨rfl, f13⟩ := hp
      subst f13
      show Tm _ _ 66 b (fItem (2640) (k) (e) (o) (sS 34 ((σ.1 34) + 1) σ)) [(5, .int (iI 2640)), (4, .int (iI (σ.1 34))), (0, .ref b), (1, .int (iI k)), (2, .int (iI e)), (3, .int (iI o))] [] _
      refine tm_iload dX12_put_66 0 rfl ?_
      exact tm_iret rfl dX12_put_68 (⟨_, rfl, ((Fr.rfl.S (by decide)).trans (Fr.sub fItem_fr (by decide) (by decide) (by decide))), (((hR.S (by omega))).item (by omega) (by omega) (by omega)), (if_neg (by omega)).symm, rfl, fItem_at, (fItem_off : OFF _ (sS 34 (σ.1 34 + 1) σ) _), by omega⟩)
    · refine tm_aload_n dX12_put_32 rfl 1 rfl ?_
      refine tm_callV (M := m_X12_put) (pc := 33) (ix := 271) (M' := m_X12_isKept) (As := []) (rest := []) dX12_put_33 ok_X12_isKept im_X12_isKept se_X12_isKept ml12_271 np_X12_isKept rfl rfl (Nat.le_of_ble_eq_true rfl) (Nat.le_of_ble_eq_true rfl) rfl (c_X12_isKept (d) (σ := (sS 34 ((σ.1 34) + 1) σ))  (hR.S (by omega))) (fun r14 σ15 hp => ?_)
      obtain ⟨v16, rfl, rfl, f17, f18⟩ := hp
      show Tm _ _ 36 b (sS 34 ((σ.1 34) + 1) σ) [(4, .int (iI (σ.1 34))), (0, .ref b), (1, .int (iI k)), (2, .int (iI e)), (3, .int (iI o))] [.int (iI v16)] _
      have e30 : (sS 34 ((σ.1 34) + 1) σ).1 30 = σ.1 30 := rfl
      refine tm_if_eq (tgt := 52) dX12_put_36 (by decide) ⟨by omega, by omega⟩ (fun h19 => ?_) (fun h19 => ?_)
      · refine tm_sipush dX12_put_52 (by decide) ?_
        refine tm_istore (L' := [(5, .int (iI 2640)), (4, .int (iI (σ.1 34))), (0, .ref b), (1, .int (iI k)), (2, .int (iI e)), (3, .int (iI o))]) dX12_put_55 (by decide) rfl ?_
        refine tm_aload_n dX12_put_57 rfl 2 rfl ?_
        refine tm_iload dX12_put_58 0 rfl ?_
        refine tm_iload_n dX12_put_60 rfl 3 rfl ?_
        refine tm_iload_n dX12_put_61 rfl 4 rfl ?_
        refine tm_iload_n dX12_put_62 rfl 5 rfl ?_
        refine tm_callV (M := m_X12_put) (pc := 63) (ix := 281) (M' := m_X12_setItem) (As := [.int (iI 2640), .int (iI k), .int (iI e), .int (iI o)]) (rest := []) dX12_put_63 ok_X12_setItem im_X12_setItem se_X12_setItem ml12_281 np_X12_setItem rfl rfl (Nat.le_of_ble_eq_true rfl) (Nat.le_of_ble_eq_true rfl) rfl (c_X12_setItem (d) (σ := (sS 34 ((σ.1 34) + 1) σ)) (x := 2640) (k := k) (e := e) (o := o) (by omega)) (fun r20 σ21 hp => ?_)
        obtain ⟨rfl, f23⟩ := hp
        subst f23
        show Tm _ _ 66 b (fItem (2640) (k) (e) (o) (sS 34 ((σ.1 34) + 1) σ)) [(5, .int (iI 2640)), (4, .int (iI (σ.1 34))), (0, .ref b), (1, .int (iI k)), (2, .int (iI e)), (3, .int (iI o))] [] _
        refine tm_iload dX12_put_66 0 rfl ?_
        exact tm_iret rfl dX12_put_68 (⟨_, rfl, ((Fr.rfl.S (by decide)).trans (Fr.sub fItem_fr (by decide) (by decide) (by decide))), (((hR.S (by omega))).item (by omega) (by omega) (by omega)), (if_neg (by omega)).symm, rfl, fItem_at, (fItem_off : OFF _ (sS 34 (σ.1 34 + 1) σ) _), by omega⟩)
      · refine tm_aload_n dX12_put_39 rfl 1 rfl ?_
        refine tm_aload_n dX12_put_40 rfl 1 rfl ?_
        refine tm_getS (k := 30) (t := σ.1 30) dX12_put_41 (by decide) fl12_268 rfl (rs_o (by decide) (rfl)) ?_
        have g24 := RG.s hR 30
        refine tm_iload dX12_put_44 0 rfl ?_
        refine tm_callV (M := m_X12_put) (pc := 46) (ix := 203) (M' := m_X12_at) (As := [.int (iI (σ.1 30)), .int (iI (σ.1 34))]) (rest := []) dX12_put_46 ok_X12_at im_X12_at se_X12_at ml12_203 np_X12_at rfl rfl (Nat.le_of_ble_eq_true rfl) (Nat.le_of_ble_eq_true rfl) rfl (c_X12_at (d) (σ := (sS 34 ((σ.1 34) + 1) σ)) (x := σ.1 30) (k := σ.1 34) ) (fun r25 σ26 hp => ?_)
        obtain ⟨v27, rfl, rfl, f28⟩ := hp
        subst f28
        show Tm _ _ 49 b (sS 34 ((σ.1 34) + 1) σ) [(4, .int (iI (σ.1 34))), (0, .ref b), (1, .int (iI k)), (2, .int (iI e)), (3, .int (iI o))] [.int (iI (220 * (σ.1 30) + (σ.1 34)))] _
        refine tm_goto (tgt := 55) dX12_put_49 (by decide) ?_
        refine tm_istore (L' := [(5, .int (iI (220 * (σ.1 30) + (σ.1 34)))), (4, .int (iI (σ.1 34))), (0, .ref b), (1, .int (iI k)), (2, .int (iI e)), (3, .int (iI o))]) dX12_put_55 (by decide) rfl ?_
        refine tm_aload_n dX12_put_57 rfl 2 rfl ?_
        refine tm_iload dX12_put_58 0 rfl ?_
        refine tm_iload_n dX12_put_60 rfl 3 rfl ?_
        refine tm_iload_n dX12_put_61 rfl 4 rfl ?_
        refine tm_iload_n dX12_put_62 rfl 5 rfl ?_
        refine tm_callV (M := m_X12_put) (pc := 63) (ix := 281) (M' := m_X12_setItem) (As := [.int (iI (220 * (σ.1 30) + (σ.1 34))), .int (iI k), .int (iI e), .int (iI o)]) (rest := []) dX12_put_63 ok_X12_setItem im_X12_setItem se_X12_setItem ml12_281 np_X12_setItem rfl rfl (Nat.le_of_ble_eq_true rfl) (Nat.le_of_ble_eq_true rfl) rfl (c_X12_setItem (d) (σ := (sS 34 ((σ.1 34) + 1) σ)) (x := 220 * (σ.1 30) + (σ.1 34)) (k := k) (e := e) (o := o) (by omega)) (fun r29 σ30 hp => ?_)
        obtain ⟨rfl, f32⟩ := hp
        subst f32
        show Tm _ _ 66 b (fItem (220 * (σ.1 30) + (σ.1 34)) (k) (e) (o) (sS 34 ((σ.1 34) + 1) σ)) [(5, .int (iI (220 * (σ.1 30) + (σ.1 34)))), (4, .int (iI (σ.1 34))), (0, .ref b), (1, .int (iI k)), (2, .int (iI e)), (3, .int (iI o))] [] _
        refine tm_iload dX12_put_66 0 rfl ?_
        exact tm_iret rfl dX12_put_68 (⟨_, rfl, ((Fr.rfl.S (by decide)).trans (Fr.sub fItem_fr (by decide) (by decide) (by decide))), (((hR.S (by omega))).item (by omega) (by omega) (by omega)), (if_pos (by omega)).symm, rfl, fItem_at, (fItem_off : OFF _ (sS 34 (σ.1 34 + 1) σ) _), by omega⟩)
theorem fl12_291 : Cond.fieldLink RX12 291 (TX12 32).1 (TX12 32).2.1 (TX12 32).2.2.1 ∈ pWW := pw7 (List.mem_of_getElem? (i := 39) rfl) rfl
theorem ml12_294 : Cond.methodLink RX12 294 yX12_put ∈ pWW := pw8 (List.mem_of_getElem? (i := 205) rfl) rfl
theorem ml12_301 : Cond.methodLink RX12 301 yX12_give ∈ pWW := pw8 (List.mem_of_getElem? (i := 233) rfl) rfl
theorem dX12_joins_0 : decode cX12_joins 0 = .ok (.aload_n 0, 1) := by decide +kernel
theorem dX12_joins_1 : decode cX12_joins 1 = .ok (.iload_n 1, 1) := by decide +kernel
theorem dX12_joins_2 : decode cX12_joins 2 = .ok (.aload_n 0, 1) := by decide +kernel
theorem dX12_joins_3 : decode cX12_joins 3 = .ok (.getfield 291, 3) := by decide +kernel
theorem dX12_joins_6 : decode cX12_joins 6 = .ok (.iconst 0, 1) := by decide +kernel
theorem dX12_joins_7 : decode cX12_joins 7 = .ok (.invokevirtual 294, 3) := by decide +kernel
theorem dX12_joins_10 : decode cX12_joins 10 = .ok (.istore 6, 2) := by decide +kernel
theorem dX12_joins_12 : decode cX12_joins 12 = .ok (.aload_n 0, 1) := by decide +kernel
theorem dX12_joins_13 : decode cX12_joins 13 = .ok (.iload 6, 2) := by decide +kernel
theorem dX12_joins_15 : decode cX12_joins 15 = .ok (.iconst 0, 1) := by decide +kernel
theorem dX12_joins_16 : decode cX12_joins 16 = .ok (.iload_n 2, 1) := by decide +kernel
theorem dX12_joins_17 : decode cX12_joins 17 = .ok (.iload_n 3, 1) := by decide +kernel
theorem dX12_joins_18 : decode cX12_joins 18 = .ok (.invokevirtual 298, 3) := by decide +kernel
theorem dX12_joins_21 : decode cX12_joins 21 = .ok (.aload_n 0, 1) := by decide +kernel
theorem dX12_joins_22 : decode cX12_joins 22 = .ok (.iload 6, 2) := by decide +kernel
theorem dX12_joins_24 : decode cX12_joins 24 = .ok (.iconst 1, 1) := by decide +kernel
theorem dX12_joins_25 : decode cX12_joins 25 = .ok (.iload 4, 2) := by decide +kernel
theorem dX12_joins_27 : decode cX12_joins 27 = .ok (.iload 5, 2) := by decide +kernel
theorem dX12_joins_29 : decode cX12_joins 29 = .ok (.invokevirtual 298, 3) := by decide +kernel
theorem dX12_joins_32 : decode cX12_joins 32 = .ok (.aload_n 0, 1) := by decide +kernel
theorem dX12_joins_33 : decode cX12_joins 33 = .ok (.iconst 2, 1) := by decide +kernel
theorem dX12_joins_34 : decode cX12_joins 34 = .ok (.aload_n 0, 1) := by decide +kernel
theorem dX12_joins_35 : decode cX12_joins 35 = .ok (.getfield 291, 3) := by decide +kernel
theorem dX12_joins_38 : decode cX12_joins 38 = .ok (.invokevirtual 301, 3) := by decide +kernel
theorem dX12_joins_41 : decode cX12_joins 41 = .ok (.aload_n 0, 1) := by decide +kernel
theorem dX12_joins_42 : decode cX12_joins 42 = .ok (.dup, 1) := by decide +kernel
theorem dX12_joins_43 : decode cX12_joins 43 = .ok (.getfield 291, 3) := by decide +kernel
theorem dX12_joins_46 : decode cX12_joins 46 = .ok (.iconst 1, 1) := by decide +kernel
theorem dX12_joins_47 : decode cX12_joins 47 = .ok (.iadd, 1) := by decide +kernel
theorem dX12_joins_48 : decode cX12_joins 48 = .ok (.putfield 291, 3) := by decide +kernel
theorem dX12_joins_51 : decode cX12_joins 51 = .ok (.return_, 1) := by decide +kernel
set_option maxHeartbeats 4000000 in
set_option maxRecDepth 20000 in
theorem c_X12_joins (d : Nat) {b : Nat} {σ : MS} {k : Int} {ak : Int} {a : Int} {bk : Int} {c : Int} (hR : RG σ) (hph : (0 ≤ σ.1 30 ∧ σ.1 30 ≤ 2000) ∧ (0 ≤ σ.1 34 ∧ σ.1 34 ≤ 10000)) (hk5 : 1 ≤ k ∧ k ≤ 5) (hak : (0 ≤ ak ∧ ak ≤ 2) ∧ (ak = 2 → 0 ≤ a ∧ a < 12 + σ.1 34)) (hbk : (0 ≤ bk ∧ bk ≤ 2) ∧ (bk = 2 → 0 ≤ c ∧ c < 12 + σ.1 34)) (h32 : 0 ≤ σ.1 32 ∧ σ.1 32 ≤ 12 + σ.1 34) (h_a : -2147483648 ≤ a ∧ a ≤ 2147483647) (h_c : -2147483648 ≤ c ∧ c ≤ 2147483647) : Tm (d + 3) m_X12_joins 0 b σ [(0, .ref b), (1, .int (iI k)), (2, .int (iI ak)), (3, .int (iI a)), (4, .int (iI bk)), (5, .int (iI c))] [] (fun ro σ2 => ro = none ∧ (Fr [32, 34, 39, 40] [3, 4, 5, 6, 7, 8] [] σ σ2) ∧ (RG σ2) ∧ (σ2.1 34 = σ.1 34 + 1 ∧ σ2.1 32 = σ.1 32 + 1 ∧ σ2.1 39 = 2 ∧ σ2.1 40 = σ.1 32) ∧ (OFF (PXx σ) σ σ2) ∧ (ACI σ2 (13 + σ.1 34) (PXx σ))) := by
  refine tm_aload_n dX12_joins_0 rfl 0 rfl ?_
  refine tm_iload_n dX12_joins_1 rfl 1 rfl ?_
  refine tm_aload_n dX12_joins_2 rfl 0 rfl ?_
  refine tm_getS (k := 32) (t := σ.1 32) dX12_joins_3 (by decide) fl12_291 rfl (rfl) ?_
  have g1 := RG.s hR 32
  refine tm_iconst dX12_joins_6 ?_
  refine tm_callV (M := m_X12_joins) (pc := 7) (ix := 294) (M' := m_X12_put) (As := [.int (iI k), .int (iI (σ.1 32)), .int (iI 0)]) (rest := []) dX12_joins_7 ok_X12_put im_X12_put se_X12_put ml12_294 np_X12_put rfl rfl (Nat.le_of_ble_eq_true rfl) (Nat.le_of_ble_eq_true rfl) rfl (c_X12_put (d) (σ := σ) (k := k) (e := σ.1 32) (o := 0) hR hph (by omega) (by omega) (by omega)) (fun r2 σ3 hp => ?_)
  obtain ⟨v4, rfl, f5, f6, f7, f8, f9, f10, f11⟩ := hp
  show Tm _ _ 10 b σ3 [(0, .ref b), (1, .int (iI k)), (2, .int (iI ak)), (3, .int (iI a)), (4, .int (iI bk)), (5, .int (iI c))] [.int (iI v4)] _
  have jv := f7
  have j34 := f8
  have ji := f9
  have jo := f10
  have jr := f11
  refine tm_istore (L' := [(6, .int (iI v4)), (0, .ref b), (1, .int (iI k)), (2, .int (iI ak)), (3, .int (iI a)), (4, .int (iI bk)), (5, .int (iI c))]) dX12_joins_10 (by decide) rfl ?_
  refine tm_aload_n dX12_joins_12 rfl 1 rfl ?_
  refine tm_iload dX12_joins_13 0 rfl ?_
  refine tm_iconst dX12_joins_15 ?_
  refine tm_iload_n dX12_joins_16 rfl 3 rfl ?_
  refine tm_iload_n dX12_joins_17 rfl 4 rfl ?_
  refine tm_callV (M := m_X12_joins) (pc := 18) (ix := 298) (M' := m_X12_setArg) (As := [.int (iI v4), .int (iI 0), .int (iI ak), .int (iI a)]) (rest := []) dX12_joins_18 ok_X12_setArg im_X12_setArg se_X12_setArg ml12_298 np_X12_setArg rfl rfl (Nat.le_of_ble_eq_true rfl) (Nat.le_of_ble_eq_true rfl) rfl (c_X12_setArg (d + 1) (σ := σ3) (x := v4) (i := 0) (k := ak) (w := a) (by omega)) (fun r12 σ13 hp => ?_)
  obtain ⟨rfl, f15⟩ := hp
  subst f15
  show Tm _ _ 21 b (fArg (v4) (0) (ak) (a) σ3) [(6, .int (iI v4)), (0, .ref b), (1, .int (iI k)), (2, .int (iI ak)), (3, .int (iI a)), (4, .int (iI bk)), (5, .int (iI c))] [] _
  refine tm_aload_n dX12_joins_21 rfl 1 rfl ?_
  refine tm_iload dX12_joins_22 0 rfl ?_
  refine tm_iconst dX12_joins_24 ?_
  refine tm_iload dX12_joins_25 5 rfl ?_
  refine tm_iload dX12_joins_27 6 rfl ?_
  refine tm_callV (M := m_X12_joins) (pc := 29) (ix := 298) (M' := m_X12_setArg) (As := [.int (iI v4), .int (iI 1), .int (iI bk), .int (iI c)]) (rest := []) dX12_joins_29 ok_X12_setArg im_X12_setArg se_X12_setArg ml12_298 np_X12_setArg rfl rfl (Nat.le_of_ble_eq_true rfl) (Nat.le_of_ble_eq_true rfl) rfl (c_X12_setArg (d + 1) (σ := (fArg (v4) (0) (ak) (a) σ3)) (x := v4) (i := 1) (k := bk) (w := c) (by omega)) (fun r16 σ17 hp => ?_)
  obtain ⟨rfl, f19⟩ := hp
  subst f19
  show Tm _ _ 32 b (fArg (v4) (1) (bk) (c) (fArg (v4) (0) (ak) (a) σ3)) [(6, .int (iI v4)), (0, .ref b), (1, .int (iI k)), (2, .int (iI ak)), (3, .int (iI a)), (4, .int (iI bk)), (5, .int (iI c))] [] _
  refine tm_aload_n dX12_joins_32 rfl 1 rfl ?_
  refine tm_iconst dX12_joins_33 ?_
  refine tm_aload_n dX12_joins_34 rfl 1 rfl ?_
  refine tm_getS (k := 32) (t := σ.1 32) dX12_joins_35 (by decide) fl12_291 rfl (rs_F fArg_fr (by decide) (rs_F fArg_fr (by decide) (rs_F f5 (by decide) (rfl)))) ?_
  have g20 := RG.s hR 32
  refine tm_callV (M := m_X12_joins) (pc := 38) (ix := 301) (M' := m_X12_give) (As := [.int (iI 2), .int (iI (σ.1 32))]) (rest := []) dX12_joins_38 ok_X12_give im_X12_give se_X12_give ml12_301 np_X12_give rfl rfl (Nat.le_of_ble_eq_true rfl) (Nat.le_of_ble_eq_true rfl) rfl (c2_X12_give (d + 1) (σ := (fArg (v4) (1) (bk) (c) (fArg (v4) (0) (ak) (a) σ3))) (k := 2) (w := σ.1 32) ((((f6).arg (by omega) (by omega))).arg (by omega) (by omega)) (by omega) (by omega)) (fun r21 σ22 hp => ?_)
  obtain ⟨rfl, f24, f25, f26⟩ := hp
  show Tm _ _ 41 b σ22 [(6, .int (iI v4)), (0, .ref b), (1, .int (iI k)), (2, .int (iI ak)), (3, .int (iI a)), (4, .int (iI bk)), (5, .int (iI c))] [] _
  have jg := f26
  refine tm_aload_n dX12_joins_41 rfl 1 rfl ?_
  refine tm_dup dX12_joins_42 rfl ?_
  refine tm_getS (k := 32) (t := σ.1 32) dX12_joins_43 (by decide) fl12_291 rfl (rs_F f24 (by decide) (rs_F fArg_fr (by decide) (rs_F fArg_fr (by decide) (rs_F f5 (by decide) (rfl))))) ?_
  have g27 := RG.s hR 32
  refine tm_iconst dX12_joins_46 ?_
  refine tm_iadd dX12_joins_47 ?_
  refine tm_putS (k := 32) (v := (σ.1 32) + 1) lay_12 dX12_joins_48 (by decide) fl12_291 rfl (tyX12_ok 32 (by decide)) rfl rfl rfl ?_
  exact tm_vret rfl dX12_joins_51 (⟨rfl, (((((Fr.rfl.trans (Fr.sub f5 (by decide) (by decide) (by decide))).trans (Fr.sub fArg_fr (by decide) (by decide) (by decide))).trans (Fr.sub fArg_fr (by decide) (by decide) (by decide))).trans (Fr.sub f24 (by decide) (by decide) (by decide))).S (by decide)), (f25.S (by omega)), by rw [show (sS 32 ((σ.1 32) + 1) σ22).1 34 = σ3.1 34 from rs_o (by decide) (rs_F f24 (by decide) (rs_F fArg_fr (by decide) (rs_F fArg_fr (by decide) (rfl)))), show (sS 32 ((σ.1 32) + 1) σ22).1 32 = (σ.1 32) + 1 from rs_eq, show (sS 32 ((σ.1 32) + 1) σ22).1 39 = σ22.1 39 from rs_o (by decide) (rfl), show (sS 32 ((σ.1 32) + 1) σ22).1 40 = σ22.1 40 from rs_o (by decide) (rfl)]; omega, by rw [← jv]; exact ((jo.trans (OFF.arg (by decide) (by decide))).trans (OFF.arg (by decide) (by decide))).fr (show Fr [32, 39, 40] [] [] (fArg (v4) (1) (bk) (c) (fArg (v4) (0) (ak) (a) σ3)) (sS 32 ((σ.1 32) + 1) σ22) from ((Fr.rfl.trans (Fr.sub f24 (by decide) (by decide) (by decide))).S (by decide))) (by decide), by rw [← jv]; exact (ACI.mk (B := 13 + σ.1 34) ji (by omega) (by omega) (by omega) (by omega)).mv (IEQ.of (show Fr [32, 39, 40] [] [] (fArg (v4) (1) (bk) (c) (fArg (v4) (0) (ak) (a) σ3)) (sS 32 ((σ.1 32) + 1) σ22) from ((Fr.rfl.trans (Fr.sub f24 (by decide) (by decide) (by decide))).S (by decide))) (by decide)) (Int.le_refl _)⟩)
end
section
set_option maxHeartbeats 4000000 in
set_option maxRecDepth 20000 in
theorem c2_X12_isSign (d : Nat) {b : Nat} {σ : MS} {c : Int} (hR : RG σ) (h_c : -2147483648 ≤ c ∧ c ≤ 2147483647) : Tm (d + 1) m_X12_isSign 0 b σ [(0, .ref b), (1, .int (iI c))] [] (fun ro σ2 => ∃ v : Int, ro = some (.int (iI v)) ∧ σ = σ2 ∧ ((v = 0 ∨ v = 1)) ∧ (Im v 1 (SG σ c)) ∧ (Im v 0 (¬ SG σ c))) := by
  refine tm_aload_n dX12_isSign_0 rfl 0 rfl ?_
  refine tm_getS (k := 22) (t := σ.1 22) dX12_isSign_1 (by decide) fl12_226 rfl (rfl) ?_
  have g1 := RG.s hR 22
  refine tm_iconst dX12_isSign_4 ?_
  refine tm_icmp_ne (tgt := 20) dX12_isSign_5 (by decide) ⟨by omega, by omega⟩ ⟨by decide, by decide⟩ (fun h2 => ?_) (fun h2 => ?_)
  · refine tm_iconst dX12_isSign_20 ?_
    exact tm_zret (v := 0) rfl (by decide) dX12_isSign_21 (⟨_, rfl, rfl, by omega, fun _ => by unfold SG; omega, fun _ => by unfold SG; omega⟩)
  · refine tm_aload_n dX12_isSign_8 rfl 0 rfl ?_
    refine tm_getS (k := 23) (t := σ.1 23) dX12_isSign_9 (by decide) fl12_223 rfl (rfl) ?_
    have g3 := RG.s hR 23
    refine tm_iload_n dX12_isSign_12 rfl 1 rfl ?_
    refine tm_icmp_ne (tgt := 20) dX12_isSign_13 (by decide) ⟨by omega, by omega⟩ ⟨by omega, by omega⟩ (fun h4 => ?_) (fun h4 => ?_)
    · refine tm_iconst dX12_isSign_20 ?_
      exact tm_zret (v := 0) rfl (by decide) dX12_isSign_21 (⟨_, rfl, rfl, by omega, fun _ => by unfold SG; omega, fun _ => by unfold SG; omega⟩)
    · refine tm_iconst dX12_isSign_16 ?_
      refine tm_goto (tgt := 21) dX12_isSign_17 (by decide) ?_
      exact tm_zret (v := 1) rfl (by decide) dX12_isSign_21 (⟨_, rfl, rfl, by omega, fun _ => by unfold SG; omega, fun _ => by unfold SG; omega⟩)
set_option maxHeartbeats 4000000 in
set_option maxRecDepth 20000 in
theorem c2_X12_isWord (d : Nat) {b : Nat} {σ : MS} {w : Int64} (hR : RG σ) : Tm (d + 1) m_X12_isWord 0 b σ [(0, .ref b), (1, .long (w))] [] (fun ro σ2 => ∃ v : Int, ro = some (.int (iI v)) ∧ σ = σ2 ∧ ((v = 0 ∨ v = 1)) ∧ (Im v 1 (WD σ w)) ∧ (Im v 0 (¬ WD σ w))) := by
  refine tm_aload_n dX12_isWord_0 rfl 0 rfl ?_
  refine tm_getS (k := 22) (t := σ.1 22) dX12_isWord_1 (by decide) fl12_226 rfl (rfl) ?_
  have g1 := RG.s hR 22
  refine tm_iconst dX12_isWord_4 ?_
  refine tm_icmp_ne (tgt := 21) dX12_isWord_5 (by decide) ⟨by omega, by omega⟩ ⟨by decide, by decide⟩ (fun h2 => ?_) (fun h2 => ?_)
  · refine tm_iconst dX12_isWord_21 ?_
    exact tm_zret (v := 0) rfl (by decide) dX12_isWord_22 (⟨_, rfl, rfl, by omega, fun _ => by simp [WD, *] at *, fun _ => by simp [WD, *] at *⟩)
  · refine tm_aload_n dX12_isWord_8 rfl 0 rfl ?_
    refine tm_getW (t := σ.2.2 24 0) dX12_isWord_9 fl12_219 (rfl) ?_
    refine tm_lload_n dX12_isWord_12 rfl 1 rfl ?_
    refine tm_lcmp dX12_isWord_13 ?_
    have g3 := lcI_b (σ.2.2 24 0) (w)
    refine tm_if_ne (tgt := 21) dX12_isWord_14 (by decide) ⟨by omega, by omega⟩ (fun h4 => ?_) (fun h4 => ?_)
    · have h4e : ¬ (σ.2.2 24 0) = (w) := fun q => h4 (lcI_0.mpr q)
      refine tm_iconst dX12_isWord_21 ?_
      exact tm_zret (v := 0) rfl (by decide) dX12_isWord_22 (⟨_, rfl, rfl, by omega, fun _ => by simp [WD, *] at *, fun _ => by simp [WD, *] at *⟩)
    · have h4e := lcI_0.mp h4
      refine tm_iconst dX12_isWord_17 ?_
      refine tm_goto (tgt := 22) dX12_isWord_18 (by decide) ?_
      exact tm_zret (v := 1) rfl (by decide) dX12_isWord_22 (⟨_, rfl, rfl, by omega, fun _ => by simp [WD, *] at *, fun _ => by simp [WD, *] at *⟩)
set_option maxHeartbeats 4000000 in
set_option maxRecDepth 20000 in
theorem c2_X12_isName (d : Nat) {b : Nat} {σ : MS} (hR : RG σ) : Tm (d + 1) m_X12_isName 0 b σ [(0, .ref b)] [] (fun ro σ2 => ∃ v : Int, ro = some (.int (iI v)) ∧ σ = σ2 ∧ ((v = 0 ∨ v = 1)) ∧ (Im v 1 (NMW σ)) ∧ (Im v 0 (¬ NMW σ))) := by
  refine tm_aload_n dX12_isName_0 rfl 0 rfl ?_
  refine tm_getS (k := 22) (t := σ.1 22) dX12_isName_1 (by decide) fl12_226 rfl (rfl) ?_
  have g1 := RG.s hR 22
  refine tm_iconst dX12_isName_4 ?_
  refine tm_icmp_ne (tgt := 67) dX12_isName_5 (by decide) ⟨by omega, by omega⟩ ⟨by decide, by decide⟩ (fun h2 => ?_) (fun h2 => ?_)
  · refine tm_iconst dX12_isName_67 ?_
    exact tm_zret (v := 0) rfl (by decide) dX12_isName_68 (⟨_, rfl, rfl, by omega, fun _ => by simp [NMW, *] at *, fun _ => by simp [NMW, *] at *⟩)
  · refine tm_aload_n dX12_isName_8 rfl 0 rfl ?_
    refine tm_getW (t := σ.2.2 24 0) dX12_isName_9 fl12_219 (rfl) ?_
    refine tm_ldc2 dX12_isName_12 cst12_242 ?_
    refine tm_lcmp dX12_isName_15 ?_
    have g3 := lcI_b (σ.2.2 24 0) (7304564)
    refine tm_if_eq (tgt := 67) dX12_isName_16 (by decide) ⟨by omega, by omega⟩ (fun h4 => ?_) (fun h4 => ?_)
    · have h4e := lcI_0.mp h4
      refine tm_iconst dX12_isName_67 ?_
      exact tm_zret (v := 0) rfl (by decide) dX12_isName_68 (⟨_, rfl, rfl, by omega, fun _ => by simp [NMW, *] at *, fun _ => by simp [NMW, *] at *⟩)
    · have h4e : ¬ (σ.2.2 24 0) = (7304564) := fun q => h4 (lcI_0.mpr q)
      refine tm_aload_n dX12_isName_19 rfl 0 rfl ?_
      refine tm_getW (t := σ.2.2 24 0) dX12_isName_20 fl12_219 (rfl) ?_
      refine tm_ldc2 dX12_isName_23 cst12_244 ?_
      refine tm_lcmp dX12_isName_26 ?_
      have g5 := lcI_b (σ.2.2 24 0) (125780071117422)
      refine tm_if_eq (tgt := 67) dX12_isName_27 (by decide) ⟨by omega, by omega⟩ (fun h6 => ?_) (fun h6 => ?_)
      · have h6e := lcI_0.mp h6
        refine tm_iconst dX12_isName_67 ?_
        exact tm_zret (v := 0) rfl (by decide) dX12_isName_68 (⟨_, rfl, rfl, by omega, fun _ => by simp [NMW, *] at *, fun _ => by simp [NMW, *] at *⟩)
      · have h6e : ¬ (σ.2.2 24 0) = (125780071117422) := fun q => h6 (lcI_0.mpr q)
        refine tm_aload_n dX12_isName_30 rfl 0 rfl ?_
        refine tm_getW (t := σ.2.2 24 0) dX12_isName_31 fl12_219 (rfl) ?_
        refine tm_ldc2 dX12_isName_34 cst12_246 ?_
        refine tm_lcmp dX12_isName_37 ?_
        have g7 := lcI_b (σ.2.2 24 0) (26982)
        refine tm_if_eq (tgt := 67) dX12_isName_38 (by decide) ⟨by omega, by omega⟩ (fun h8 => ?_) (fun h8 => ?_)
        · have h8e := lcI_0.mp h8
          refine tm_iconst dX12_isName_67 ?_
          exact tm_zret (v := 0) rfl (by decide) dX12_isName_68 (⟨_, rfl, rfl, by omega, fun _ => by simp [NMW, *] at *, fun _ => by simp [NMW, *] at *⟩)
        · have h8e : ¬ (σ.2.2 24 0) = (26982) := fun q => h8 (lcI_0.mpr q)
          refine tm_aload_n dX12_isName_41 rfl 0 rfl ?_
          refine tm_getW (t := σ.2.2 24 0) dX12_isName_42 fl12_219 (rfl) ?_
          refine tm_ldc2 dX12_isName_45 cst12_248 ?_
          refine tm_lcmp dX12_isName_48 ?_
          have g9 := lcI_b (σ.2.2 24 0) (1701606245)
          refine tm_if_eq (tgt := 67) dX12_isName_49 (by decide) ⟨by omega, by omega⟩ (fun h10 => ?_) (fun h10 => ?_)
          · have h10e := lcI_0.mp h10
            refine tm_iconst dX12_isName_67 ?_
            exact tm_zret (v := 0) rfl (by decide) dX12_isName_68 (⟨_, rfl, rfl, by omega, fun _ => by simp [NMW, *] at *, fun _ => by simp [NMW, *] at *⟩)
          · have h10e : ¬ (σ.2.2 24 0) = (1701606245) := fun q => h10 (lcI_0.mpr q)
            refine tm_aload_n dX12_isName_52 rfl 0 rfl ?_
            refine tm_getW (t := σ.2.2 24 0) dX12_isName_53 fl12_219 (rfl) ?_
            refine tm_ldc2 dX12_isName_56 cst12_250 ?_
            refine tm_lcmp dX12_isName_59 ?_
            have g11 := lcI_b (σ.2.2 24 0) (512852847717)
            refine tm_if_eq (tgt := 67) dX12_isName_60 (by decide) ⟨by omega, by omega⟩ (fun h12 => ?_) (fun h12 => ?_)
            · have h12e := lcI_0.mp h12
              refine tm_iconst dX12_isName_67 ?_
              exact tm_zret (v := 0) rfl (by decide) dX12_isName_68 (⟨_, rfl, rfl, by omega, fun _ => by simp [NMW, *] at *, fun _ => by simp [NMW, *] at *⟩)
            · have h12e : ¬ (σ.2.2 24 0) = (512852847717) := fun q => h12 (lcI_0.mpr q)
              refine tm_iconst dX12_isName_63 ?_
              refine tm_goto (tgt := 68) dX12_isName_64 (by decide) ?_
              exact tm_zret (v := 1) rfl (by decide) dX12_isName_68 (⟨_, rfl, rfl, by omega, fun _ => by simp [NMW, *] at *, fun _ => by simp [NMW, *] at *⟩)
theorem fl12_63 : Cond.fieldLink RX12 63 (TX12 35).1 (TX12 35).2.1 (TX12 35).2.2.1 ∈ pWW := pw7 (List.mem_of_getElem? (i := 42) rfl) rfl
theorem fl12_72 : Cond.fieldLink RX12 72 (TX12 38).1 (TX12 38).2.1 (TX12 38).2.2.1 ∈ pWW := pw7 (List.mem_of_getElem? (i := 45) rfl) rfl
theorem dX12_nameOf_12 : decode cX12_nameOf 12 = .ok (.iload 4, 2) := by decide +kernel
theorem dX12_nameOf_14 : decode cX12_nameOf 14 = .ok (.aload_n 0, 1) := by decide +kernel
theorem dX12_nameOf_15 : decode cX12_nameOf 15 = .ok (.getfield 63, 3) := by decide +kernel
theorem dX12_nameOf_18 : decode cX12_nameOf 18 = .ok (.aload_n 0, 1) := by decide +kernel
theorem dX12_nameOf_19 : decode cX12_nameOf 19 = .ok (.getfield 268, 3) := by decide +kernel
theorem dX12_nameOf_22 : decode cX12_nameOf 22 = .ok (.iaload, 1) := by decide +kernel
theorem dX12_nameOf_23 : decode cX12_nameOf 23 = .ok (.if_icmp .ge 32, 3) := by decide +kernel
theorem dX12_nameOf_26 : decode cX12_nameOf 26 = .ok (.aload_n 0, 1) := by decide +kernel
theorem dX12_nameOf_27 : decode cX12_nameOf 27 = .ok (.getfield 72, 3) := by decide +kernel
theorem dX12_nameOf_30 : decode cX12_nameOf 30 = .ok (.bipush 12, 2) := by decide +kernel
theorem dX12_nameOf_32 : decode cX12_nameOf 32 = .ok (.aload_n 0, 1) := by decide +kernel
theorem dX12_nameOf_33 : decode cX12_nameOf 33 = .ok (.getfield 268, 3) := by decide +kernel
theorem dX12_nameOf_36 : decode cX12_nameOf 36 = .ok (.imul, 1) := by decide +kernel
theorem dX12_nameOf_37 : decode cX12_nameOf 37 = .ok (.iload 4, 2) := by decide +kernel
theorem dX12_nameOf_39 : decode cX12_nameOf 39 = .ok (.iadd, 1) := by decide +kernel
theorem dX12_nameOf_40 : decode cX12_nameOf 40 = .ok (.laload, 1) := by decide +kernel
theorem dX12_nameOf_41 : decode cX12_nameOf 41 = .ok (.lload_n 1, 1) := by decide +kernel
theorem dX12_nameOf_42 : decode cX12_nameOf 42 = .ok (.lcmp, 1) := by decide +kernel
theorem dX12_nameOf_43 : decode cX12_nameOf 43 = .ok (.ifCond .ne 6, 3) := by decide +kernel
theorem dX12_nameOf_49 : decode cX12_nameOf 49 = .ok (.iinc 4 1, 3) := by decide +kernel
theorem dX12_nameOf_52 : decode cX12_nameOf 52 = .ok (.goto (-40), 3) := by decide +kernel
theorem dX12_nameOf_46 : decode cX12_nameOf 46 = .ok (.iload 4, 2) := by decide +kernel
theorem dX12_nameOf_48 : decode cX12_nameOf 48 = .ok (.ireturn, 1) := by decide +kernel
set_option maxHeartbeats 4000000 in
set_option maxRecDepth 20000 in
theorem l_nameOf (d : Nat) {b : Nat} {σ : MS} {w : Int64} {p : Int} {post : Option Value → MS → Prop} (hR : RG σ) (hnn : NN σ) (hr6 : 0 ≤ σ.1 30 ∧ σ.1 30 < 6) (hx_55 : ∀ (i : Int) , (∀ j, 0 ≤ j → j < σ.2.1 35 (σ.1 30) → σ.2.2 38 (12 * σ.1 30 + j) ≠ w) → Tm (d + 2) m_X12_nameOf 55 b σ [(4, .int (iI i)), (0, .ref b), (1, .long (w)), (3, .int (iI p))] [] post) (hr1 : ∀ v, 0 ≤ v → v < 12 → NFD σ w → post (some (.int (iI v))) σ) : ∀ (n : Nat) (i : Int) , (0 ≤ i ∧ i ≤ 12) → (∀ j, 0 ≤ j → j < i → σ.2.2 38 (12 * σ.1 30 + j) ≠ w) → (12 - i).toNat = n → Tm (d + 2) m_X12_nameOf 12 b σ [(4, .int (iI i)), (0, .ref b), (1, .long (w)), (3, .int (iI p))] [] post := by
  intro n
  induction n using Nat.strongRecOn with
  | _ n ih =>
    intro i h0 hnf hm
    have hn1 := hnn (σ.1 30) hr6.1 hr6.2
    refine tm_iload dX12_nameOf_12 0 rfl ?_
    refine tm_aload_n dX12_nameOf_14 rfl 1 rfl ?_
    refine tm_get (k := 35) (v := .ref (b + 1 + 16)) lay_12 dX12_nameOf_15 (by decide) fl12_63 rfl ?_
    refine tm_aload_n dX12_nameOf_18 rfl 1 rfl ?_
    refine tm_getS (k := 30) (t := σ.1 30) dX12_nameOf_19 (by decide) fl12_268 rfl (rfl) ?_
    have g1 := RG.s hR 30
    refine tm_iald (z := σ.1 30) (v := σ.2.1 35 (σ.1 30)) dX12_nameOf_22 (show mT[16]? = some (35, 0, 6) from rfl) (by omega) (by omega) (by decide) (rfl) ?_
    have g2 := RG.a hR 35 (σ.1 30)
    refine tm_icmp_ge (tgt := 55) dX12_nameOf_23 (by decide) ⟨by omega, by omega⟩ ⟨by omega, by omega⟩ (fun h3 => ?_) (fun h3 => ?_)
    · exact tm_sub [0, 1, 2, 3] rfl (hx_55 (i) (fun j a c => hnf j a (by omega)))
    · refine tm_aload_n dX12_nameOf_26 rfl 1 rfl ?_
      refine tm_get (k := 38) (v := .ref (b + 1 + 19)) lay_12 dX12_nameOf_27 (by decide) fl12_72 rfl ?_
      refine tm_bipush dX12_nameOf_30 (by decide) ?_
      refine tm_aload_n dX12_nameOf_32 rfl 1 rfl ?_
      refine tm_getS (k := 30) (t := σ.1 30) dX12_nameOf_33 (by decide) fl12_268 rfl (rfl) ?_
      have g4 := RG.s hR 30
      refine tm_imul dX12_nameOf_36 ?_
      refine tm_iload dX12_nameOf_37 0 rfl ?_
      refine tm_iadd dX12_nameOf_39 ?_
      refine tm_lald (z := (12 * (σ.1 30)) + i) (v := σ.2.2 38 ((12 * (σ.1 30)) + i)) dX12_nameOf_40 (show mT[19]? = some (38, 3, 72) from rfl) (by omega) (by omega) (by decide) (rfl) ?_
      refine tm_lload_n dX12_nameOf_41 rfl 2 rfl ?_
      refine tm_lcmp dX12_nameOf_42 ?_
      have g5 := lcI_b (σ.2.2 38 ((12 * (σ.1 30)) + i)) (w)
      refine tm_if_ne (tgt := 49) dX12_nameOf_43 (by decide) ⟨by omega, by omega⟩ (fun h6 => ?_) (fun h6 => ?_)
      · have h6e : ¬ (σ.2.2 38 ((12 * (σ.1 30)) + i)) = (w) := fun q => h6 (lcI_0.mpr q)
        refine tm_iinc (q0 := 0) (L' := [(4, .int (iI (i + 1))), (0, .ref b), (1, .long (w)), (3, .int (iI p))]) dX12_nameOf_49 rfl (by decide) rfl ?_
        refine tm_goto (tgt := 12) dX12_nameOf_52 (by decide) ?_
        exact tm_sub [0, 1, 2, 3] rfl (ih _ (by omega) (i + 1) (by omega) (fun j a c => (Classical.em (j = i)).elim (fun e y => by subst e; exact absurd y (by assumption)) (fun e => hnf j a (by omega))) rfl)
      · have h6e := lcI_0.mp h6
        refine tm_iload dX12_nameOf_46 0 rfl ?_
        exact tm_iret rfl dX12_nameOf_48 (hr1 _ (by omega) (by omega) ⟨i, h0.1, by omega, lcI_0.mp (by first | assumption | omega)⟩)
theorem ml12_274 : Cond.methodLink RX12 274 yX12_note ∈ pWW := pw8 (List.mem_of_getElem? (i := 165) rfl) rfl
theorem dX12_nameOf_0 : decode cX12_nameOf 0 = .ok (.aload_n 0, 1) := by decide +kernel
theorem dX12_nameOf_1 : decode cX12_nameOf 1 = .ok (.invokevirtual 271, 3) := by decide +kernel
theorem dX12_nameOf_4 : decode cX12_nameOf 4 = .ok (.ifCond .ne 5, 3) := by decide +kernel
theorem dX12_nameOf_9 : decode cX12_nameOf 9 = .ok (.iconst 0, 1) := by decide +kernel
theorem dX12_nameOf_10 : decode cX12_nameOf 10 = .ok (.istore 4, 2) := by decide +kernel
theorem dX12_nameOf_55 : decode cX12_nameOf 55 = .ok (.aload_n 0, 1) := by decide +kernel
theorem dX12_nameOf_56 : decode cX12_nameOf 56 = .ok (.getfield 63, 3) := by decide +kernel
theorem dX12_nameOf_59 : decode cX12_nameOf 59 = .ok (.aload_n 0, 1) := by decide +kernel
theorem dX12_nameOf_60 : decode cX12_nameOf 60 = .ok (.getfield 268, 3) := by decide +kernel
theorem dX12_nameOf_63 : decode cX12_nameOf 63 = .ok (.iaload, 1) := by decide +kernel
theorem dX12_nameOf_64 : decode cX12_nameOf 64 = .ok (.bipush 12, 2) := by decide +kernel
theorem dX12_nameOf_66 : decode cX12_nameOf 66 = .ok (.if_icmp .ne 11, 3) := by decide +kernel
theorem dX12_nameOf_77 : decode cX12_nameOf 77 = .ok (.aload_n 0, 1) := by decide +kernel
theorem dX12_nameOf_78 : decode cX12_nameOf 78 = .ok (.getfield 255, 3) := by decide +kernel
theorem dX12_nameOf_81 : decode cX12_nameOf 81 = .ok (.iconst 1, 1) := by decide +kernel
theorem dX12_nameOf_82 : decode cX12_nameOf 82 = .ok (.if_icmp .ne 39, 3) := by decide +kernel
theorem dX12_nameOf_121 : decode cX12_nameOf 121 = .ok (.iconst 0, 1) := by decide +kernel
theorem dX12_nameOf_122 : decode cX12_nameOf 122 = .ok (.ireturn, 1) := by decide +kernel
theorem dX12_nameOf_85 : decode cX12_nameOf 85 = .ok (.aload_n 0, 1) := by decide +kernel
theorem dX12_nameOf_86 : decode cX12_nameOf 86 = .ok (.getfield 72, 3) := by decide +kernel
theorem dX12_nameOf_89 : decode cX12_nameOf 89 = .ok (.bipush 12, 2) := by decide +kernel
theorem dX12_nameOf_91 : decode cX12_nameOf 91 = .ok (.aload_n 0, 1) := by decide +kernel
theorem dX12_nameOf_92 : decode cX12_nameOf 92 = .ok (.getfield 268, 3) := by decide +kernel
theorem dX12_nameOf_95 : decode cX12_nameOf 95 = .ok (.imul, 1) := by decide +kernel
theorem dX12_nameOf_96 : decode cX12_nameOf 96 = .ok (.aload_n 0, 1) := by decide +kernel
theorem dX12_nameOf_97 : decode cX12_nameOf 97 = .ok (.getfield 63, 3) := by decide +kernel
theorem dX12_nameOf_100 : decode cX12_nameOf 100 = .ok (.aload_n 0, 1) := by decide +kernel
theorem dX12_nameOf_101 : decode cX12_nameOf 101 = .ok (.getfield 268, 3) := by decide +kernel
theorem dX12_nameOf_104 : decode cX12_nameOf 104 = .ok (.iaload, 1) := by decide +kernel
theorem dX12_nameOf_105 : decode cX12_nameOf 105 = .ok (.iadd, 1) := by decide +kernel
theorem dX12_nameOf_106 : decode cX12_nameOf 106 = .ok (.lload_n 1, 1) := by decide +kernel
theorem dX12_nameOf_107 : decode cX12_nameOf 107 = .ok (.lastore, 1) := by decide +kernel
theorem dX12_nameOf_108 : decode cX12_nameOf 108 = .ok (.aload_n 0, 1) := by decide +kernel
theorem dX12_nameOf_109 : decode cX12_nameOf 109 = .ok (.getfield 63, 3) := by decide +kernel
theorem dX12_nameOf_112 : decode cX12_nameOf 112 = .ok (.aload_n 0, 1) := by decide +kernel
theorem dX12_nameOf_113 : decode cX12_nameOf 113 = .ok (.getfield 268, 3) := by decide +kernel
theorem dX12_nameOf_116 : decode cX12_nameOf 116 = .ok (.dup2, 1) := by decide +kernel
theorem dX12_nameOf_117 : decode cX12_nameOf 117 = .ok (.iaload, 1) := by decide +kernel
theorem dX12_nameOf_118 : decode cX12_nameOf 118 = .ok (.iconst 1, 1) := by decide +kernel
theorem dX12_nameOf_119 : decode cX12_nameOf 119 = .ok (.iadd, 1) := by decide +kernel
theorem dX12_nameOf_120 : decode cX12_nameOf 120 = .ok (.iastore, 1) := by decide +kernel
theorem dX12_nameOf_69 : decode cX12_nameOf 69 = .ok (.aload_n 0, 1) := by decide +kernel
theorem dX12_nameOf_70 : decode cX12_nameOf 70 = .ok (.iconst 5, 1) := by decide +kernel
theorem dX12_nameOf_71 : decode cX12_nameOf 71 = .ok (.iload_n 3, 1) := by decide +kernel
theorem dX12_nameOf_72 : decode cX12_nameOf 72 = .ok (.invokevirtual 274, 3) := by decide +kernel
theorem dX12_nameOf_75 : decode cX12_nameOf 75 = .ok (.iconst 0, 1) := by decide +kernel
theorem dX12_nameOf_76 : decode cX12_nameOf 76 = .ok (.ireturn, 1) := by decide +kernel
theorem dX12_nameOf_7 : decode cX12_nameOf 7 = .ok (.iconst 0, 1) := by decide +kernel
theorem dX12_nameOf_8 : decode cX12_nameOf 8 = .ok (.ireturn, 1) := by decide +kernel
set_option maxHeartbeats 4000000 in
set_option maxRecDepth 20000 in
theorem c_X12_nameOf (d : Nat) {b : Nat} {σ : MS} {w : Int64} {p : Int} (hR : RG σ) (hnn : NN σ) (hr30 : 0 ≤ σ.1 30 ∧ σ.1 30 ≤ 2000) (h_p : -2147483648 ≤ p ∧ p ≤ 2147483647) : Tm (d + 2) m_X12_nameOf 0 b σ [(0, .ref b), (1, .long (w)), (3, .int (iI p))] [] (fun ro σ2 => ∃ v : Int, ro = some (.int (iI v)) ∧ (Fr [26, 27] [35] [38] σ σ2) ∧ (RG σ2) ∧ (PBF σ σ2) ∧ (0 ≤ v ∧ v < 12) ∧ (σ2 = nmP w p σ)) := by
  refine tm_aload_n dX12_nameOf_0 rfl 0 rfl ?_
  refine tm_callV (M := m_X12_nameOf) (pc := 1) (ix := 271) (M' := m_X12_isKept) (As := []) (rest := []) dX12_nameOf_1 ok_X12_isKept im_X12_isKept se_X12_isKept ml12_271 np_X12_isKept rfl rfl (Nat.le_of_ble_eq_true rfl) (Nat.le_of_ble_eq_true rfl) rfl (c_X12_isKept (d) (σ := σ)  hR) (fun r1 σ2 hp => ?_)
  obtain ⟨v3, rfl, rfl, f4, f5⟩ := hp
  show Tm _ _ 4 b σ [(0, .ref b), (1, .long (w)), (3, .int (iI p))] [.int (iI v3)] _
  refine tm_if_ne (tgt := 9) dX12_nameOf_4 (by decide) ⟨by omega, by omega⟩ (fun h6 => ?_) (fun h6 => ?_)
  · refine tm_iconst dX12_nameOf_9 ?_
    refine tm_istore (L' := [(4, .int (iI 0)), (0, .ref b), (1, .long (w)), (3, .int (iI p))]) dX12_nameOf_10 (by decide) rfl ?_
    refine tm_sub [0, 1, 2, 3] rfl (l_nameOf (d) (σ := σ) (p := p) (w := w) hR hnn (by omega) (fun i11 f10 => ?_) (fun v h1 h2 h3 => ⟨_, rfl, Fr.rfl, hR, PBF.nop hnn (Fr.rfl : Fr [] [] [] σ σ) (by decide) (by decide) (by decide), ⟨h1, h2⟩, by unfold nmP; rw [ifP_t (by omega), ifP_t h3]⟩) _ (0) (by omega) (fun j a c => absurd c (by omega)) rfl)
    show Tm _ _ 55 b σ [(4, .int (iI i11)), (0, .ref b), (1, .long (w)), (3, .int (iI p))] [] _
    have hn1 := hnn (σ.1 30) (by omega) (by omega)
    have nf : ¬ NFD σ w := fun z => by obtain ⟨n, z1, z2, z3⟩ := z; exact f10 n z1 z2 z3
    refine tm_aload_n dX12_nameOf_55 rfl 1 rfl ?_
    refine tm_get (k := 35) (v := .ref (b + 1 + 16)) lay_12 dX12_nameOf_56 (by decide) fl12_63 rfl ?_
    refine tm_aload_n dX12_nameOf_59 rfl 1 rfl ?_
    refine tm_getS (k := 30) (t := σ.1 30) dX12_nameOf_60 (by decide) fl12_268 rfl (rfl) ?_
    have g12 := RG.s hR 30
    refine tm_iald (z := σ.1 30) (v := σ.2.1 35 (σ.1 30)) dX12_nameOf_63 (show mT[16]? = some (35, 0, 6) from rfl) (by omega) (by omega) (by decide) (rfl) ?_
    have g13 := RG.a hR 35 (σ.1 30)
    refine tm_bipush dX12_nameOf_64 (by decide) ?_
    refine tm_icmp_ne (tgt := 77) dX12_nameOf_66 (by decide) ⟨by omega, by omega⟩ ⟨by decide, by decide⟩ (fun h14 => ?_) (fun h14 => ?_)
    · refine tm_aload_n dX12_nameOf_77 rfl 1 rfl ?_
      refine tm_getS (k := 25) (t := σ.1 25) dX12_nameOf_78 (by decide) fl12_255 rfl (rfl) ?_
      have g15 := RG.s hR 25
      refine tm_iconst dX12_nameOf_81 ?_
      refine tm_icmp_ne (tgt := 121) dX12_nameOf_82 (by decide) ⟨by omega, by omega⟩ ⟨by decide, by decide⟩ (fun h16 => ?_) (fun h16 => ?_)
      · refine tm_iconst dX12_nameOf_121 ?_
        exact tm_iret rfl dX12_nameOf_122 (⟨_, rfl, Fr.rfl, hR, PBF.nop hnn (Fr.rfl : Fr [] [] [] σ σ) (by decide) (by decide) (by decide), by omega, by unfold nmP; rw [ifP_t (by omega), ifP_f nf, ifP_f (by omega), ifP_f (by omega)]⟩)
      · refine tm_aload_n dX12_nameOf_85 rfl 1 rfl ?_
        refine tm_get (k := 38) (v := .ref (b + 1 + 19)) lay_12 dX12_nameOf_86 (by decide) fl12_72 rfl ?_
        refine tm_bipush dX12_nameOf_89 (by decide) ?_
        refine tm_aload_n dX12_nameOf_91 rfl 1 rfl ?_
        refine tm_getS (k := 30) (t := σ.1 30) dX12_nameOf_92 (by decide) fl12_268 rfl (rfl) ?_
        have g17 := RG.s hR 30
        refine tm_imul dX12_nameOf_95 ?_
        refine tm_aload_n dX12_nameOf_96 rfl 1 rfl ?_
        refine tm_get (k := 35) (v := .ref (b + 1 + 16)) lay_12 dX12_nameOf_97 (by decide) fl12_63 rfl ?_
        refine tm_aload_n dX12_nameOf_100 rfl 1 rfl ?_
        refine tm_getS (k := 30) (t := σ.1 30) dX12_nameOf_101 (by decide) fl12_268 rfl (rfl) ?_
        have g18 := RG.s hR 30
        refine tm_iald (z := σ.1 30) (v := σ.2.1 35 (σ.1 30)) dX12_nameOf_104 (show mT[16]? = some (35, 0, 6) from rfl) (by omega) (by omega) (by decide) (rfl) ?_
        have g19 := RG.a hR 35 (σ.1 30)
        refine tm_iadd dX12_nameOf_105 ?_
        refine tm_lload_n dX12_nameOf_106 rfl 2 rfl ?_
        refine tm_last (z := (12 * (σ.1 30)) + (σ.2.1 35 (σ.1 30))) (v := w) dX12_nameOf_107 (show mT[19]? = some (38, 3, 72) from rfl) (by decide) (by omega) (by omega) (by decide) ?_
        refine tm_aload_n dX12_nameOf_108 rfl 1 rfl ?_
        refine tm_get (k := 35) (v := .ref (b + 1 + 16)) lay_12 dX12_nameOf_109 (by decide) fl12_63 rfl ?_
        refine tm_aload_n dX12_nameOf_112 rfl 1 rfl ?_
        refine tm_getS (k := 30) (t := σ.1 30) dX12_nameOf_113 (by decide) fl12_268 rfl (rs_J (rfl)) ?_
        have g20 := RG.s hR 30
        refine tm_dup2 dX12_nameOf_116 rfl rfl ?_
        refine tm_iald (z := σ.1 30) (v := σ.2.1 35 (σ.1 30)) dX12_nameOf_117 (show mT[16]? = some (35, 0, 6) from rfl) (by omega) (by omega) (by decide) (ra_J (rfl)) ?_
        have g21 := RG.a hR 35 (σ.1 30)
        refine tm_iconst dX12_nameOf_118 ?_
        refine tm_iadd dX12_nameOf_119 ?_
        refine tm_iast (z := σ.1 30) (v := (σ.2.1 35 (σ.1 30)) + 1) dX12_nameOf_120 (show mT[16]? = some (35, 0, 6) from rfl) (by omega) (by omega) (by decide) ?_
        refine tm_iconst dX12_nameOf_121 ?_
        exact tm_iret rfl dX12_nameOf_122 (⟨_, rfl, ((Fr.rfl.J (by decide)).A (by decide)), ((hR.J).A (by omega)), PBF.name hnn (by omega) (by omega) (by omega), by omega, by unfold nmP; rw [ifP_t (by omega), ifP_f nf, ifP_f (by omega), ifP_t (by omega)]⟩)
    · refine tm_aload_n dX12_nameOf_69 rfl 1 rfl ?_
      refine tm_iconst dX12_nameOf_70 ?_
      refine tm_iload_n dX12_nameOf_71 rfl 3 rfl ?_
      refine tm_callV (M := m_X12_nameOf) (pc := 72) (ix := 274) (M' := m_X12_note) (As := [.int (iI 5), .int (iI p)]) (rest := []) dX12_nameOf_72 ok_X12_note im_X12_note se_X12_note ml12_274 np_X12_note rfl rfl (Nat.le_of_ble_eq_true rfl) (Nat.le_of_ble_eq_true rfl) rfl (c2_X12_note (d) (σ := σ) (f := 5) (p := p) hR (by omega) (by omega)) (fun r22 σ23 hp => ?_)
      obtain ⟨rfl, f25, f26, f27, f28, f29⟩ := hp
      show Tm _ _ 75 b σ23 [(4, .int (iI i11)), (0, .ref b), (1, .long (w)), (3, .int (iI p))] [] _
      refine tm_iconst dX12_nameOf_75 ?_
      exact tm_iret rfl dX12_nameOf_76 (⟨_, rfl, (Fr.rfl.trans (Fr.sub f25 (by decide) (by decide) (by decide))), f26, PBF.of hnn f25 (by decide) (by decide) (by decide) f27, by omega, by unfold nmP; rw [ifP_t (by omega), ifP_f nf, ifP_t (by omega)]; exact f29⟩)
  · refine tm_iconst dX12_nameOf_7 ?_
    exact tm_iret rfl dX12_nameOf_8 (⟨_, rfl, Fr.rfl, hR, PBF.nop hnn (Fr.rfl : Fr [] [] [] σ σ) (by decide) (by decide) (by decide), by omega, by unfold nmP; rw [ifP_f (by omega)]⟩)
theorem ml12_258 : Cond.methodLink RX12 258 yX12_isSign ∈ pWW := pw8 (List.mem_of_getElem? (i := 177) rfl) rfl
theorem ml12_265 : Cond.methodLink RX12 265 yX12_advance ∈ pWW := pw8 (List.mem_of_getElem? (i := 51) rfl) rfl
theorem ml12_261 : Cond.methodLink RX12 261 yX12_wrong ∈ pWW := pw8 (List.mem_of_getElem? (i := 161) rfl) rfl
theorem dX12_need_0 : decode cX12_need 0 = .ok (.aload_n 0, 1) := by decide +kernel
theorem dX12_need_1 : decode cX12_need 1 = .ok (.iload_n 1, 1) := by decide +kernel
theorem dX12_need_2 : decode cX12_need 2 = .ok (.invokevirtual 258, 3) := by decide +kernel
theorem dX12_need_5 : decode cX12_need 5 = .ok (.ifCond .ne 8, 3) := by decide +kernel
theorem dX12_need_13 : decode cX12_need 13 = .ok (.aload_n 0, 1) := by decide +kernel
theorem dX12_need_14 : decode cX12_need 14 = .ok (.invokevirtual 265, 3) := by decide +kernel
theorem dX12_need_17 : decode cX12_need 17 = .ok (.iconst 1, 1) := by decide +kernel
theorem dX12_need_18 : decode cX12_need 18 = .ok (.ireturn, 1) := by decide +kernel
theorem dX12_need_8 : decode cX12_need 8 = .ok (.aload_n 0, 1) := by decide +kernel
theorem dX12_need_9 : decode cX12_need 9 = .ok (.invokevirtual 261, 3) := by decide +kernel
theorem dX12_need_12 : decode cX12_need 12 = .ok (.ireturn, 1) := by decide +kernel
set_option maxHeartbeats 4000000 in
set_option maxRecDepth 20000 in
theorem c_X12_need (d : Nat) {b : Nat} {σ : MS} {c : Int} (hR : RG σ) (htl : (0 ≤ σ.1 20 ∧ σ.1 20 ≤ σ.1 21) ∧ σ.1 21 ≤ 1200) (h_c : -2147483648 ≤ c ∧ c ≤ 2147483647) : Tm (d + 6) m_X12_need 0 b σ [(0, .ref b), (1, .int (iI c))] [] (fun ro σ2 => ∃ v : Int, ro = some (.int (iI v)) ∧ ((v = 0 ∨ v = 1)) ∧ (Fr [19, 20, 22, 23, 26, 27] [] [24] σ σ2) ∧ (RG σ2) ∧ (Im v 1 (NDQ σ c σ2)) ∧ (Im v 0 (¬ SG σ c)) ∧ (FLT σ σ2) ∧ (Im v 0 (WRG σ σ2))) := by
  refine tm_aload_n dX12_need_0 rfl 0 rfl ?_
  refine tm_iload_n dX12_need_1 rfl 1 rfl ?_
  refine tm_callV (M := m_X12_need) (pc := 2) (ix := 258) (M' := m_X12_isSign) (As := [.int (iI c)]) (rest := []) dX12_need_2 ok_X12_isSign im_X12_isSign se_X12_isSign ml12_258 np_X12_isSign rfl rfl (Nat.le_of_ble_eq_true rfl) (Nat.le_of_ble_eq_true rfl) rfl (c2_X12_isSign (d + 4) (σ := σ) (c := c) hR (by omega)) (fun r1 σ2 hp => ?_)
  obtain ⟨v3, rfl, rfl, f4, f5, f6⟩ := hp
  show Tm _ _ 5 b σ [(0, .ref b), (1, .int (iI c))] [.int (iI v3)] _
  have nd1 := f5
  have nd0 := f6
  refine tm_if_ne (tgt := 13) dX12_need_5 (by decide) ⟨by omega, by omega⟩ (fun h7 => ?_) (fun h7 => ?_)
  · refine tm_aload_n dX12_need_13 rfl 0 rfl ?_
    refine tm_callV (M := m_X12_need) (pc := 14) (ix := 265) (M' := m_X12_advance) (As := []) (rest := []) dX12_need_14 ok_X12_advance im_X12_advance se_X12_advance ml12_265 np_X12_advance rfl rfl (Nat.le_of_ble_eq_true rfl) (Nat.le_of_ble_eq_true rfl) rfl (c_X12_advance (d) (σ := σ)  hR htl) (fun r8 σ9 hp => ?_)
    obtain ⟨rfl, f11, f12, f13, f14, f15⟩ := hp
    show Tm _ _ 17 b σ9 [(0, .ref b), (1, .int (iI c))] [] _
    refine tm_iconst dX12_need_17 ?_
    exact tm_zret (v := 1) rfl (by decide) dX12_need_18 (⟨_, rfl, by omega, (Fr.rfl.trans (Fr.sub f12 (by decide) (by decide) (by decide))), f13, fun _ => ⟨nd1 (by omega), f11, f14, f15, f12.1 26 (by decide)⟩, fun q => absurd q (by decide), FLT.eq (f12.1 26 (by decide)), fun q => absurd q (by decide)⟩)
  · refine tm_aload_n dX12_need_8 rfl 0 rfl ?_
    refine tm_callV (M := m_X12_need) (pc := 9) (ix := 261) (M' := m_X12_wrong) (As := []) (rest := []) dX12_need_9 ok_X12_wrong im_X12_wrong se_X12_wrong ml12_261 np_X12_wrong rfl rfl (Nat.le_of_ble_eq_true rfl) (Nat.le_of_ble_eq_true rfl) rfl (c_X12_wrong (d + 4) (σ := σ)  hR) (fun r16 σ17 hp => ?_)
    obtain ⟨v18, rfl, f19, f20, f21, f22, f23, f24⟩ := hp
    show Tm _ _ 12 b σ17 [(0, .ref b), (1, .int (iI c))] [.int (iI v18)] _
    exact tm_zret (v := v18) rfl (by omega) dX12_need_12 (⟨_, rfl, by omega, (Fr.rfl.trans (Fr.sub f20 (by decide) (by decide) (by decide))), f21, fun q => absurd q (by omega), fun _ => nd0 (by omega), FLT.wr f23 f24, fun _ => WRG.of f24⟩)
end
section
/-! one road of the reader: what was used up, what was made, where the automaton stands -/
def PRS (k : Nat) (v : Int) (σ τ : MS) : Prop := (v = 1 → ∀ q, GOS [k] σ q [] τ q []) ∧ (v = 0 → ∀ q, GOF [k] σ q τ)
def EXS (σ τ : MS) : Prop := RDY τ ∧ PBC 2 σ τ ∧ GTm τ ∧ AC σ τ ∧ τ.1 28 = σ.1 28
theorem RDY.of {n : Int} {σ τ : MS} (h : RDY σ) (e : τ.1 25 = σ.1 25 ∧ τ.1 30 = σ.1 30) (t : TOK τ) (c : PBC n σ τ) (hn : 0 ≤ n) : RDY τ := by
  unfold RDY at *
  unfold PBC at c
  refine ⟨t, ?_⟩
  obtain ⟨-, h⟩ := h
  omega
theorem PBC.adv {σ τ : MS} (f : Fr [19, 20, 22, 23] [] [24] σ τ) (h0 : σ.1 19 < σ.1 20) (p : σ.1 20 ≤ τ.1 19) : PBC 2 σ τ := by
  unfold PBC
  rw [f.1 34 (by decide), f.1 32 (by decide), f.1 31 (by decide), f.1 33 (by decide)]
  omega
def TRm (k0 : Nat) (n : Int) (σ : MS) (ks : List Nat) (τ : MS) : Prop := PBF σ τ ∧ PBC n σ τ ∧ RDY τ ∧ AC σ τ ∧ ∀ q, GOS [k0] σ q ks τ q []
section TRS
variable {k0 k : Nat} {n : Int} {σ τ υ : MS} {rest new kk : List Nat}
theorem TRm.start (hrd : RDY σ) (hnn : NN σ) : TRm k0 0 σ [k0] σ := ⟨PBF.nop hnn (Fr.rfl : Fr [] [] [] σ σ) (by decide) (by decide) (by decide), PBC.nop (Fr.rfl : Fr [] [] [] σ σ) (by decide), hrd, AC.nil rfl, fun _ => GOS.nop rfl rfl⟩
theorem TRm.h30 (t : TRm k0 n σ kk τ) : 0 ≤ σ.1 30 := by
  have a := t.1.2.2.2.2.2.2.2
  have b := t.2.2.1.2.2.1
  omega
theorem TRm.nn (t : TRm k0 n σ kk τ) : NN τ := t.1.2.2.1
theorem TRm.nxt (t : TRm k0 n σ (k :: rest) τ) (g : ∀ q, GOS [k] τ q new τ q []) : TRm k0 n σ (new ++ rest) τ := ⟨t.1, t.2.1, t.2.2.1, t.2.2.2.1, fun q => (t.2.2.2.2 q).then ((g q).more rest)⟩
theorem TRm.adv (t : TRm k0 n σ (k :: rest) τ) (f : Fr [19, 20, 22, 23] [] [24] τ υ) (tok : TOK υ) (p : τ.1 20 ≤ υ.1 19) (hs : τ.1 22 ≠ 0) (g : ∀ q, GOS [k] τ q new υ q []) : TRm k0 (n + 2) σ (new ++ rest) υ := by
  have h30 := t.h30
  obtain ⟨t1, t2, t3, t4, t5⟩ := t
  have pb : PBF τ υ := PBF.nop t1.2.2.1 f (by decide) (by decide) (by decide)
  have pc : PBC 2 τ υ := PBC.adv f (t3.1.2.1 hs) p
  exact ⟨t1.trans pb, t2.trans pc, RDY.of t3 ⟨pb.2.2.2.2.2.2.1, pb.2.2.2.2.2.2.2⟩ tok pc (by decide), t4.trans t1 (AC.nil (f.1 34 (by decide))) pb h30, fun q => (t5 q).then ((g q).more rest)⟩
theorem TRm.sub (t : TRm k0 n σ (k :: rest) τ) (pb : PBF τ υ) (e : EXS τ υ) (g : ∀ q, GOS [k] τ q [] υ q []) : TRm k0 (n + 2) σ rest υ := by
  have h30 := t.h30
  obtain ⟨t1, t2, t3, t4, t5⟩ := t
  exact ⟨t1.trans pb, t2.trans e.2.1, e.1, t4.trans t1 e.2.2.2.1 pb h30, fun q => (t5 q).then ((g q).more rest)⟩
theorem TRm.keep {ss ks js : List Nat} (t : TRm k0 n σ kk τ) (f : Fr ss ks js τ υ) (hs : ∀ j ∈ [19, 20, 21, 22, 23, 25, 28, 29, 30, 31, 32, 33, 34], j ∉ ss) (hk : ∀ j ∈ [1, 3, 4, 5, 6, 7, 8], j ∉ ks) (hj : 24 ∉ js) (pb : PBF τ υ) (hr : srt υ = srt τ) : TRm k0 n σ kk υ := by
  have h30 := t.h30
  obtain ⟨t1, t2, t3, t4, t5⟩ := t
  have e := fun j h => f.1 j (hs j h)
  have pc : PBC 0 τ υ := PBC.nop f (fun j q => hs j (by revert j q; decide))
  refine ⟨t1.trans pb, by have := t2.trans pc; rw [Int.add_zero] at this; exact this, RDY.of t3 ⟨pb.2.2.2.2.2.2.1, pb.2.2.2.2.2.2.2⟩ ?_ pc (by decide), t4.trans t1 (AC.nil (e 34 (by decide))) pb h30, fun q => (t5 q).last (vw_fr f (fun j q => hs j (by revert j q; decide)) (hk 1 (by decide)) hj) hr⟩
  unfold TOK
  rw [e 19 (by decide), e 20 (by decide), e 21 (by decide), e 22 (by decide), e 23 (by decide)]
  exact t3.1
theorem TRm.nop {ss ks js : List Nat} (t : TRm k0 n σ kk τ) (f : Fr ss ks js τ υ) (hs : ∀ j ∈ [19, 20, 21, 22, 23, 25, 26, 27, 28, 29, 30, 31, 32, 33, 34, 43], j ∉ ss) (hk : ∀ j ∈ [1, 3, 4, 5, 6, 7, 8, 35, 36, 45], j ∉ ks) (hj : 24 ∉ js) (hj2 : ∀ j ∈ [38, 44], j ∉ js) : TRm k0 n σ kk υ :=
  t.keep f (fun j q => hs j (by revert j q; decide)) (fun j q => hk j (by revert j q; decide)) hj (PBF.nop t.nn f (fun j q => hs j (by revert j q; decide)) (fun j q => hk j (by revert j q; decide)) (hj2 38 (by decide))) (srt_fr f (fun j q => hs j (by revert j q; decide)) (fun j q => hk j (by revert j q; decide)) hj2)
theorem TRm.chg (t : TRm k0 n σ (k :: rest) τ) (f : Fr [28] [] [] τ υ) (g : ∀ q, GOS [k] τ q new υ q []) : TRm k0 n σ (new ++ rest) υ := by
  have h30 := t.h30
  obtain ⟨t1, t2, t3, t4, t5⟩ := t
  have pb : PBF τ υ := PBF.nop t1.2.2.1 f (by decide) (by decide) (by decide)
  have pc : PBC 0 τ υ := PBC.nop f (by decide)
  refine ⟨t1.trans pb, by have := t2.trans pc; rw [Int.add_zero] at this; exact this, RDY.of t3 ⟨pb.2.2.2.2.2.2.1, pb.2.2.2.2.2.2.2⟩ ?_ pc (by decide), t4.trans t1 (AC.nil (f.1 34 (by decide))) pb h30, fun q => (t5 q).then ((g q).more rest)⟩
  unfold TOK
  rw [f.1 19 (by decide), f.1 20 (by decide), f.1 21 (by decide), f.1 22 (by decide), f.1 23 (by decide)]
  exact t3.1
theorem TRm.join (t : TRm k0 n σ (51 :: rest) τ) (f : Fr [32, 34, 39, 40] [3, 4, 5, 6, 7, 8] [] τ υ) (e : υ.1 34 = τ.1 34 + 1 ∧ υ.1 32 = τ.1 32 + 1) (o : OFF (PXx τ) τ υ) (a : ACI υ (13 + τ.1 34) (PXx τ)) (hn : 1 ≤ n) (hrd : RDY σ) : TRm k0 (n - 1) σ rest υ := by
  have h30 := t.h30
  obtain ⟨t1, t2, t3, t4, t5⟩ := t
  have pb : PBF τ υ := PBF.put t1.2.2.1 f (by decide) (by decide) (by decide) e.1 o
  have pc : PBC (-1) τ υ := by
    unfold PBC
    rw [f.1 19 (by decide), f.1 31 (by decide), f.1 33 (by decide), e.1, e.2]
    omega
  have pc2 : PBC (n - 1) σ υ := t2.trans pc
  have p2 := t1.trans pb
  refine ⟨p2, pc2, RDY.of hrd ⟨p2.2.2.2.2.2.2.1, p2.2.2.2.2.2.2.2⟩ ?_ pc2 (by omega), t4.trans t1 (AC.one e.1 (by rw [e.1, show 12 + (τ.1 34 + 1) = 13 + τ.1 34 by omega]; exact a)) pb h30, fun q => (t5 q).then ((g51 ⟨?_, ?_, sv_fr f (by decide) (by decide), srt_fr f (by decide) (by decide) (by decide)⟩ : GOS [51] τ q [] υ q []).more rest)⟩
  · unfold TOK
    rw [f.1 19 (by decide), f.1 20 (by decide), f.1 21 (by decide), f.1 22 (by decide), f.1 23 (by decide)]
    exact t3.1
  · unfold tks
    rw [f.1 19 (by decide), f.1 20 (by decide), f.1 22 (by decide), f.1 23 (by decide), f.2.2 24 (by decide)]
  · unfold xs
    rw [f.1 28 (by decide), f.1 29 (by decide), e.1]
theorem TRm.fail (t : TRm k0 n σ (k :: rest) τ) (pb : PBF τ υ) (g : ∀ q, GOF [k] τ q υ) : PBF σ υ ∧ ∀ q, GOF [k0] σ q υ := ⟨t.1.trans pb, fun q => (t.2.2.2.2 q).fail ((g q).more rest)⟩
theorem TRm.exs (t : TRm k0 n σ [] τ) (hn : 2 ≤ n) (g : GTm τ) (e : τ.1 28 = σ.1 28) : EXS σ τ := ⟨t.2.2.1, t.2.1.le hn, g, t.2.2.2.1, e⟩
theorem TRm.prs (t : TRm k0 n σ [] τ) : PRS k0 1 σ τ := ⟨fun _ => t.2.2.2.2, fun q => absurd q (by decide)⟩
theorem TRm.le {m : Int} (t : TRm k0 n σ kk τ) (h : m ≤ n) : TRm k0 m σ kk τ := ⟨t.1, t.2.1.le h, t.2.2⟩
end TRS
theorem PRS.no {k : Nat} {σ τ : MS} (h : ∀ q, GOF [k] σ q τ) : PRS k 0 σ τ := ⟨fun q => absurd q (by decide), fun _ => h⟩
theorem GTm.fr {ss ks js : List Nat} {σ τ : MS} (h : GTm σ) (f : Fr ss ks js σ τ) (hs : ∀ k ∈ [34, 39, 40], k ∉ ss) : GTm τ := by
  unfold GTm
  rw [f.1 34 (hs 34 (by decide)), f.1 39 (hs 39 (by decide)), f.1 40 (hs 40 (by decide))]
  exact h
section TRC
variable {k0 k : Nat} {n m : Int} {σ τ υ : MS} {rest new : List Nat}
theorem TRm.cat (t : TRm k0 n σ (k :: rest) τ) (u : TRm k m τ new υ) : TRm k0 (n + m) σ (new ++ rest) υ := by
  have h30 := t.h30
  obtain ⟨t1, t2, t3, t4, t5⟩ := t
  obtain ⟨u1, u2, u3, u4, u5⟩ := u
  exact ⟨t1.trans u1, t2.trans u2, u3, t4.trans t1 u4 u1 h30, fun q => (t5 q).then ((u5 q).more rest)⟩
end TRC
theorem TRm.needy {k0 k : Nat} {n : Int} {σ τ υ : MS} {rest new : List Nat} (t : TRm k0 n σ (k :: rest) τ) (f : Fr [19, 20, 22, 23, 26, 27] [] [24] τ υ) (tok : TOK υ) (p : τ.1 20 ≤ υ.1 19) (h26 : υ.1 26 = τ.1 26) (hs : τ.1 22 ≠ 0) (g : ∀ q, GOS [k] τ q new υ q []) : TRm k0 (n + 2) σ (new ++ rest) υ := by
  have h30 := t.h30
  obtain ⟨t1, t2, t3, t4, t5⟩ := t
  have pb : PBF τ υ := PBF.of t1.2.2.1 f (by decide) (by decide) (by decide) (FLT.eq h26)
  have pc : PBC 2 τ υ := by
    have h0 := t3.1.2.1 hs
    unfold PBC
    rw [f.1 34 (by decide), f.1 32 (by decide), f.1 31 (by decide), f.1 33 (by decide)]
    omega
  exact ⟨t1.trans pb, t2.trans pc, RDY.of t3 ⟨pb.2.2.2.2.2.2.1, pb.2.2.2.2.2.2.2⟩ tok pc (by decide), t4.trans t1 (AC.nil (f.1 34 (by decide))) pb h30, fun q => (t5 q).then ((g q).more rest)⟩
/-- a name is told, then the next token -/
theorem TRm.nameadv {k0 : Nat} {n : Int} {σ τ α β υ : MS} {rest : List Nat} (t : TRm k0 n σ (1 :: rest) τ) (nw : NMW τ) (pb : PBF τ α) (f1 : Fr [26, 27] [35] [38] τ α) (e1 : α = nmP (τ.2.2 24 0) (τ.1 19) τ) (f2 : Fr [39, 40] [] [] α β) (a : ADVm β υ) (f3 : Fr [19, 20, 22, 23] [] [24] β υ) (tok : TOK υ) (p : β.1 20 ≤ υ.1 19) : TRm k0 (n + 2) σ rest υ := by
  have h30 := t.h30
  obtain ⟨t1, t2, t3, t4, t5⟩ := t
  have pb2 : PBF α β := PBF.nop pb.2.2.1 f2 (by decide) (by decide) (by decide)
  have pb3 : PBF β υ := PBF.nop pb2.2.2.1 f3 (by decide) (by decide) (by decide)
  have pp := (pb.trans pb2).trans pb3
  have f : Fr [19, 20, 22, 23, 26, 27, 39, 40] [35] [24, 38] τ υ := ((Fr.sub f1 (by decide) (by decide) (by decide)).trans (Fr.sub f2 (by decide) (by decide) (by decide))).trans (Fr.sub f3 (by decide) (by decide) (by decide))
  have e20 : β.1 20 = τ.1 20 := (f2.1 20 (by decide)).trans (f1.1 20 (by decide))
  have esv : sv β = sv τ := (sv_fr f2 (by decide) (by decide)).trans (sv_fr f1 (by decide) (by decide))
  have h0 := t3.1.2.1 (by have := nw.1; omega)
  have pc : PBC 2 τ υ := by
    unfold PBC
    rw [f.1 34 (by decide), f.1 32 (by decide), f.1 31 (by decide), f.1 33 (by decide)]
    omega
  have ex : xs β = xs τ := by
    unfold xs
    rw [f2.1 28 (by decide), f2.1 29 (by decide), f2.1 34 (by decide), f1.1 28 (by decide), f1.1 29 (by decide), f1.1 34 (by decide)]
  refine ⟨t1.trans pp, t2.trans pc, RDY.of t3 ⟨pp.2.2.2.2.2.2.1, pp.2.2.2.2.2.2.2⟩ tok pc (by decide), t4.trans t1 (AC.nil (f.1 34 (by decide))) pp h30, fun q => (t5 q).then ((g1w nw (by rw [a.1, esv, e20]) (a.2.1.trans ex) (a.2.2.1.trans esv) (EFF.name ?_)).more rest)⟩
  rw [a.2.2.2, srt_fr f2 (by decide) (by decide) (by decide), e1]
end
section
theorem ml12_320 : Cond.methodLink RX12 320 yX12_isName ∈ pWW := pw8 (List.mem_of_getElem? (i := 152) rfl) rfl
theorem ml12_327 : Cond.methodLink RX12 327 yX12_expression ∈ pWW := pw8 (List.mem_of_getElem? (i := 217) rfl) rfl
theorem ml12_330 : Cond.methodLink RX12 330 yX12_need ∈ pWW := pw8 (List.mem_of_getElem? (i := 173) rfl) rfl
theorem ml12_323 : Cond.methodLink RX12 323 yX12_nameOf ∈ pWW := pw8 (List.mem_of_getElem? (i := 185) rfl) rfl
theorem ml12_310 : Cond.methodLink RX12 310 yX12_joins ∈ pWW := pw8 (List.mem_of_getElem? (i := 237) rfl) rfl
theorem dX12_signed_0 : decode cX12_signed 0 = .ok (.aload_n 0, 1) := by decide +kernel
theorem dX12_signed_1 : decode cX12_signed 1 = .ok (.bipush 45, 2) := by decide +kernel
theorem dX12_signed_3 : decode cX12_signed 3 = .ok (.invokevirtual 258, 3) := by decide +kernel
theorem dX12_signed_6 : decode cX12_signed 6 = .ok (.istore_n 1, 1) := by decide +kernel
theorem dX12_signed_7 : decode cX12_signed 7 = .ok (.iload_n 1, 1) := by decide +kernel
theorem dX12_signed_8 : decode cX12_signed 8 = .ok (.ifCond .eq 7, 3) := by decide +kernel
theorem dX12_signed_15 : decode cX12_signed 15 = .ok (.aload_n 0, 1) := by decide +kernel
theorem dX12_signed_16 : decode cX12_signed 16 = .ok (.getfield 226, 3) := by decide +kernel
theorem dX12_signed_19 : decode cX12_signed 19 = .ok (.iconst 3, 1) := by decide +kernel
theorem dX12_signed_20 : decode cX12_signed 20 = .ok (.if_icmp .ne 19, 3) := by decide +kernel
theorem dX12_signed_39 : decode cX12_signed 39 = .ok (.aload_n 0, 1) := by decide +kernel
theorem dX12_signed_40 : decode cX12_signed 40 = .ok (.invokevirtual 320, 3) := by decide +kernel
theorem dX12_signed_43 : decode cX12_signed 43 = .ok (.ifCond .eq 27, 3) := by decide +kernel
theorem dX12_signed_70 : decode cX12_signed 70 = .ok (.aload_n 0, 1) := by decide +kernel
theorem dX12_signed_71 : decode cX12_signed 71 = .ok (.bipush 40, 2) := by decide +kernel
theorem dX12_signed_73 : decode cX12_signed 73 = .ok (.invokevirtual 258, 3) := by decide +kernel
theorem dX12_signed_76 : decode cX12_signed 76 = .ok (.ifCond .eq 25, 3) := by decide +kernel
theorem dX12_signed_101 : decode cX12_signed 101 = .ok (.aload_n 0, 1) := by decide +kernel
theorem dX12_signed_102 : decode cX12_signed 102 = .ok (.invokevirtual 261, 3) := by decide +kernel
theorem dX12_signed_105 : decode cX12_signed 105 = .ok (.ireturn, 1) := by decide +kernel
theorem dX12_signed_79 : decode cX12_signed 79 = .ok (.aload_n 0, 1) := by decide +kernel
theorem dX12_signed_80 : decode cX12_signed 80 = .ok (.invokevirtual 265, 3) := by decide +kernel
theorem dX12_signed_83 : decode cX12_signed 83 = .ok (.aload_n 0, 1) := by decide +kernel
theorem dX12_signed_84 : decode cX12_signed 84 = .ok (.invokevirtual 327, 3) := by decide +kernel
theorem dX12_signed_87 : decode cX12_signed 87 = .ok (.ifCond .eq 12, 3) := by decide +kernel
theorem dX12_signed_99 : decode cX12_signed 99 = .ok (.iconst 0, 1) := by decide +kernel
theorem dX12_signed_100 : decode cX12_signed 100 = .ok (.ireturn, 1) := by decide +kernel
theorem dX12_signed_90 : decode cX12_signed 90 = .ok (.aload_n 0, 1) := by decide +kernel
theorem dX12_signed_91 : decode cX12_signed 91 = .ok (.bipush 41, 2) := by decide +kernel
theorem dX12_signed_93 : decode cX12_signed 93 = .ok (.invokevirtual 330, 3) := by decide +kernel
theorem dX12_signed_96 : decode cX12_signed 96 = .ok (.ifCond .ne 10, 3) := by decide +kernel
theorem dX12_signed_106 : decode cX12_signed 106 = .ok (.iload_n 1, 1) := by decide +kernel
theorem dX12_signed_107 : decode cX12_signed 107 = .ok (.ifCond .eq 18, 3) := by decide +kernel
theorem dX12_signed_125 : decode cX12_signed 125 = .ok (.iconst 1, 1) := by decide +kernel
theorem dX12_signed_126 : decode cX12_signed 126 = .ok (.ireturn, 1) := by decide +kernel
theorem dX12_signed_46 : decode cX12_signed 46 = .ok (.aload_n 0, 1) := by decide +kernel
theorem dX12_signed_47 : decode cX12_signed 47 = .ok (.iconst 2, 1) := by decide +kernel
theorem dX12_signed_48 : decode cX12_signed 48 = .ok (.aload_n 0, 1) := by decide +kernel
theorem dX12_signed_49 : decode cX12_signed 49 = .ok (.aload_n 0, 1) := by decide +kernel
theorem dX12_signed_50 : decode cX12_signed 50 = .ok (.getfield 219, 3) := by decide +kernel
theorem dX12_signed_53 : decode cX12_signed 53 = .ok (.aload_n 0, 1) := by decide +kernel
theorem dX12_signed_54 : decode cX12_signed 54 = .ok (.getfield 216, 3) := by decide +kernel
theorem dX12_signed_57 : decode cX12_signed 57 = .ok (.invokevirtual 323, 3) := by decide +kernel
theorem dX12_signed_60 : decode cX12_signed 60 = .ok (.invokevirtual 301, 3) := by decide +kernel
theorem dX12_signed_63 : decode cX12_signed 63 = .ok (.aload_n 0, 1) := by decide +kernel
theorem dX12_signed_64 : decode cX12_signed 64 = .ok (.invokevirtual 265, 3) := by decide +kernel
theorem dX12_signed_67 : decode cX12_signed 67 = .ok (.goto 39, 3) := by decide +kernel
theorem dX12_signed_23 : decode cX12_signed 23 = .ok (.aload_n 0, 1) := by decide +kernel
theorem dX12_signed_24 : decode cX12_signed 24 = .ok (.iconst 1, 1) := by decide +kernel
theorem dX12_signed_25 : decode cX12_signed 25 = .ok (.aload_n 0, 1) := by decide +kernel
theorem dX12_signed_26 : decode cX12_signed 26 = .ok (.getfield 223, 3) := by decide +kernel
theorem dX12_signed_29 : decode cX12_signed 29 = .ok (.invokevirtual 301, 3) := by decide +kernel
theorem dX12_signed_32 : decode cX12_signed 32 = .ok (.aload_n 0, 1) := by decide +kernel
theorem dX12_signed_33 : decode cX12_signed 33 = .ok (.invokevirtual 265, 3) := by decide +kernel
theorem dX12_signed_36 : decode cX12_signed 36 = .ok (.goto 70, 3) := by decide +kernel
theorem dX12_signed_11 : decode cX12_signed 11 = .ok (.aload_n 0, 1) := by decide +kernel
theorem dX12_signed_12 : decode cX12_signed 12 = .ok (.invokevirtual 265, 3) := by decide +kernel
theorem dX12_signed_110 : decode cX12_signed 110 = .ok (.aload_n 0, 1) := by decide +kernel
theorem dX12_signed_111 : decode cX12_signed 111 = .ok (.iconst 2, 1) := by decide +kernel
theorem dX12_signed_112 : decode cX12_signed 112 = .ok (.iconst 1, 1) := by decide +kernel
theorem dX12_signed_113 : decode cX12_signed 113 = .ok (.iconst 0, 1) := by decide +kernel
theorem dX12_signed_114 : decode cX12_signed 114 = .ok (.aload_n 0, 1) := by decide +kernel
theorem dX12_signed_115 : decode cX12_signed 115 = .ok (.getfield 285, 3) := by decide +kernel
theorem dX12_signed_118 : decode cX12_signed 118 = .ok (.aload_n 0, 1) := by decide +kernel
theorem dX12_signed_119 : decode cX12_signed 119 = .ok (.getfield 288, 3) := by decide +kernel
theorem dX12_signed_122 : decode cX12_signed 122 = .ok (.invokevirtual 310, 3) := by decide +kernel
set_option maxHeartbeats 4000000 in
set_option maxRecDepth 20000 in
theorem c_X12_signed (d : Nat) {b : Nat} {σ : MS} {lv : Nat} (hce : ∀ (d : Nat) {b : Nat} {σ : MS} (hR : RG σ) (hrd : RDY σ) (hnn : NN σ) (h28 : σ.1 28 = 8 - (lv : Int)), Tm (d + 4 * lv + 8) m_X12_expression 0 b σ [(0, .ref b)] [] (fun ro σ2 => ∃ v : Int, ro = some (.int (iI v)) ∧ ((v = 0 ∨ v = 1)) ∧ (Fr [19, 20, 22, 23, 26, 27, 28, 32, 34, 39, 40] [3, 4, 5, 6, 7, 8, 35] [24, 38] σ σ2) ∧ (RG σ2) ∧ (PBF σ σ2) ∧ (Im v 1 (EXS σ σ2)) ∧ (PRS 2 v σ σ2) ∧ (σ2.1 28 = σ.1 28))) (hR : RG σ) (hrd : RDY σ) (hnn : NN σ) (h28 : σ.1 28 = 8 - (lv : Int)) : Tm (d + 4 * lv + 9) m_X12_signed 0 b σ [(0, .ref b)] [] (fun ro σ2 => ∃ v : Int, ro = some (.int (iI v)) ∧ ((v = 0 ∨ v = 1)) ∧ (Fr [19, 20, 22, 23, 26, 27, 28, 32, 34, 39, 40] [3, 4, 5, 6, 7, 8, 35] [24, 38] σ σ2) ∧ (RG σ2) ∧ (PBF σ σ2) ∧ (Im v 1 (EXS σ σ2)) ∧ (PRS 0 v σ σ2) ∧ (σ2.1 28 = σ.1 28)) := by
  have tr0 : TRm 0 0 σ [0] σ := TRm.start hrd hnn
  refine tm_aload_n dX12_signed_0 rfl 0 rfl ?_
  refine tm_bipush dX12_signed_1 (by decide) ?_
  refine tm_callV (M := m_X12_signed) (pc := 3) (ix := 258) (M' := m_X12_isSign) (As := [.int (iI 45)]) (rest := []) dX12_signed_3 ok_X12_isSign im_X12_isSign se_X12_isSign ml12_258 np_X12_isSign rfl rfl (Nat.le_of_ble_eq_true rfl) (Nat.le_of_ble_eq_true rfl) rfl (c2_X12_isSign (d + 4 * lv + 7) (σ := σ) (c := 45) hR (by omega)) (fun r1 σ2 hp => ?_)
  obtain ⟨v3, rfl, rfl, f4, f5, f6⟩ := hp
  show Tm _ _ 6 b σ [(0, .ref b)] [.int (iI v3)] _
  have i45 := f5
  have n45_ := f6
  refine tm_istore_n (L' := [(1, .int (iI v3)), (0, .ref b)]) dX12_signed_6 rfl (by decide) rfl ?_
  refine tm_iload_n dX12_signed_7 rfl 0 rfl ?_
  refine tm_if_eq (tgt := 15) dX12_signed_8 (by decide) ⟨by omega, by omega⟩ (fun h7 => ?_) (fun h7 => ?_)
  · have tr1 := tr0.nxt (fun q => g0n (n45_ (by omega)))
    refine tm_aload_n dX12_signed_15 rfl 1 rfl ?_
    refine tm_getS (k := 22) (t := σ.1 22) dX12_signed_16 (by decide) fl12_226 rfl (rfl) ?_
    have g8 := RG.s hR 22
    refine tm_iconst dX12_signed_19 ?_
    refine tm_icmp_ne (tgt := 39) dX12_signed_20 (by decide) ⟨by omega, by omega⟩ ⟨by decide, by decide⟩ (fun h9 => ?_) (fun h9 => ?_)
    · refine tm_aload_n dX12_signed_39 rfl 1 rfl ?_
      refine tm_callV (M := m_X12_signed) (pc := 40) (ix := 320) (M' := m_X12_isName) (As := []) (rest := []) dX12_signed_40 ok_X12_isName im_X12_isName se_X12_isName ml12_320 np_X12_isName rfl rfl (Nat.le_of_ble_eq_true rfl) (Nat.le_of_ble_eq_true rfl) rfl (c2_X12_isName (d + 4 * lv + 7) (σ := σ)  hR) (fun r10 σ11 hp => ?_)
      obtain ⟨v12, rfl, rfl, f13, f14, f15⟩ := hp
      show Tm _ _ 43 b σ [(1, .int (iI v3)), (0, .ref b)] [.int (iI v12)] _
      have inm := f14
      have nnm_ := f15
      refine tm_if_eq (tgt := 70) dX12_signed_43 (by decide) ⟨by omega, by omega⟩ (fun h16 => ?_) (fun h16 => ?_)
      · refine tm_aload_n dX12_signed_70 rfl 1 rfl ?_
        refine tm_bipush dX12_signed_71 (by decide) ?_
        refine tm_callV (M := m_X12_signed) (pc := 73) (ix := 258) (M' := m_X12_isSign) (As := [.int (iI 40)]) (rest := []) dX12_signed_73 ok_X12_isSign im_X12_isSign se_X12_isSign ml12_258 np_X12_isSign rfl rfl (Nat.le_of_ble_eq_true rfl) (Nat.le_of_ble_eq_true rfl) rfl (c2_X12_isSign (d + 4 * lv + 7) (σ := σ) (c := 40) hR (by omega)) (fun r17 σ18 hp => ?_)
        obtain ⟨v19, rfl, rfl, f20, f21, f22⟩ := hp
        show Tm _ _ 76 b σ [(1, .int (iI v3)), (0, .ref b)] [.int (iI v19)] _
        have i40 := f21
        have n40_ := f22
        refine tm_if_eq (tgt := 101) dX12_signed_76 (by decide) ⟨by omega, by omega⟩ (fun h23 => ?_) (fun h23 => ?_)
        · refine tm_aload_n dX12_signed_101 rfl 1 rfl ?_
          refine tm_callV (M := m_X12_signed) (pc := 102) (ix := 261) (M' := m_X12_wrong) (As := []) (rest := []) dX12_signed_102 ok_X12_wrong im_X12_wrong se_X12_wrong ml12_261 np_X12_wrong rfl rfl (Nat.le_of_ble_eq_true rfl) (Nat.le_of_ble_eq_true rfl) rfl (c_X12_wrong (d + 4 * lv + 7) (σ := σ)  hR) (fun r24 σ25 hp => ?_)
          obtain ⟨v26, rfl, f27, f28, f29, f30, f31, f32⟩ := hp
          show Tm _ _ 105 b σ25 [(1, .int (iI v3)), (0, .ref b)] [.int (iI v26)] _
          exact tm_zret (v := v26) rfl (by omega) dX12_signed_105 (⟨_, rfl, by omega, (Fr.rfl.trans (Fr.sub f28 (by decide) (by decide) (by decide))), f29, (tr1.fail (PBF.of tr1.nn f28 (by decide) (by decide) (by decide) (FLT.wr f31 f32)) (fun q => g1f (by omega) (nnm_ (by omega)) (n40_ (by omega)) (WRG.of f32))).1, fun q => absurd q (by omega), by rw [show v26 = 0 from f27]; exact PRS.no (tr1.fail (PBF.of tr1.nn f28 (by decide) (by decide) (by decide) (FLT.wr f31 f32)) (fun q => g1f (by omega) (nnm_ (by omega)) (n40_ (by omega)) (WRG.of f32))).2, rs_F f28 (by decide) (rfl)⟩)
        · refine tm_aload_n dX12_signed_79 rfl 1 rfl ?_
          refine tm_callV (M := m_X12_signed) (pc := 80) (ix := 265) (M' := m_X12_advance) (As := []) (rest := []) dX12_signed_80 ok_X12_advance im_X12_advance se_X12_advance ml12_265 np_X12_advance rfl rfl (Nat.le_of_ble_eq_true rfl) (Nat.le_of_ble_eq_true rfl) rfl (c_X12_advance (d + 4 * lv + 3) (σ := σ)  hR (by have z := tr1.2.2.1.1.1; omega)) (fun r33 σ34 hp => ?_)
          obtain ⟨rfl, f36, f37, f38, f39, f40⟩ := hp
          show Tm _ _ 83 b σ34 [(1, .int (iI v3)), (0, .ref b)] [] _
          have tr2 := tr1.adv f37 f39 f40 (by have z := (i40 (by omega)).1; omega) (fun q => g1p (by omega) (nnm_ (by omega)) (i40 (by omega)) f36)
          refine tm_aload_n dX12_signed_83 rfl 1 rfl ?_
          refine tm_callV (M := m_X12_signed) (pc := 84) (ix := 327) (M' := m_X12_expression) (As := []) (rest := []) dX12_signed_84 ok_X12_expression im_X12_expression se_X12_expression ml12_327 np_X12_expression rfl rfl (Nat.le_of_ble_eq_true rfl) (Nat.le_of_ble_eq_true rfl) rfl (hce (d) (σ := σ34)  f38 tr2.2.2.1 tr2.nn (by rw [show σ34.1 28 = σ.1 28 from rs_F f37 (by decide) (rfl)]; exact h28)) (fun r41 σ42 hp => ?_)
          obtain ⟨v43, rfl, f44, f45, f46, f47, f48, f49, f50⟩ := hp
          show Tm _ _ 87 b σ42 [(1, .int (iI v3)), (0, .ref b)] [.int (iI v43)] _
          have xp0 := f44
          have xp1 := f45
          have xp2 := f46
          have xp3 := f47
          have xp4 := f48
          have xp5 := f49
          have xp6 := f50
          have e28x : σ42.1 28 = σ.1 28 := xp6.trans (rs_F f37 (by decide) (rfl) : σ34.1 28 = σ.1 28)
          refine tm_if_eq (tgt := 99) dX12_signed_87 (by decide) ⟨by omega, by omega⟩ (fun h51 => ?_) (fun h51 => ?_)
          · refine tm_iconst dX12_signed_99 ?_
            exact tm_zret (v := 0) rfl (by decide) dX12_signed_100 (⟨_, rfl, by omega, ((Fr.rfl.trans (Fr.sub f37 (by decide) (by decide) (by decide))).trans (Fr.sub f45 (by decide) (by decide) (by decide))), f46, (tr2.fail xp3 (xp5.2 (by omega))).1, fun q => absurd q (by decide), PRS.no (tr2.fail xp3 (xp5.2 (by omega))).2, e28x⟩)
          · have tr3 := tr2.sub xp3 (xp4 (by omega)) (xp5.1 (by omega))
            refine tm_aload_n dX12_signed_90 rfl 1 rfl ?_
            refine tm_bipush dX12_signed_91 (by decide) ?_
            refine tm_callV (M := m_X12_signed) (pc := 93) (ix := 330) (M' := m_X12_need) (As := [.int (iI 41)]) (rest := []) dX12_signed_93 ok_X12_need im_X12_need se_X12_need ml12_330 np_X12_need rfl rfl (Nat.le_of_ble_eq_true rfl) (Nat.le_of_ble_eq_true rfl) rfl (c_X12_need (d + 4 * lv + 2) (σ := σ42) (c := 41) f46 (by have z := tr3.2.2.1.1.1; omega) (by omega)) (fun r52 σ53 hp => ?_)
            obtain ⟨v54, rfl, f55, f56, f57, f58, f59, f60, f61⟩ := hp
            show Tm _ _ 96 b σ53 [(1, .int (iI v3)), (0, .ref b)] [.int (iI v54)] _
            have yn0 := f55
            have yn1 := f56
            have yn2 := f57
            have yn3 := f58
            have yn4 := f59
            have yn5 := f60
            have yn6 := f61
            refine tm_if_ne (tgt := 106) dX12_signed_96 (by decide) ⟨by omega, by omega⟩ (fun h62 => ?_) (fun h62 => ?_)
            · have ynq := yn3 (by omega)
              have tr4 := tr3.needy f56 ynq.2.2.1 ynq.2.2.2.1 ynq.2.2.2.2 (by have := ynq.1.1; omega) (fun q => gn_41 ynq.1 ynq.2.1)
              have gt : GTm σ53 := (xp4 (by omega)).2.2.1.fr f56 (by decide)
              have gtr := (xp4 (by omega)).2.2.1
              unfold GTm at gtr
              have k34 := f56.1 34 (by decide)
              have e28 : σ53.1 28 = σ.1 28 := by rw [f56.1 28 (by decide)]; exact e28x
              have rdj := tr4.2.2.1.2
              have tkj := tr4.2.2.1.1.1
              refine tm_iload_n dX12_signed_106 rfl 0 rfl ?_
              refine tm_if_eq (tgt := 125) dX12_signed_107 (by decide) ⟨by omega, by omega⟩ (fun h63 => ?_) (fun h63 => ?_)
              · refine tm_iconst dX12_signed_125 ?_
                exact tm_zret (v := 1) rfl (by decide) dX12_signed_126 (⟨_, rfl, by omega, (((Fr.rfl.trans (Fr.sub f37 (by decide) (by decide) (by decide))).trans (Fr.sub f45 (by decide) (by decide) (by decide))).trans (Fr.sub f56 (by decide) (by decide) (by decide))), f57, tr4.1, fun _ => tr4.exs (by decide) gt (e28), tr4.prs, e28⟩)
              · exact absurd h63 (by omega)
            · refine tm_iconst dX12_signed_99 ?_
              exact tm_zret (v := 0) rfl (by decide) dX12_signed_100 (⟨_, rfl, by omega, (((Fr.rfl.trans (Fr.sub f37 (by decide) (by decide) (by decide))).trans (Fr.sub f45 (by decide) (by decide) (by decide))).trans (Fr.sub f56 (by decide) (by decide) (by decide))), f57, (tr3.fail (PBF.of tr3.nn f56 (by decide) (by decide) (by decide) yn5) (fun q => gf_41 (yn4 (by omega)) (yn6 (by omega)))).1, fun q => absurd q (by decide), PRS.no (tr3.fail (PBF.of tr3.nn f56 (by decide) (by decide) (by decide) yn5) (fun q => gf_41 (yn4 (by omega)) (yn6 (by omega)))).2, by rw [f56.1 28 (by decide)]; exact e28x⟩)
      · refine tm_aload_n dX12_signed_46 rfl 1 rfl ?_
        refine tm_iconst dX12_signed_47 ?_
        refine tm_aload_n dX12_signed_48 rfl 1 rfl ?_
        refine tm_aload_n dX12_signed_49 rfl 1 rfl ?_
        refine tm_getW (t := σ.2.2 24 0) dX12_signed_50 fl12_219 (rfl) ?_
        refine tm_aload_n dX12_signed_53 rfl 1 rfl ?_
        refine tm_getS (k := 19) (t := σ.1 19) dX12_signed_54 (by decide) fl12_216 rfl (rfl) ?_
        have g64 := RG.s hR 19
        refine tm_callV (M := m_X12_signed) (pc := 57) (ix := 323) (M' := m_X12_nameOf) (As := [.long (σ.2.2 24 0), .int (iI (σ.1 19))]) (rest := [.int (iI 2), .ref b]) dX12_signed_57 ok_X12_nameOf im_X12_nameOf se_X12_nameOf ml12_323 np_X12_nameOf rfl rfl (Nat.le_of_ble_eq_true rfl) (Nat.le_of_ble_eq_true rfl) rfl (c_X12_nameOf (d + 4 * lv + 6) (σ := σ) (w := σ.2.2 24 0) (p := σ.1 19) hR tr1.nn (by have z := tr1.2.2.1.2.2.1; omega) (by omega)) (fun r65 σ66 hp => ?_)
        obtain ⟨v67, rfl, f68, f69, f70, f71, f72⟩ := hp
        show Tm _ _ 60 b σ66 [(1, .int (iI v3)), (0, .ref b)] [.int (iI v67), .int (iI 2), .ref b] _
        have nv := f71
        have n20 : σ66.1 20 = _ := f68.1 20 (by decide)
        have n21 : σ66.1 21 = _ := f68.1 21 (by decide)
        refine tm_callV (M := m_X12_signed) (pc := 60) (ix := 301) (M' := m_X12_give) (As := [.int (iI 2), .int (iI v67)]) (rest := []) dX12_signed_60 ok_X12_give im_X12_give se_X12_give ml12_301 np_X12_give rfl rfl (Nat.le_of_ble_eq_true rfl) (Nat.le_of_ble_eq_true rfl) rfl (c2_X12_give (d + 4 * lv + 7) (σ := σ66) (k := 2) (w := v67) f69 (by omega) (by omega)) (fun r73 σ74 hp => ?_)
        obtain ⟨rfl, f76, f77, f78⟩ := hp
        show Tm _ _ 63 b σ74 [(1, .int (iI v3)), (0, .ref b)] [] _
        have gv := f78
        have n20b : σ74.1 20 = _ := f76.1 20 (by decide)
        have n21b : σ74.1 21 = _ := f76.1 21 (by decide)
        have tk9 := tr1.2.2.1.1.1
        refine tm_aload_n dX12_signed_63 rfl 1 rfl ?_
        refine tm_callV (M := m_X12_signed) (pc := 64) (ix := 265) (M' := m_X12_advance) (As := []) (rest := []) dX12_signed_64 ok_X12_advance im_X12_advance se_X12_advance ml12_265 np_X12_advance rfl rfl (Nat.le_of_ble_eq_true rfl) (Nat.le_of_ble_eq_true rfl) rfl (c_X12_advance (d + 4 * lv + 3) (σ := σ74)  f77 (by omega)) (fun r79 σ80 hp => ?_)
        obtain ⟨rfl, f82, f83, f84, f85, f86⟩ := hp
        show Tm _ _ 67 b σ80 [(1, .int (iI v3)), (0, .ref b)] [] _
        have tr5 := tr1.nameadv (inm (by omega)) f70 f68 f72 f76 f82 f83 f85 f86
        have rdg := tr5.2.2.1
        unfold RDY at rdg
        have gt : GTm σ80 := by unfold GTm; rw [f83.1 39 (by decide), f83.1 40 (by decide), gv.1, gv.2]; exact ⟨Or.inr rfl, fun _ => by omega⟩
        have e28 : σ80.1 28 = σ.1 28 := rs_F f83 (by decide) (rs_F f76 (by decide) (rs_F f68 (by decide) (rfl)))
        refine tm_goto (tgt := 106) dX12_signed_67 (by decide) ?_
        have rdj := tr5.2.2.1.2
        have tkj := tr5.2.2.1.1.1
        refine tm_iload_n dX12_signed_106 rfl 0 rfl ?_
        refine tm_if_eq (tgt := 125) dX12_signed_107 (by decide) ⟨by omega, by omega⟩ (fun h87 => ?_) (fun h87 => ?_)
        · refine tm_iconst dX12_signed_125 ?_
          exact tm_zret (v := 1) rfl (by decide) dX12_signed_126 (⟨_, rfl, by omega, (((Fr.rfl.trans (Fr.sub f68 (by decide) (by decide) (by decide))).trans (Fr.sub f76 (by decide) (by decide) (by decide))).trans (Fr.sub f83 (by decide) (by decide) (by decide))), f84, tr5.1, fun _ => tr5.exs (by decide) gt (e28), tr5.prs, e28⟩)
        · exact absurd h87 (by omega)
    · refine tm_aload_n dX12_signed_23 rfl 1 rfl ?_
      refine tm_iconst dX12_signed_24 ?_
      refine tm_aload_n dX12_signed_25 rfl 1 rfl ?_
      refine tm_getS (k := 23) (t := σ.1 23) dX12_signed_26 (by decide) fl12_223 rfl (rfl) ?_
      have g88 := RG.s hR 23
      refine tm_callV (M := m_X12_signed) (pc := 29) (ix := 301) (M' := m_X12_give) (As := [.int (iI 1), .int (iI (σ.1 23))]) (rest := []) dX12_signed_29 ok_X12_give im_X12_give se_X12_give ml12_301 np_X12_give rfl rfl (Nat.le_of_ble_eq_true rfl) (Nat.le_of_ble_eq_true rfl) rfl (c2_X12_give (d + 4 * lv + 7) (σ := σ) (k := 1) (w := σ.1 23) hR (by omega) (by omega)) (fun r89 σ90 hp => ?_)
      obtain ⟨rfl, f92, f93, f94⟩ := hp
      show Tm _ _ 32 b σ90 [(1, .int (iI v3)), (0, .ref b)] [] _
      have tr6 := tr1.nop f92 (by decide) (by decide) (by decide) (by decide)
      have gv := f94
      have so3 : σ90.1 22 = 3 := by rw [f92.1 22 (by decide)]; omega
      refine tm_aload_n dX12_signed_32 rfl 1 rfl ?_
      refine tm_callV (M := m_X12_signed) (pc := 33) (ix := 265) (M' := m_X12_advance) (As := []) (rest := []) dX12_signed_33 ok_X12_advance im_X12_advance se_X12_advance ml12_265 np_X12_advance rfl rfl (Nat.le_of_ble_eq_true rfl) (Nat.le_of_ble_eq_true rfl) rfl (c_X12_advance (d + 4 * lv + 3) (σ := σ90)  f93 (by have z := tr6.2.2.1.1.1; omega)) (fun r95 σ96 hp => ?_)
      obtain ⟨rfl, f98, f99, f100, f101, f102⟩ := hp
      show Tm _ _ 36 b σ96 [(1, .int (iI v3)), (0, .ref b)] [] _
      have tr7 := tr6.adv f99 f101 f102 (by omega) (fun q => g1d so3 f98)
      have gt : GTm σ96 := by unfold GTm; rw [f99.1 39 (by decide), f99.1 40 (by decide), gv.1]; exact ⟨Or.inl rfl, fun q => absurd q (by decide)⟩
      have e28 : σ96.1 28 = σ.1 28 := rs_F f99 (by decide) (rs_F f92 (by decide) (rfl))
      refine tm_goto (tgt := 106) dX12_signed_36 (by decide) ?_
      have rdj := tr7.2.2.1.2
      have tkj := tr7.2.2.1.1.1
      refine tm_iload_n dX12_signed_106 rfl 0 rfl ?_
      refine tm_if_eq (tgt := 125) dX12_signed_107 (by decide) ⟨by omega, by omega⟩ (fun h103 => ?_) (fun h103 => ?_)
      · refine tm_iconst dX12_signed_125 ?_
        exact tm_zret (v := 1) rfl (by decide) dX12_signed_126 (⟨_, rfl, by omega, ((Fr.rfl.trans (Fr.sub f92 (by decide) (by decide) (by decide))).trans (Fr.sub f99 (by decide) (by decide) (by decide))), f100, tr7.1, fun _ => tr7.exs (by decide) gt (e28), tr7.prs, e28⟩)
      · exact absurd h103 (by omega)
  · refine tm_aload_n dX12_signed_11 rfl 1 rfl ?_
    refine tm_callV (M := m_X12_signed) (pc := 12) (ix := 265) (M' := m_X12_advance) (As := []) (rest := []) dX12_signed_12 ok_X12_advance im_X12_advance se_X12_advance ml12_265 np_X12_advance rfl rfl (Nat.le_of_ble_eq_true rfl) (Nat.le_of_ble_eq_true rfl) rfl (c_X12_advance (d + 4 * lv + 3) (σ := σ)  hR (by have z := tr0.2.2.1.1.1; omega)) (fun r104 σ105 hp => ?_)
    obtain ⟨rfl, f107, f108, f109, f110, f111⟩ := hp
    show Tm _ _ 15 b σ105 [(1, .int (iI v3)), (0, .ref b)] [] _
    have tr8 := tr0.adv f108 f110 f111 (by have z := (i45 (by omega)).1; omega) (fun q => g0m (i45 (by omega)) f107)
    refine tm_aload_n dX12_signed_15 rfl 1 rfl ?_
    refine tm_getS (k := 22) (t := σ105.1 22) dX12_signed_16 (by decide) fl12_226 rfl (rfl) ?_
    have g112 := RG.s f109 22
    refine tm_iconst dX12_signed_19 ?_
    refine tm_icmp_ne (tgt := 39) dX12_signed_20 (by decide) ⟨by omega, by omega⟩ ⟨by decide, by decide⟩ (fun h113 => ?_) (fun h113 => ?_)
    · refine tm_aload_n dX12_signed_39 rfl 1 rfl ?_
      refine tm_callV (M := m_X12_signed) (pc := 40) (ix := 320) (M' := m_X12_isName) (As := []) (rest := []) dX12_signed_40 ok_X12_isName im_X12_isName se_X12_isName ml12_320 np_X12_isName rfl rfl (Nat.le_of_ble_eq_true rfl) (Nat.le_of_ble_eq_true rfl) rfl (c2_X12_isName (d + 4 * lv + 7) (σ := σ105)  f109) (fun r114 σ115 hp => ?_)
      obtain ⟨v116, rfl, rfl, f117, f118, f119⟩ := hp
      show Tm _ _ 43 b σ105 [(1, .int (iI v3)), (0, .ref b)] [.int (iI v116)] _
      have inm := f118
      have nnm_ := f119
      refine tm_if_eq (tgt := 70) dX12_signed_43 (by decide) ⟨by omega, by omega⟩ (fun h120 => ?_) (fun h120 => ?_)
      · refine tm_aload_n dX12_signed_70 rfl 1 rfl ?_
        refine tm_bipush dX12_signed_71 (by decide) ?_
        refine tm_callV (M := m_X12_signed) (pc := 73) (ix := 258) (M' := m_X12_isSign) (As := [.int (iI 40)]) (rest := []) dX12_signed_73 ok_X12_isSign im_X12_isSign se_X12_isSign ml12_258 np_X12_isSign rfl rfl (Nat.le_of_ble_eq_true rfl) (Nat.le_of_ble_eq_true rfl) rfl (c2_X12_isSign (d + 4 * lv + 7) (σ := σ105) (c := 40) f109 (by omega)) (fun r121 σ122 hp => ?_)
        obtain ⟨v123, rfl, rfl, f124, f125, f126⟩ := hp
        show Tm _ _ 76 b σ105 [(1, .int (iI v3)), (0, .ref b)] [.int (iI v123)] _
        have i40 := f125
        have n40_ := f126
        refine tm_if_eq (tgt := 101) dX12_signed_76 (by decide) ⟨by omega, by omega⟩ (fun h127 => ?_) (fun h127 => ?_)
        · refine tm_aload_n dX12_signed_101 rfl 1 rfl ?_
          refine tm_callV (M := m_X12_signed) (pc := 102) (ix := 261) (M' := m_X12_wrong) (As := []) (rest := []) dX12_signed_102 ok_X12_wrong im_X12_wrong se_X12_wrong ml12_261 np_X12_wrong rfl rfl (Nat.le_of_ble_eq_true rfl) (Nat.le_of_ble_eq_true rfl) rfl (c_X12_wrong (d + 4 * lv + 7) (σ := σ105)  f109) (fun r128 σ129 hp => ?_)
          obtain ⟨v130, rfl, f131, f132, f133, f134, f135, f136⟩ := hp
          show Tm _ _ 105 b σ129 [(1, .int (iI v3)), (0, .ref b)] [.int (iI v130)] _
          exact tm_zret (v := v130) rfl (by omega) dX12_signed_105 (⟨_, rfl, by omega, ((Fr.rfl.trans (Fr.sub f108 (by decide) (by decide) (by decide))).trans (Fr.sub f132 (by decide) (by decide) (by decide))), f133, (tr8.fail (PBF.of tr8.nn f132 (by decide) (by decide) (by decide) (FLT.wr f135 f136)) (fun q => g1f (by omega) (nnm_ (by omega)) (n40_ (by omega)) (WRG.of f136))).1, fun q => absurd q (by omega), by rw [show v130 = 0 from f131]; exact PRS.no (tr8.fail (PBF.of tr8.nn f132 (by decide) (by decide) (by decide) (FLT.wr f135 f136)) (fun q => g1f (by omega) (nnm_ (by omega)) (n40_ (by omega)) (WRG.of f136))).2, rs_F f132 (by decide) (rs_F f108 (by decide) (rfl))⟩)
        · refine tm_aload_n dX12_signed_79 rfl 1 rfl ?_
          refine tm_callV (M := m_X12_signed) (pc := 80) (ix := 265) (M' := m_X12_advance) (As := []) (rest := []) dX12_signed_80 ok_X12_advance im_X12_advance se_X12_advance ml12_265 np_X12_advance rfl rfl (Nat.le_of_ble_eq_true rfl) (Nat.le_of_ble_eq_true rfl) rfl (c_X12_advance (d + 4 * lv + 3) (σ := σ105)  f109 (by have z := tr8.2.2.1.1.1; omega)) (fun r137 σ138 hp => ?_)
          obtain ⟨rfl, f140, f141, f142, f143, f144⟩ := hp
          show Tm _ _ 83 b σ138 [(1, .int (iI v3)), (0, .ref b)] [] _
          have tr9 := tr8.adv f141 f143 f144 (by have z := (i40 (by omega)).1; omega) (fun q => g1p (by omega) (nnm_ (by omega)) (i40 (by omega)) f140)
          refine tm_aload_n dX12_signed_83 rfl 1 rfl ?_
          refine tm_callV (M := m_X12_signed) (pc := 84) (ix := 327) (M' := m_X12_expression) (As := []) (rest := []) dX12_signed_84 ok_X12_expression im_X12_expression se_X12_expression ml12_327 np_X12_expression rfl rfl (Nat.le_of_ble_eq_true rfl) (Nat.le_of_ble_eq_true rfl) rfl (hce (d) (σ := σ138)  f142 tr9.2.2.1 tr9.nn (by rw [show σ138.1 28 = σ.1 28 from rs_F f141 (by decide) (rs_F f108 (by decide) (rfl))]; exact h28)) (fun r145 σ146 hp => ?_)
          obtain ⟨v147, rfl, f148, f149, f150, f151, f152, f153, f154⟩ := hp
          show Tm _ _ 87 b σ146 [(1, .int (iI v3)), (0, .ref b)] [.int (iI v147)] _
          have xp0 := f148
          have xp1 := f149
          have xp2 := f150
          have xp3 := f151
          have xp4 := f152
          have xp5 := f153
          have xp6 := f154
          have e28x : σ146.1 28 = σ.1 28 := xp6.trans (rs_F f141 (by decide) (rs_F f108 (by decide) (rfl)) : σ138.1 28 = σ.1 28)
          refine tm_if_eq (tgt := 99) dX12_signed_87 (by decide) ⟨by omega, by omega⟩ (fun h155 => ?_) (fun h155 => ?_)
          · refine tm_iconst dX12_signed_99 ?_
            exact tm_zret (v := 0) rfl (by decide) dX12_signed_100 (⟨_, rfl, by omega, (((Fr.rfl.trans (Fr.sub f108 (by decide) (by decide) (by decide))).trans (Fr.sub f141 (by decide) (by decide) (by decide))).trans (Fr.sub f149 (by decide) (by decide) (by decide))), f150, (tr9.fail xp3 (xp5.2 (by omega))).1, fun q => absurd q (by decide), PRS.no (tr9.fail xp3 (xp5.2 (by omega))).2, e28x⟩)
          · have tr10 := tr9.sub xp3 (xp4 (by omega)) (xp5.1 (by omega))
            refine tm_aload_n dX12_signed_90 rfl 1 rfl ?_
            refine tm_bipush dX12_signed_91 (by decide) ?_
            refine tm_callV (M := m_X12_signed) (pc := 93) (ix := 330) (M' := m_X12_need) (As := [.int (iI 41)]) (rest := []) dX12_signed_93 ok_X12_need im_X12_need se_X12_need ml12_330 np_X12_need rfl rfl (Nat.le_of_ble_eq_true rfl) (Nat.le_of_ble_eq_true rfl) rfl (c_X12_need (d + 4 * lv + 2) (σ := σ146) (c := 41) f150 (by have z := tr10.2.2.1.1.1; omega) (by omega)) (fun r156 σ157 hp => ?_)
            obtain ⟨v158, rfl, f159, f160, f161, f162, f163, f164, f165⟩ := hp
            show Tm _ _ 96 b σ157 [(1, .int (iI v3)), (0, .ref b)] [.int (iI v158)] _
            have yn0 := f159
            have yn1 := f160
            have yn2 := f161
            have yn3 := f162
            have yn4 := f163
            have yn5 := f164
            have yn6 := f165
            refine tm_if_ne (tgt := 106) dX12_signed_96 (by decide) ⟨by omega, by omega⟩ (fun h166 => ?_) (fun h166 => ?_)
            · have ynq := yn3 (by omega)
              have tr11 := tr10.needy f160 ynq.2.2.1 ynq.2.2.2.1 ynq.2.2.2.2 (by have := ynq.1.1; omega) (fun q => gn_41 ynq.1 ynq.2.1)
              have gt : GTm σ157 := (xp4 (by omega)).2.2.1.fr f160 (by decide)
              have gtr := (xp4 (by omega)).2.2.1
              unfold GTm at gtr
              have k34 := f160.1 34 (by decide)
              have e28 : σ157.1 28 = σ.1 28 := by rw [f160.1 28 (by decide)]; exact e28x
              have rdj := tr11.2.2.1.2
              have tkj := tr11.2.2.1.1.1
              refine tm_iload_n dX12_signed_106 rfl 0 rfl ?_
              refine tm_if_eq (tgt := 125) dX12_signed_107 (by decide) ⟨by omega, by omega⟩ (fun h167 => ?_) (fun h167 => ?_)
              · exact absurd h167 (by omega)
              · refine tm_aload_n dX12_signed_110 rfl 1 rfl ?_
                refine tm_iconst dX12_signed_111 ?_
                refine tm_iconst dX12_signed_112 ?_
                refine tm_iconst dX12_signed_113 ?_
                refine tm_aload_n dX12_signed_114 rfl 1 rfl ?_
                refine tm_getS (k := 39) (t := σ146.1 39) dX12_signed_115 (by decide) fl12_285 rfl (rs_F f160 (by decide) (rfl)) ?_
                have g168 := RG.s f150 39
                refine tm_aload_n dX12_signed_118 rfl 1 rfl ?_
                refine tm_getS (k := 40) (t := σ146.1 40) dX12_signed_119 (by decide) fl12_288 rfl (rs_F f160 (by decide) (rfl)) ?_
                have g169 := RG.s f150 40
                refine tm_callV (M := m_X12_signed) (pc := 122) (ix := 310) (M' := m_X12_joins) (As := [.int (iI 2), .int (iI 1), .int (iI 0), .int (iI (σ146.1 39)), .int (iI (σ146.1 40))]) (rest := []) dX12_signed_122 ok_X12_joins im_X12_joins se_X12_joins ml12_310 np_X12_joins rfl rfl (Nat.le_of_ble_eq_true rfl) (Nat.le_of_ble_eq_true rfl) rfl (c_X12_joins (d + 4 * lv + 5) (σ := σ157) (k := 2) (ak := 1) (a := 0) (bk := σ146.1 39) (c := σ146.1 40) f161 (by omega) (by decide) (by omega) (by have z := gt; unfold GTm at z; omega) (by omega) (by omega) (by omega)) (fun r170 σ171 hp => ?_)
                obtain ⟨rfl, f173, f174, f175, f176, f177⟩ := hp
                show Tm _ _ 125 b σ171 [(1, .int (iI v3)), (0, .ref b)] [] _
                have tr12 := tr11.join f173 ⟨f175.1, f175.2.1⟩ f176 f177 (by decide) hrd
                have gtj : GTm σ171 := by unfold GTm; rw [f175.2.2.1, f175.2.2.2, f175.1]; exact ⟨Or.inr rfl, fun _ => by omega⟩
                refine tm_iconst dX12_signed_125 ?_
                exact tm_zret (v := 1) rfl (by decide) dX12_signed_126 (⟨_, rfl, by omega, (((((Fr.rfl.trans (Fr.sub f108 (by decide) (by decide) (by decide))).trans (Fr.sub f141 (by decide) (by decide) (by decide))).trans (Fr.sub f149 (by decide) (by decide) (by decide))).trans (Fr.sub f160 (by decide) (by decide) (by decide))).trans (Fr.sub f173 (by decide) (by decide) (by decide))), f174, tr12.1, fun _ => tr12.exs (by decide) gtj (by rw [f173.1 28 (by decide)]; exact e28), tr12.prs, by rw [f173.1 28 (by decide)]; exact e28⟩)
            · refine tm_iconst dX12_signed_99 ?_
              exact tm_zret (v := 0) rfl (by decide) dX12_signed_100 (⟨_, rfl, by omega, ((((Fr.rfl.trans (Fr.sub f108 (by decide) (by decide) (by decide))).trans (Fr.sub f141 (by decide) (by decide) (by decide))).trans (Fr.sub f149 (by decide) (by decide) (by decide))).trans (Fr.sub f160 (by decide) (by decide) (by decide))), f161, (tr10.fail (PBF.of tr10.nn f160 (by decide) (by decide) (by decide) yn5) (fun q => gf_41 (yn4 (by omega)) (yn6 (by omega)))).1, fun q => absurd q (by decide), PRS.no (tr10.fail (PBF.of tr10.nn f160 (by decide) (by decide) (by decide) yn5) (fun q => gf_41 (yn4 (by omega)) (yn6 (by omega)))).2, by rw [f160.1 28 (by decide)]; exact e28x⟩)
      · refine tm_aload_n dX12_signed_46 rfl 1 rfl ?_
        refine tm_iconst dX12_signed_47 ?_
        refine tm_aload_n dX12_signed_48 rfl 1 rfl ?_
        refine tm_aload_n dX12_signed_49 rfl 1 rfl ?_
        refine tm_getW (t := σ105.2.2 24 0) dX12_signed_50 fl12_219 (rfl) ?_
        refine tm_aload_n dX12_signed_53 rfl 1 rfl ?_
        refine tm_getS (k := 19) (t := σ105.1 19) dX12_signed_54 (by decide) fl12_216 rfl (rfl) ?_
        have g178 := RG.s f109 19
        refine tm_callV (M := m_X12_signed) (pc := 57) (ix := 323) (M' := m_X12_nameOf) (As := [.long (σ105.2.2 24 0), .int (iI (σ105.1 19))]) (rest := [.int (iI 2), .ref b]) dX12_signed_57 ok_X12_nameOf im_X12_nameOf se_X12_nameOf ml12_323 np_X12_nameOf rfl rfl (Nat.le_of_ble_eq_true rfl) (Nat.le_of_ble_eq_true rfl) rfl (c_X12_nameOf (d + 4 * lv + 6) (σ := σ105) (w := σ105.2.2 24 0) (p := σ105.1 19) f109 tr8.nn (by have z := tr8.2.2.1.2.2.1; omega) (by omega)) (fun r179 σ180 hp => ?_)
        obtain ⟨v181, rfl, f182, f183, f184, f185, f186⟩ := hp
        show Tm _ _ 60 b σ180 [(1, .int (iI v3)), (0, .ref b)] [.int (iI v181), .int (iI 2), .ref b] _
        have nv := f185
        have n20 : σ180.1 20 = _ := f182.1 20 (by decide)
        have n21 : σ180.1 21 = _ := f182.1 21 (by decide)
        refine tm_callV (M := m_X12_signed) (pc := 60) (ix := 301) (M' := m_X12_give) (As := [.int (iI 2), .int (iI v181)]) (rest := []) dX12_signed_60 ok_X12_give im_X12_give se_X12_give ml12_301 np_X12_give rfl rfl (Nat.le_of_ble_eq_true rfl) (Nat.le_of_ble_eq_true rfl) rfl (c2_X12_give (d + 4 * lv + 7) (σ := σ180) (k := 2) (w := v181) f183 (by omega) (by omega)) (fun r187 σ188 hp => ?_)
        obtain ⟨rfl, f190, f191, f192⟩ := hp
        show Tm _ _ 63 b σ188 [(1, .int (iI v3)), (0, .ref b)] [] _
        have gv := f192
        have n20b : σ188.1 20 = _ := f190.1 20 (by decide)
        have n21b : σ188.1 21 = _ := f190.1 21 (by decide)
        have tk9 := tr8.2.2.1.1.1
        refine tm_aload_n dX12_signed_63 rfl 1 rfl ?_
        refine tm_callV (M := m_X12_signed) (pc := 64) (ix := 265) (M' := m_X12_advance) (As := []) (rest := []) dX12_signed_64 ok_X12_advance im_X12_advance se_X12_advance ml12_265 np_X12_advance rfl rfl (Nat.le_of_ble_eq_true rfl) (Nat.le_of_ble_eq_true rfl) rfl (c_X12_advance (d + 4 * lv + 3) (σ := σ188)  f191 (by omega)) (fun r193 σ194 hp => ?_)
        obtain ⟨rfl, f196, f197, f198, f199, f200⟩ := hp
        show Tm _ _ 67 b σ194 [(1, .int (iI v3)), (0, .ref b)] [] _
        have tr13 := tr8.nameadv (inm (by omega)) f184 f182 f186 f190 f196 f197 f199 f200
        have rdg := tr13.2.2.1
        unfold RDY at rdg
        have gt : GTm σ194 := by unfold GTm; rw [f197.1 39 (by decide), f197.1 40 (by decide), gv.1, gv.2]; exact ⟨Or.inr rfl, fun _ => by omega⟩
        have e28 : σ194.1 28 = σ.1 28 := rs_F f197 (by decide) (rs_F f190 (by decide) (rs_F f182 (by decide) (rs_F f108 (by decide) (rfl))))
        refine tm_goto (tgt := 106) dX12_signed_67 (by decide) ?_
        have rdj := tr13.2.2.1.2
        have tkj := tr13.2.2.1.1.1
        refine tm_iload_n dX12_signed_106 rfl 0 rfl ?_
        refine tm_if_eq (tgt := 125) dX12_signed_107 (by decide) ⟨by omega, by omega⟩ (fun h201 => ?_) (fun h201 => ?_)
        · exact absurd h201 (by omega)
        · refine tm_aload_n dX12_signed_110 rfl 1 rfl ?_
          refine tm_iconst dX12_signed_111 ?_
          refine tm_iconst dX12_signed_112 ?_
          refine tm_iconst dX12_signed_113 ?_
          refine tm_aload_n dX12_signed_114 rfl 1 rfl ?_
          refine tm_getS (k := 39) (t := σ188.1 39) dX12_signed_115 (by decide) fl12_285 rfl (rs_F f197 (by decide) (rfl)) ?_
          have g202 := RG.s f191 39
          refine tm_aload_n dX12_signed_118 rfl 1 rfl ?_
          refine tm_getS (k := 40) (t := σ188.1 40) dX12_signed_119 (by decide) fl12_288 rfl (rs_F f197 (by decide) (rfl)) ?_
          have g203 := RG.s f191 40
          refine tm_callV (M := m_X12_signed) (pc := 122) (ix := 310) (M' := m_X12_joins) (As := [.int (iI 2), .int (iI 1), .int (iI 0), .int (iI (σ188.1 39)), .int (iI (σ188.1 40))]) (rest := []) dX12_signed_122 ok_X12_joins im_X12_joins se_X12_joins ml12_310 np_X12_joins rfl rfl (Nat.le_of_ble_eq_true rfl) (Nat.le_of_ble_eq_true rfl) rfl (c_X12_joins (d + 4 * lv + 5) (σ := σ194) (k := 2) (ak := 1) (a := 0) (bk := σ188.1 39) (c := σ188.1 40) f198 (by omega) (by decide) (by omega) (by have z := gt; unfold GTm at z; omega) (by omega) (by omega) (by omega)) (fun r204 σ205 hp => ?_)
          obtain ⟨rfl, f207, f208, f209, f210, f211⟩ := hp
          show Tm _ _ 125 b σ205 [(1, .int (iI v3)), (0, .ref b)] [] _
          have tr14 := tr13.join f207 ⟨f209.1, f209.2.1⟩ f210 f211 (by decide) hrd
          have gtj : GTm σ205 := by unfold GTm; rw [f209.2.2.1, f209.2.2.2, f209.1]; exact ⟨Or.inr rfl, fun _ => by omega⟩
          refine tm_iconst dX12_signed_125 ?_
          exact tm_zret (v := 1) rfl (by decide) dX12_signed_126 (⟨_, rfl, by omega, (((((Fr.rfl.trans (Fr.sub f108 (by decide) (by decide) (by decide))).trans (Fr.sub f182 (by decide) (by decide) (by decide))).trans (Fr.sub f190 (by decide) (by decide) (by decide))).trans (Fr.sub f197 (by decide) (by decide) (by decide))).trans (Fr.sub f207 (by decide) (by decide) (by decide))), f208, tr14.1, fun _ => tr14.exs (by decide) gtj (by rw [f207.1 28 (by decide)]; exact e28), tr14.prs, by rw [f207.1 28 (by decide)]; exact e28⟩)
    · refine tm_aload_n dX12_signed_23 rfl 1 rfl ?_
      refine tm_iconst dX12_signed_24 ?_
      refine tm_aload_n dX12_signed_25 rfl 1 rfl ?_
      refine tm_getS (k := 23) (t := σ105.1 23) dX12_signed_26 (by decide) fl12_223 rfl (rfl) ?_
      have g212 := RG.s f109 23
      refine tm_callV (M := m_X12_signed) (pc := 29) (ix := 301) (M' := m_X12_give) (As := [.int (iI 1), .int (iI (σ105.1 23))]) (rest := []) dX12_signed_29 ok_X12_give im_X12_give se_X12_give ml12_301 np_X12_give rfl rfl (Nat.le_of_ble_eq_true rfl) (Nat.le_of_ble_eq_true rfl) rfl (c2_X12_give (d + 4 * lv + 7) (σ := σ105) (k := 1) (w := σ105.1 23) f109 (by omega) (by omega)) (fun r213 σ214 hp => ?_)
      obtain ⟨rfl, f216, f217, f218⟩ := hp
      show Tm _ _ 32 b σ214 [(1, .int (iI v3)), (0, .ref b)] [] _
      have tr15 := tr8.nop f216 (by decide) (by decide) (by decide) (by decide)
      have gv := f218
      have so3 : σ214.1 22 = 3 := by rw [f216.1 22 (by decide)]; omega
      refine tm_aload_n dX12_signed_32 rfl 1 rfl ?_
      refine tm_callV (M := m_X12_signed) (pc := 33) (ix := 265) (M' := m_X12_advance) (As := []) (rest := []) dX12_signed_33 ok_X12_advance im_X12_advance se_X12_advance ml12_265 np_X12_advance rfl rfl (Nat.le_of_ble_eq_true rfl) (Nat.le_of_ble_eq_true rfl) rfl (c_X12_advance (d + 4 * lv + 3) (σ := σ214)  f217 (by have z := tr15.2.2.1.1.1; omega)) (fun r219 σ220 hp => ?_)
      obtain ⟨rfl, f222, f223, f224, f225, f226⟩ := hp
      show Tm _ _ 36 b σ220 [(1, .int (iI v3)), (0, .ref b)] [] _
      have tr16 := tr15.adv f223 f225 f226 (by omega) (fun q => g1d so3 f222)
      have gt : GTm σ220 := by unfold GTm; rw [f223.1 39 (by decide), f223.1 40 (by decide), gv.1]; exact ⟨Or.inl rfl, fun q => absurd q (by decide)⟩
      have e28 : σ220.1 28 = σ.1 28 := rs_F f223 (by decide) (rs_F f216 (by decide) (rs_F f108 (by decide) (rfl)))
      refine tm_goto (tgt := 106) dX12_signed_36 (by decide) ?_
      have rdj := tr16.2.2.1.2
      have tkj := tr16.2.2.1.1.1
      refine tm_iload_n dX12_signed_106 rfl 0 rfl ?_
      refine tm_if_eq (tgt := 125) dX12_signed_107 (by decide) ⟨by omega, by omega⟩ (fun h227 => ?_) (fun h227 => ?_)
      · exact absurd h227 (by omega)
      · refine tm_aload_n dX12_signed_110 rfl 1 rfl ?_
        refine tm_iconst dX12_signed_111 ?_
        refine tm_iconst dX12_signed_112 ?_
        refine tm_iconst dX12_signed_113 ?_
        refine tm_aload_n dX12_signed_114 rfl 1 rfl ?_
        refine tm_getS (k := 39) (t := σ214.1 39) dX12_signed_115 (by decide) fl12_285 rfl (rs_F f223 (by decide) (rfl)) ?_
        have g228 := RG.s f217 39
        refine tm_aload_n dX12_signed_118 rfl 1 rfl ?_
        refine tm_getS (k := 40) (t := σ214.1 40) dX12_signed_119 (by decide) fl12_288 rfl (rs_F f223 (by decide) (rfl)) ?_
        have g229 := RG.s f217 40
        refine tm_callV (M := m_X12_signed) (pc := 122) (ix := 310) (M' := m_X12_joins) (As := [.int (iI 2), .int (iI 1), .int (iI 0), .int (iI (σ214.1 39)), .int (iI (σ214.1 40))]) (rest := []) dX12_signed_122 ok_X12_joins im_X12_joins se_X12_joins ml12_310 np_X12_joins rfl rfl (Nat.le_of_ble_eq_true rfl) (Nat.le_of_ble_eq_true rfl) rfl (c_X12_joins (d + 4 * lv + 5) (σ := σ220) (k := 2) (ak := 1) (a := 0) (bk := σ214.1 39) (c := σ214.1 40) f224 (by omega) (by decide) (by omega) (by have z := gt; unfold GTm at z; omega) (by omega) (by omega) (by omega)) (fun r230 σ231 hp => ?_)
        obtain ⟨rfl, f233, f234, f235, f236, f237⟩ := hp
        show Tm _ _ 125 b σ231 [(1, .int (iI v3)), (0, .ref b)] [] _
        have tr17 := tr16.join f233 ⟨f235.1, f235.2.1⟩ f236 f237 (by decide) hrd
        have gtj : GTm σ231 := by unfold GTm; rw [f235.2.2.1, f235.2.2.2, f235.1]; exact ⟨Or.inr rfl, fun _ => by omega⟩
        refine tm_iconst dX12_signed_125 ?_
        exact tm_zret (v := 1) rfl (by decide) dX12_signed_126 (⟨_, rfl, by omega, ((((Fr.rfl.trans (Fr.sub f108 (by decide) (by decide) (by decide))).trans (Fr.sub f216 (by decide) (by decide) (by decide))).trans (Fr.sub f223 (by decide) (by decide) (by decide))).trans (Fr.sub f233 (by decide) (by decide) (by decide))), f234, tr17.1, fun _ => tr17.exs (by decide) gtj (by rw [f233.1 28 (by decide)]; exact e28), tr17.prs, by rw [f233.1 28 (by decide)]; exact e28⟩)
end
