abbrev RXJ0 : String := "java/lang/String"
abbrev RXJ1 : String := "java/lang/StringLatin1"
abbrev cJ0_length_8abf5 : ByteArray := prog_18_method_54_code
def yJ0_length_8abf5 : MethodName := ⟨RXJ0, "length", "()I"⟩
abbrev cJ0_indexOf_0f7a4 : ByteArray := prog_18_method_79_code
def yJ0_indexOf_0f7a4 : MethodName := ⟨RXJ0, "indexOf", "(I)I"⟩
abbrev cJ0_indexOf_7cf53 : ByteArray := prog_18_method_80_code
def yJ0_indexOf_7cf53 : MethodName := ⟨RXJ0, "indexOf", "(II)I"⟩
abbrev cJ0_coder_7d493 : ByteArray := prog_18_method_152_code
def yJ0_coder_7d493 : MethodName := ⟨RXJ0, "coder", "()B"⟩
abbrev cJ0_isLatin1_aae02 : ByteArray := prog_18_method_154_code
def yJ0_isLatin1_aae02 : MethodName := ⟨RXJ0, "isLatin1", "()Z"⟩
abbrev cJ1_canEncode_9a6ad : ByteArray := prog_19_method_4_code
def yJ1_canEncode_9a6ad : MethodName := ⟨RXJ1, "canEncode", "(I)Z"⟩
abbrev cJ1_indexOf_4cfef : ByteArray := prog_19_method_22_code
def yJ1_indexOf_4cfef : MethodName := ⟨RXJ1, "indexOf", "([BIII)I"⟩
abbrev cJ1_indexOfChar_4cfef : ByteArray := prog_19_method_23_code
def yJ1_indexOfChar_4cfef : MethodName := ⟨RXJ1, "indexOfChar", "([BIII)I"⟩
theorem dJ0_length_8abf5_0 : decode cJ0_length_8abf5 0 = .ok (.aload_n 0, 1) := by decide +kernel
theorem dJ0_length_8abf5_1 : decode cJ0_length_8abf5 1 = .ok (.getfield 9, 3) := by decide +kernel
theorem dJ0_length_8abf5_4 : decode cJ0_length_8abf5 4 = .ok (.arraylength, 1) := by decide +kernel
theorem dJ0_length_8abf5_5 : decode cJ0_length_8abf5 5 = .ok (.aload_n 0, 1) := by decide +kernel
theorem dJ0_length_8abf5_6 : decode cJ0_length_8abf5 6 = .ok (.invokevirtual 335, 3) := by decide +kernel
theorem dJ0_length_8abf5_9 : decode cJ0_length_8abf5 9 = .ok (.ishr, 1) := by decide +kernel
theorem dJ0_length_8abf5_10 : decode cJ0_length_8abf5 10 = .ok (.ireturn, 1) := by decide +kernel
theorem dJ0_indexOf_0f7a4_0 : decode cJ0_indexOf_0f7a4 0 = .ok (.aload_n 0, 1) := by decide +kernel
theorem dJ0_indexOf_0f7a4_1 : decode cJ0_indexOf_0f7a4 1 = .ok (.iload_n 1, 1) := by decide +kernel
theorem dJ0_indexOf_0f7a4_2 : decode cJ0_indexOf_0f7a4 2 = .ok (.iconst 0, 1) := by decide +kernel
theorem dJ0_indexOf_0f7a4_3 : decode cJ0_indexOf_0f7a4 3 = .ok (.invokevirtual 633, 3) := by decide +kernel
theorem dJ0_indexOf_0f7a4_6 : decode cJ0_indexOf_0f7a4 6 = .ok (.ireturn, 1) := by decide +kernel
theorem dJ0_indexOf_7cf53_0 : decode cJ0_indexOf_7cf53 0 = .ok (.aload_n 0, 1) := by decide +kernel
theorem dJ0_indexOf_7cf53_1 : decode cJ0_indexOf_7cf53 1 = .ok (.invokevirtual 492, 3) := by decide +kernel
theorem dJ0_indexOf_7cf53_4 : decode cJ0_indexOf_7cf53 4 = .ok (.ifCond .eq 19, 3) := by decide +kernel
theorem dJ0_indexOf_7cf53_7 : decode cJ0_indexOf_7cf53 7 = .ok (.aload_n 0, 1) := by decide +kernel
theorem dJ0_indexOf_7cf53_8 : decode cJ0_indexOf_7cf53 8 = .ok (.getfield 9, 3) := by decide +kernel
theorem dJ0_indexOf_7cf53_11 : decode cJ0_indexOf_7cf53 11 = .ok (.iload_n 1, 1) := by decide +kernel
theorem dJ0_indexOf_7cf53_12 : decode cJ0_indexOf_7cf53 12 = .ok (.iload_n 2, 1) := by decide +kernel
theorem dJ0_indexOf_7cf53_13 : decode cJ0_indexOf_7cf53 13 = .ok (.aload_n 0, 1) := by decide +kernel
theorem dJ0_indexOf_7cf53_14 : decode cJ0_indexOf_7cf53 14 = .ok (.invokevirtual 505, 3) := by decide +kernel
theorem dJ0_indexOf_7cf53_17 : decode cJ0_indexOf_7cf53 17 = .ok (.invokestatic 637, 3) := by decide +kernel
theorem dJ0_indexOf_7cf53_20 : decode cJ0_indexOf_7cf53 20 = .ok (.goto 16, 3) := by decide +kernel
theorem dJ0_indexOf_7cf53_23 : decode cJ0_indexOf_7cf53 23 = .ok (.aload_n 0, 1) := by decide +kernel
theorem dJ0_indexOf_7cf53_24 : decode cJ0_indexOf_7cf53 24 = .ok (.getfield 9, 3) := by decide +kernel
theorem dJ0_indexOf_7cf53_27 : decode cJ0_indexOf_7cf53 27 = .ok (.iload_n 1, 1) := by decide +kernel
theorem dJ0_indexOf_7cf53_28 : decode cJ0_indexOf_7cf53 28 = .ok (.iload_n 2, 1) := by decide +kernel
theorem dJ0_indexOf_7cf53_29 : decode cJ0_indexOf_7cf53 29 = .ok (.aload_n 0, 1) := by decide +kernel
theorem dJ0_indexOf_7cf53_30 : decode cJ0_indexOf_7cf53 30 = .ok (.invokevirtual 505, 3) := by decide +kernel
theorem dJ0_indexOf_7cf53_33 : decode cJ0_indexOf_7cf53 33 = .ok (.invokestatic 640, 3) := by decide +kernel
theorem dJ0_indexOf_7cf53_36 : decode cJ0_indexOf_7cf53 36 = .ok (.ireturn, 1) := by decide +kernel
theorem dJ0_coder_7d493_0 : decode cJ0_coder_7d493 0 = .ok (.getstatic 38, 3) := by decide +kernel
theorem dJ0_coder_7d493_3 : decode cJ0_coder_7d493 3 = .ok (.ifCond .eq 10, 3) := by decide +kernel
theorem dJ0_coder_7d493_6 : decode cJ0_coder_7d493 6 = .ok (.aload_n 0, 1) := by decide +kernel
theorem dJ0_coder_7d493_7 : decode cJ0_coder_7d493 7 = .ok (.getfield 15, 3) := by decide +kernel
theorem dJ0_coder_7d493_10 : decode cJ0_coder_7d493 10 = .ok (.goto 4, 3) := by decide +kernel
theorem dJ0_coder_7d493_13 : decode cJ0_coder_7d493 13 = .ok (.iconst 1, 1) := by decide +kernel
theorem dJ0_coder_7d493_14 : decode cJ0_coder_7d493 14 = .ok (.ireturn, 1) := by decide +kernel
theorem dJ0_isLatin1_aae02_0 : decode cJ0_isLatin1_aae02 0 = .ok (.getstatic 38, 3) := by decide +kernel
theorem dJ0_isLatin1_aae02_3 : decode cJ0_isLatin1_aae02 3 = .ok (.ifCond .eq 14, 3) := by decide +kernel
theorem dJ0_isLatin1_aae02_6 : decode cJ0_isLatin1_aae02 6 = .ok (.aload_n 0, 1) := by decide +kernel
theorem dJ0_isLatin1_aae02_7 : decode cJ0_isLatin1_aae02 7 = .ok (.getfield 15, 3) := by decide +kernel
theorem dJ0_isLatin1_aae02_10 : decode cJ0_isLatin1_aae02 10 = .ok (.ifCond .ne 7, 3) := by decide +kernel
theorem dJ0_isLatin1_aae02_13 : decode cJ0_isLatin1_aae02 13 = .ok (.iconst 1, 1) := by decide +kernel
theorem dJ0_isLatin1_aae02_14 : decode cJ0_isLatin1_aae02 14 = .ok (.goto 4, 3) := by decide +kernel
theorem dJ0_isLatin1_aae02_17 : decode cJ0_isLatin1_aae02 17 = .ok (.iconst 0, 1) := by decide +kernel
theorem dJ0_isLatin1_aae02_18 : decode cJ0_isLatin1_aae02 18 = .ok (.ireturn, 1) := by decide +kernel
theorem dJ1_canEncode_9a6ad_0 : decode cJ1_canEncode_9a6ad 0 = .ok (.iload_n 0, 1) := by decide +kernel
theorem dJ1_canEncode_9a6ad_1 : decode cJ1_canEncode_9a6ad 1 = .ok (.ifCond .lt 14, 3) := by decide +kernel
theorem dJ1_canEncode_9a6ad_4 : decode cJ1_canEncode_9a6ad 4 = .ok (.iload_n 0, 1) := by decide +kernel
theorem dJ1_canEncode_9a6ad_5 : decode cJ1_canEncode_9a6ad 5 = .ok (.sipush 255, 3) := by decide +kernel
theorem dJ1_canEncode_9a6ad_8 : decode cJ1_canEncode_9a6ad 8 = .ok (.if_icmp .gt 7, 3) := by decide +kernel
theorem dJ1_canEncode_9a6ad_11 : decode cJ1_canEncode_9a6ad 11 = .ok (.iconst 1, 1) := by decide +kernel
theorem dJ1_canEncode_9a6ad_12 : decode cJ1_canEncode_9a6ad 12 = .ok (.goto 4, 3) := by decide +kernel
theorem dJ1_canEncode_9a6ad_15 : decode cJ1_canEncode_9a6ad 15 = .ok (.iconst 0, 1) := by decide +kernel
theorem dJ1_canEncode_9a6ad_16 : decode cJ1_canEncode_9a6ad 16 = .ok (.ireturn, 1) := by decide +kernel
theorem dJ1_indexOf_4cfef_0 : decode cJ1_indexOf_4cfef 0 = .ok (.iload_n 1, 1) := by decide +kernel
theorem dJ1_indexOf_4cfef_1 : decode cJ1_indexOf_4cfef 1 = .ok (.invokestatic 88, 3) := by decide +kernel
theorem dJ1_indexOf_4cfef_4 : decode cJ1_indexOf_4cfef 4 = .ok (.ifCond .ne 5, 3) := by decide +kernel
theorem dJ1_indexOf_4cfef_7 : decode cJ1_indexOf_4cfef 7 = .ok (.iconst (-1), 1) := by decide +kernel
theorem dJ1_indexOf_4cfef_8 : decode cJ1_indexOf_4cfef 8 = .ok (.ireturn, 1) := by decide +kernel
theorem dJ1_indexOf_4cfef_9 : decode cJ1_indexOf_4cfef 9 = .ok (.iload_n 2, 1) := by decide +kernel
theorem dJ1_indexOf_4cfef_10 : decode cJ1_indexOf_4cfef 10 = .ok (.iconst 0, 1) := by decide +kernel
theorem dJ1_indexOf_4cfef_11 : decode cJ1_indexOf_4cfef 11 = .ok (.invokestatic 92, 3) := by decide +kernel
theorem dJ1_indexOf_4cfef_14 : decode cJ1_indexOf_4cfef 14 = .ok (.istore_n 2, 1) := by decide +kernel
theorem dJ1_indexOf_4cfef_15 : decode cJ1_indexOf_4cfef 15 = .ok (.iload_n 3, 1) := by decide +kernel
theorem dJ1_indexOf_4cfef_16 : decode cJ1_indexOf_4cfef 16 = .ok (.aload_n 0, 1) := by decide +kernel
theorem dJ1_indexOf_4cfef_17 : decode cJ1_indexOf_4cfef 17 = .ok (.arraylength, 1) := by decide +kernel
theorem dJ1_indexOf_4cfef_18 : decode cJ1_indexOf_4cfef 18 = .ok (.invokestatic 38, 3) := by decide +kernel
theorem dJ1_indexOf_4cfef_21 : decode cJ1_indexOf_4cfef 21 = .ok (.istore_n 3, 1) := by decide +kernel
theorem dJ1_indexOf_4cfef_22 : decode cJ1_indexOf_4cfef 22 = .ok (.iload_n 2, 1) := by decide +kernel
theorem dJ1_indexOf_4cfef_23 : decode cJ1_indexOf_4cfef 23 = .ok (.iload_n 3, 1) := by decide +kernel
theorem dJ1_indexOf_4cfef_24 : decode cJ1_indexOf_4cfef 24 = .ok (.if_icmp .lt 5, 3) := by decide +kernel
theorem dJ1_indexOf_4cfef_27 : decode cJ1_indexOf_4cfef 27 = .ok (.iconst (-1), 1) := by decide +kernel
theorem dJ1_indexOf_4cfef_28 : decode cJ1_indexOf_4cfef 28 = .ok (.ireturn, 1) := by decide +kernel
theorem dJ1_indexOf_4cfef_29 : decode cJ1_indexOf_4cfef 29 = .ok (.aload_n 0, 1) := by decide +kernel
theorem dJ1_indexOf_4cfef_30 : decode cJ1_indexOf_4cfef 30 = .ok (.iload_n 1, 1) := by decide +kernel
theorem dJ1_indexOf_4cfef_31 : decode cJ1_indexOf_4cfef 31 = .ok (.iload_n 2, 1) := by decide +kernel
theorem dJ1_indexOf_4cfef_32 : decode cJ1_indexOf_4cfef 32 = .ok (.iload_n 3, 1) := by decide +kernel
theorem dJ1_indexOf_4cfef_33 : decode cJ1_indexOf_4cfef 33 = .ok (.invokestatic 95, 3) := by decide +kernel
theorem dJ1_indexOf_4cfef_36 : decode cJ1_indexOf_4cfef 36 = .ok (.ireturn, 1) := by decide +kernel
theorem dJ1_indexOfChar_4cfef_0 : decode cJ1_indexOfChar_4cfef 0 = .ok (.iload_n 1, 1) := by decide +kernel
theorem dJ1_indexOfChar_4cfef_1 : decode cJ1_indexOfChar_4cfef 1 = .ok (.i2b, 1) := by decide +kernel
theorem dJ1_indexOfChar_4cfef_2 : decode cJ1_indexOfChar_4cfef 2 = .ok (.istore 4, 2) := by decide +kernel
theorem dJ1_indexOfChar_4cfef_4 : decode cJ1_indexOfChar_4cfef 4 = .ok (.iload_n 2, 1) := by decide +kernel
theorem dJ1_indexOfChar_4cfef_5 : decode cJ1_indexOfChar_4cfef 5 = .ok (.istore 5, 2) := by decide +kernel
theorem dJ1_indexOfChar_4cfef_7 : decode cJ1_indexOfChar_4cfef 7 = .ok (.iload 5, 2) := by decide +kernel
theorem dJ1_indexOfChar_4cfef_9 : decode cJ1_indexOfChar_4cfef 9 = .ok (.iload_n 3, 1) := by decide +kernel
theorem dJ1_indexOfChar_4cfef_10 : decode cJ1_indexOfChar_4cfef 10 = .ok (.if_icmp .ge 21, 3) := by decide +kernel
theorem dJ1_indexOfChar_4cfef_13 : decode cJ1_indexOfChar_4cfef 13 = .ok (.aload_n 0, 1) := by decide +kernel
theorem dJ1_indexOfChar_4cfef_14 : decode cJ1_indexOfChar_4cfef 14 = .ok (.iload 5, 2) := by decide +kernel
theorem dJ1_indexOfChar_4cfef_16 : decode cJ1_indexOfChar_4cfef 16 = .ok (.baload, 1) := by decide +kernel
theorem dJ1_indexOfChar_4cfef_17 : decode cJ1_indexOfChar_4cfef 17 = .ok (.iload 4, 2) := by decide +kernel
theorem dJ1_indexOfChar_4cfef_19 : decode cJ1_indexOfChar_4cfef 19 = .ok (.if_icmp .ne 6, 3) := by decide +kernel
theorem dJ1_indexOfChar_4cfef_22 : decode cJ1_indexOfChar_4cfef 22 = .ok (.iload 5, 2) := by decide +kernel
theorem dJ1_indexOfChar_4cfef_24 : decode cJ1_indexOfChar_4cfef 24 = .ok (.ireturn, 1) := by decide +kernel
theorem dJ1_indexOfChar_4cfef_25 : decode cJ1_indexOfChar_4cfef 25 = .ok (.iinc 5 1, 3) := by decide +kernel
theorem dJ1_indexOfChar_4cfef_28 : decode cJ1_indexOfChar_4cfef 28 = .ok (.goto (-21), 3) := by decide +kernel
theorem dJ1_indexOfChar_4cfef_31 : decode cJ1_indexOfChar_4cfef 31 = .ok (.iconst (-1), 1) := by decide +kernel
theorem dJ1_indexOfChar_4cfef_32 : decode cJ1_indexOfChar_4cfef 32 = .ok (.ireturn, 1) := by decide +kernel
theorem cd_J0_length_8abf5 : Cond.code yJ0_length_8abf5 cJ0_length_8abf5 1 (some .int) ∈ pWW := pw8 (List.mem_of_getElem? (i := 83) rfl) rfl
theorem ini_J0 : Cond.initialized RXJ0 ∈ pWW := pw1 (List.mem_of_getElem? (i := 16) rfl) rfl
abbrev m_J0_length_8abf5 : MT := (yJ0_length_8abf5, cJ0_length_8abf5, 1, (some .int))
theorem ok_J0_length_8abf5 : pOk m_J0_length_8abf5 := ⟨⟨cd_J0_length_8abf5, ini_J0⟩, by decide +kernel, ⟨by decide +kernel, by decide +kernel⟩, Nat.le_of_ble_eq_true rfl⟩
theorem np_J0_length_8abf5 : (parseMethodDescriptor yJ0_length_8abf5.desc).map (fun d => d.parameters.length) = some 0 := by decide +kernel
theorem im_J0_length_8abf5 : Cond.instanceMethod yJ0_length_8abf5 ∈ pWW := pw8 (List.mem_of_getElem? (i := 81) rfl) rfl
theorem se_J0_length_8abf5 : Cond.selects RXJ0 yJ0_length_8abf5 yJ0_length_8abf5 ∈ pWW := pw8 (List.mem_of_getElem? (i := 82) rfl) rfl
theorem cd_J0_indexOf_0f7a4 : Cond.code yJ0_indexOf_0f7a4 cJ0_indexOf_0f7a4 2 (some .int) ∈ pWW := pw8 (List.mem_of_getElem? (i := 69) rfl) rfl
abbrev m_J0_indexOf_0f7a4 : MT := (yJ0_indexOf_0f7a4, cJ0_indexOf_0f7a4, 2, (some .int))
theorem ok_J0_indexOf_0f7a4 : pOk m_J0_indexOf_0f7a4 := ⟨⟨cd_J0_indexOf_0f7a4, ini_J0⟩, by decide +kernel, ⟨by decide +kernel, by decide +kernel⟩, Nat.le_of_ble_eq_true rfl⟩
theorem np_J0_indexOf_0f7a4 : (parseMethodDescriptor yJ0_indexOf_0f7a4.desc).map (fun d => d.parameters.length) = some 1 := by decide +kernel
theorem im_J0_indexOf_0f7a4 : Cond.instanceMethod yJ0_indexOf_0f7a4 ∈ pWW := pw8 (List.mem_of_getElem? (i := 67) rfl) rfl
theorem se_J0_indexOf_0f7a4 : Cond.selects RXJ0 yJ0_indexOf_0f7a4 yJ0_indexOf_0f7a4 ∈ pWW := pw8 (List.mem_of_getElem? (i := 68) rfl) rfl
theorem cd_J0_indexOf_7cf53 : Cond.code yJ0_indexOf_7cf53 cJ0_indexOf_7cf53 3 (some .int) ∈ pWW := pw8 (List.mem_of_getElem? (i := 73) rfl) rfl
abbrev m_J0_indexOf_7cf53 : MT := (yJ0_indexOf_7cf53, cJ0_indexOf_7cf53, 3, (some .int))
theorem ok_J0_indexOf_7cf53 : pOk m_J0_indexOf_7cf53 := ⟨⟨cd_J0_indexOf_7cf53, ini_J0⟩, by decide +kernel, ⟨by decide +kernel, by decide +kernel⟩, Nat.le_of_ble_eq_true rfl⟩
theorem np_J0_indexOf_7cf53 : (parseMethodDescriptor yJ0_indexOf_7cf53.desc).map (fun d => d.parameters.length) = some 2 := by decide +kernel
theorem im_J0_indexOf_7cf53 : Cond.instanceMethod yJ0_indexOf_7cf53 ∈ pWW := pw8 (List.mem_of_getElem? (i := 71) rfl) rfl
theorem se_J0_indexOf_7cf53 : Cond.selects RXJ0 yJ0_indexOf_7cf53 yJ0_indexOf_7cf53 ∈ pWW := pw8 (List.mem_of_getElem? (i := 72) rfl) rfl
theorem cd_J0_coder_7d493 : Cond.code yJ0_coder_7d493 cJ0_coder_7d493 1 (some .byte) ∈ pWW := pw8 (List.mem_of_getElem? (i := 87) rfl) rfl
abbrev m_J0_coder_7d493 : MT := (yJ0_coder_7d493, cJ0_coder_7d493, 1, (some .byte))
theorem ok_J0_coder_7d493 : pOk m_J0_coder_7d493 := ⟨⟨cd_J0_coder_7d493, ini_J0⟩, by decide +kernel, ⟨by decide +kernel, by decide +kernel⟩, Nat.le_of_ble_eq_true rfl⟩
theorem np_J0_coder_7d493 : (parseMethodDescriptor yJ0_coder_7d493.desc).map (fun d => d.parameters.length) = some 0 := by decide +kernel
theorem im_J0_coder_7d493 : Cond.instanceMethod yJ0_coder_7d493 ∈ pWW := pw8 (List.mem_of_getElem? (i := 85) rfl) rfl
theorem se_J0_coder_7d493 : Cond.selects RXJ0 yJ0_coder_7d493 yJ0_coder_7d493 ∈ pWW := pw8 (List.mem_of_getElem? (i := 86) rfl) rfl
theorem cd_J0_isLatin1_aae02 : Cond.code yJ0_isLatin1_aae02 cJ0_isLatin1_aae02 1 (some .boolean) ∈ pWW := pw8 (List.mem_of_getElem? (i := 77) rfl) rfl
abbrev m_J0_isLatin1_aae02 : MT := (yJ0_isLatin1_aae02, cJ0_isLatin1_aae02, 1, (some .boolean))
theorem ok_J0_isLatin1_aae02 : pOk m_J0_isLatin1_aae02 := ⟨⟨cd_J0_isLatin1_aae02, ini_J0⟩, by decide +kernel, ⟨by decide +kernel, by decide +kernel⟩, Nat.le_of_ble_eq_true rfl⟩
theorem np_J0_isLatin1_aae02 : (parseMethodDescriptor yJ0_isLatin1_aae02.desc).map (fun d => d.parameters.length) = some 0 := by decide +kernel
theorem im_J0_isLatin1_aae02 : Cond.instanceMethod yJ0_isLatin1_aae02 ∈ pWW := pw8 (List.mem_of_getElem? (i := 75) rfl) rfl
theorem se_J0_isLatin1_aae02 : Cond.selects RXJ0 yJ0_isLatin1_aae02 yJ0_isLatin1_aae02 ∈ pWW := pw8 (List.mem_of_getElem? (i := 76) rfl) rfl
theorem cd_J1_canEncode_9a6ad : Cond.code yJ1_canEncode_9a6ad cJ1_canEncode_9a6ad 1 (some .boolean) ∈ pWW := pw8 (List.mem_of_getElem? (i := 93) rfl) rfl
theorem ini_J1 : Cond.initialized RXJ1 ∈ pWW := pw1 (List.mem_of_getElem? (i := 17) rfl) rfl
abbrev m_J1_canEncode_9a6ad : MT := (yJ1_canEncode_9a6ad, cJ1_canEncode_9a6ad, 1, (some .boolean))
theorem ok_J1_canEncode_9a6ad : pOk m_J1_canEncode_9a6ad := ⟨⟨cd_J1_canEncode_9a6ad, ini_J1⟩, by decide +kernel, ⟨by decide +kernel, by decide +kernel⟩, Nat.le_of_ble_eq_true rfl⟩
theorem np_J1_canEncode_9a6ad : (parseMethodDescriptor yJ1_canEncode_9a6ad.desc).map (fun d => d.parameters.length) = some 1 := by decide +kernel
theorem stt_J1_canEncode_9a6ad : Cond.static yJ1_canEncode_9a6ad ∈ pWW := pw8 (List.mem_of_getElem? (i := 92) rfl) rfl
theorem cd_J1_indexOf_4cfef : Cond.code yJ1_indexOf_4cfef cJ1_indexOf_4cfef 4 (some .int) ∈ pWW := pw8 (List.mem_of_getElem? (i := 90) rfl) rfl
abbrev m_J1_indexOf_4cfef : MT := (yJ1_indexOf_4cfef, cJ1_indexOf_4cfef, 4, (some .int))
theorem ok_J1_indexOf_4cfef : pOk m_J1_indexOf_4cfef := ⟨⟨cd_J1_indexOf_4cfef, ini_J1⟩, by decide +kernel, ⟨by decide +kernel, by decide +kernel⟩, Nat.le_of_ble_eq_true rfl⟩
theorem np_J1_indexOf_4cfef : (parseMethodDescriptor yJ1_indexOf_4cfef.desc).map (fun d => d.parameters.length) = some 4 := by decide +kernel
theorem stt_J1_indexOf_4cfef : Cond.static yJ1_indexOf_4cfef ∈ pWW := pw8 (List.mem_of_getElem? (i := 89) rfl) rfl
theorem cd_J1_indexOfChar_4cfef : Cond.code yJ1_indexOfChar_4cfef cJ1_indexOfChar_4cfef 6 (some .int) ∈ pWW := pw8 (List.mem_of_getElem? (i := 98) rfl) rfl
abbrev m_J1_indexOfChar_4cfef : MT := (yJ1_indexOfChar_4cfef, cJ1_indexOfChar_4cfef, 6, (some .int))
theorem ok_J1_indexOfChar_4cfef : pOk m_J1_indexOfChar_4cfef := ⟨⟨cd_J1_indexOfChar_4cfef, ini_J1⟩, by decide +kernel, ⟨by decide +kernel, by decide +kernel⟩, Nat.le_of_ble_eq_true rfl⟩
theorem np_J1_indexOfChar_4cfef : (parseMethodDescriptor yJ1_indexOfChar_4cfef.desc).map (fun d => d.parameters.length) = some 4 := by decide +kernel
theorem stt_J1_indexOfChar_4cfef : Cond.static yJ1_indexOfChar_4cfef ∈ pWW := pw8 (List.mem_of_getElem? (i := 97) rfl) rfl
theorem flJ0_38 : Cond.fieldLink RXJ0 38 "java/lang/String" "COMPACT_STRINGS" "Z" ∈ pWW := pw8 (List.mem_of_getElem? (i := 78) rfl) rfl
theorem flJ0_15 : Cond.fieldLink RXJ0 15 "java/lang/String" "coder" "B" ∈ pWW := pw10 (List.mem_of_getElem? (i := 93) rfl) rfl
theorem flJ0_9 : Cond.fieldLink RXJ0 9 "java/lang/String" "value" "[B" ∈ pWW := pw10 (List.mem_of_getElem? (i := 94) rfl) rfl
theorem mlJ0_335 : Cond.methodLink RXJ0 335 yJ0_coder_7d493 ∈ pWW := pw8 (List.mem_of_getElem? (i := 84) rfl) rfl
theorem mlJ0_633 : Cond.methodLink RXJ0 633 yJ0_indexOf_7cf53 ∈ pWW := pw8 (List.mem_of_getElem? (i := 70) rfl) rfl
theorem mlJ0_492 : Cond.methodLink RXJ0 492 yJ0_isLatin1_aae02 ∈ pWW := pw8 (List.mem_of_getElem? (i := 74) rfl) rfl
theorem mlJ0_505 : Cond.methodLink RXJ0 505 yJ0_length_8abf5 ∈ pWW := pw8 (List.mem_of_getElem? (i := 80) rfl) rfl
theorem mlJ0_637 : Cond.methodLink RXJ0 637 yJ1_indexOf_4cfef ∈ pWW := pw8 (List.mem_of_getElem? (i := 88) rfl) rfl
theorem mlJ1_88 : Cond.methodLink RXJ1 88 yJ1_canEncode_9a6ad ∈ pWW := pw8 (List.mem_of_getElem? (i := 91) rfl) rfl
theorem mlJ1_95 : Cond.methodLink RXJ1 95 yJ1_indexOfChar_4cfef ∈ pWW := pw8 (List.mem_of_getElem? (i := 96) rfl) rfl
theorem ml12_237 : Cond.methodLink RX12 237 yJ0_indexOf_0f7a4 ∈ pWW := pw8 (List.mem_of_getElem? (i := 66) rfl) rfl
theorem mlM_max : Cond.methodLink RXJ1 92 Lib.Math.max.name ∈ pWW := pw8 (List.mem_of_getElem? (i := 94) rfl) rfl
theorem mlM_min : Cond.methodLink RXJ1 38 Lib.Math.min.name ∈ pWW := pw8 (List.mem_of_getElem? (i := 95) rfl) rfl

theorem ix_lt : ∀ k, k < 11 → ¬ (11 : Int32) ≤ Int32.ofNat k := by decide
theorem ix_in : ∀ k, k < 11 → vp_in (Int32.ofNat k) 11 := by
  intro k hk
  have : k = 0 ∨ k = 1 ∨ k = 2 ∨ k = 3 ∨ k = 4 ∨ k = 5 ∨ k = 6 ∨ k = 7 ∨ k = 8 ∨ k = 9 ∨ k = 10 := by omega
  rcases this with h | h | h | h | h | h | h | h | h | h | h <;> subst h <;> exact vp_in_iff.mpr (by decide)
theorem ix_at : ∀ k, k < 11 → (Int32.ofNat k).toNatClampNeg = k := by decide
theorem ix_s : ∀ k, k < 11 → Int32.ofNat k + Int32.ofInt 1 = Int32.ofNat (k + 1) := by decide
section JDK
variable {g : Nat × Nat} {d : Nat} {P : PH} {sz : Nat}
theorem jq_coder : Wq g d m_J0_coder_7d493 0 P sz [(0, .ref g.1)] [] (some (.int 0), P, sz, 0) := by
  refine wq_compact dJ0_coder_7d493_0 flJ0_38 ?_
  refine wq_if_eq (tgt := 13) dJ0_coder_7d493_3 (by decide) (fun h => absurd h (by decide)) (fun _ => ?_)
  refine wq_aload_n dJ0_coder_7d493_6 (i := 0) rfl 0 rfl ?_
  refine wq_coder rfl dJ0_coder_7d493_7 flJ0_15 ?_
  refine wq_goto (tgt := 14) dJ0_coder_7d493_10 (by decide) ?_
  exact wq_zret (ty := .byte) rfl rfl dJ0_coder_7d493_14
theorem jq_latin : Wq g d m_J0_isLatin1_aae02 0 P sz [(0, .ref g.1)] [] (some (.int 1), P, sz, 0) := by
  refine wq_compact dJ0_isLatin1_aae02_0 flJ0_38 ?_
  refine wq_if_eq (tgt := 17) dJ0_isLatin1_aae02_3 (by decide) (fun h => absurd h (by decide)) (fun _ => ?_)
  refine wq_aload_n dJ0_isLatin1_aae02_6 (i := 0) rfl 0 rfl ?_
  refine wq_coder rfl dJ0_isLatin1_aae02_7 flJ0_15 ?_
  refine wq_if_ne (tgt := 17) dJ0_isLatin1_aae02_10 (by decide) (fun h => absurd rfl h) (fun _ => ?_)
  refine wq_iconst (v := 1) dJ0_isLatin1_aae02_13 rfl ?_
  refine wq_goto (tgt := 18) dJ0_isLatin1_aae02_14 (by decide) ?_
  exact wq_zret (ty := .boolean) rfl rfl dJ0_isLatin1_aae02_18
theorem jq_length : Wq g (d + 1) m_J0_length_8abf5 0 P sz [(0, .ref g.1)] [] (some (.int 11), P, sz, 0) := by
  refine wq_aload_n dJ0_length_8abf5_0 (i := 0) rfl 0 rfl ?_
  refine wq_value rfl dJ0_length_8abf5_1 flJ0_9 ?_
  refine wq_tlen dJ0_length_8abf5_4 ?_
  refine wq_aload_n dJ0_length_8abf5_5 (i := 0) rfl 0 rfl ?_
  refine wq_callV (M := m_J0_length_8abf5) (M' := m_J0_coder_7d493) (As := []) (rest := [.int 11]) (v := .int (0)) dJ0_length_8abf5_6 ok_J0_coder_7d493 rfl im_J0_coder_7d493 se_J0_coder_7d493 mlJ0_335 np_J0_coder_7d493 rfl (Nat.le_of_ble_eq_true rfl) (Nat.le_of_ble_eq_true rfl) (by exact Nat.le_refl _) (by rfl) (jq_coder) ?_
  refine wq_ishr dJ0_length_8abf5_9 ?_
  exact wq_iret rfl dJ0_length_8abf5_10
theorem jq_can {x : Int32} (h0 : ¬ x < 0) (h1 : ¬ 255 < x) : Wq g d m_J1_canEncode_9a6ad 0 P sz [(0, .int x)] [] (some (.int 1), P, sz, 0) := by
  refine wq_iload_n dJ1_canEncode_9a6ad_0 (i := 0) rfl 0 rfl ?_
  refine wq_if_lt (tgt := 15) dJ1_canEncode_9a6ad_1 (by decide) (fun h => absurd h h0) (fun _ => ?_)
  refine wq_iload_n dJ1_canEncode_9a6ad_4 (i := 0) rfl 0 rfl ?_
  refine wq_sipush (v := 255) dJ1_canEncode_9a6ad_5 rfl ?_
  refine wq_icmp_gt (tgt := 15) dJ1_canEncode_9a6ad_8 (by decide) (fun h => absurd h h1) (fun _ => ?_)
  refine wq_iconst (v := 1) dJ1_canEncode_9a6ad_11 rfl ?_
  refine wq_goto (tgt := 16) dJ1_canEncode_9a6ad_12 (by decide) ?_
  exact wq_zret (ty := .boolean) rfl rfl dJ1_canEncode_9a6ad_16
theorem jq_chl {ch x : Int32} : ∀ (n k : Nat), n + k = 11 → Wq g d m_J1_indexOfChar_4cfef 7 P sz [(5, .int (Int32.ofNat k)), (4, .int x), (0, .ref g.2), (1, .int ch), (2, .int 0), (3, .int 11)] [] (some (.int (ixF x n k)), P, sz, 0) := by
  intro n
  induction n with
  | zero =>
    intro k hk
    have e : k = 11 := by omega
    subst e
    refine wq_iload dJ1_indexOfChar_4cfef_7 0 rfl ?_
    refine wq_iload_n dJ1_indexOfChar_4cfef_9 (i := 3) rfl 5 rfl ?_
    refine wq_icmp_ge (tgt := 31) dJ1_indexOfChar_4cfef_10 (by decide) (fun _ => ?_) (fun h => absurd (by decide) h)
    refine wq_iconst (v := -1) dJ1_indexOfChar_4cfef_31 rfl ?_
    exact wq_iret rfl dJ1_indexOfChar_4cfef_32
  | succ n ih =>
    intro k hk
    have hk11 : k < 11 := by omega
    refine wq_iload dJ1_indexOfChar_4cfef_7 0 rfl ?_
    refine wq_iload_n dJ1_indexOfChar_4cfef_9 (i := 3) rfl 5 rfl ?_
    refine wq_icmp_ge (tgt := 31) dJ1_indexOfChar_4cfef_10 (by decide) (fun h => absurd h (ix_lt k hk11)) (fun _ => ?_)
    refine wq_aload_n dJ1_indexOfChar_4cfef_13 (i := 0) rfl 2 rfl ?_
    refine wq_iload dJ1_indexOfChar_4cfef_14 0 rfl ?_
    refine wq_tb (v := sgB.getD k 0) (ix_in k hk11) (by rw [ix_at k hk11]) dJ1_indexOfChar_4cfef_16 ?_
    refine wq_iload dJ1_indexOfChar_4cfef_17 1 rfl ?_
    refine wq_icmp_ne (tgt := 25) dJ1_indexOfChar_4cfef_19 (by decide) (fun h => ?_) (fun h => ?_)
    · refine wq_iinc (q0 := 0) (v := Int32.ofNat (k + 1)) dJ1_indexOfChar_4cfef_25 rfl (ix_s k hk11) (Nat.le_of_ble_eq_true rfl) rfl ?_
      refine wq_goto (tgt := 7) dJ1_indexOfChar_4cfef_28 (by decide) ?_
      have q := ih (k + 1) (by omega)
      have e : ixF x (n + 1) k = ixF x n (k + 1) := by unfold ixF; rw [if_neg h]; cases n <;> rfl
      rw [e]
      exact q
    · have e : ixF x (n + 1) k = Int32.ofNat k := by unfold ixF; exact if_pos h
      rw [e]
      refine wq_iload dJ1_indexOfChar_4cfef_22 0 rfl ?_
      exact wq_iret rfl dJ1_indexOfChar_4cfef_24
theorem jq_chr {ch : Int32} : Wq g d m_J1_indexOfChar_4cfef 0 P sz [(0, .ref g.2), (1, .int ch), (2, .int 0), (3, .int 11)] [] (some (.int (sgI ch)), P, sz, 0) := by
  refine wq_iload_n dJ1_indexOfChar_4cfef_0 (i := 1) rfl 1 rfl ?_
  refine wq_i2b (v := ch.toInt8.toInt32) dJ1_indexOfChar_4cfef_1 rfl ?_
  refine wq_istore dJ1_indexOfChar_4cfef_2 (Nat.le_of_ble_eq_true rfl) rfl ?_
  refine wq_iload_n dJ1_indexOfChar_4cfef_4 (i := 2) rfl 3 rfl ?_
  refine wq_istore dJ1_indexOfChar_4cfef_5 (Nat.le_of_ble_eq_true rfl) rfl ?_
  exact jq_chl 11 0 rfl
theorem jq_ix4 {ch : Int32} (h0 : ¬ ch < 0) (h1 : ¬ 255 < ch) : Wq g (d + 1) m_J1_indexOf_4cfef 0 P sz [(0, .ref g.2), (1, .int ch), (2, .int 0), (3, .int 11)] [] (some (.int (sgI ch)), P, sz, 0) := by
  refine wq_iload_n dJ1_indexOf_4cfef_0 (i := 1) rfl 1 rfl ?_
  refine wq_callS (M := m_J1_indexOf_4cfef) (M' := m_J1_canEncode_9a6ad) (As := [.int ch]) (rest := []) (v := .int (1)) dJ1_indexOf_4cfef_1 ok_J1_canEncode_9a6ad stt_J1_canEncode_9a6ad mlJ1_88 np_J1_canEncode_9a6ad rfl (Nat.le_of_ble_eq_true rfl) (Nat.le_of_ble_eq_true rfl) (by exact Nat.le_refl _) (by rfl) (jq_can h0 h1) ?_
  refine wq_if_ne (tgt := 9) dJ1_indexOf_4cfef_4 (by decide) (fun _ => ?_) (fun h => absurd h (by decide))
  refine wq_iload_n dJ1_indexOf_4cfef_9 (i := 2) rfl 2 rfl ?_
  refine wq_iconst (v := 0) dJ1_indexOf_4cfef_10 rfl ?_
  refine wq_mmax dJ1_indexOf_4cfef_11 mlM_max stM_max iniM cdM_max (Nat.succ_pos _) (Nat.le_of_ble_eq_true rfl) (Nat.le_refl _) ?_
  refine wq_istore_n (x := 0) dJ1_indexOf_4cfef_14 (i := 2) rfl (Nat.le_of_ble_eq_true rfl) rfl ?_
  refine wq_iload_n dJ1_indexOf_4cfef_15 (i := 3) rfl 3 rfl ?_
  refine wq_aload_n dJ1_indexOf_4cfef_16 (i := 0) rfl 1 rfl ?_
  refine wq_tlen dJ1_indexOf_4cfef_17 ?_
  refine wq_mmin dJ1_indexOf_4cfef_18 mlM_min stM_min iniM cdM_min (Nat.succ_pos _) (Nat.le_of_ble_eq_true rfl) (Nat.le_refl _) ?_
  refine wq_istore_n (x := 11) dJ1_indexOf_4cfef_21 (i := 3) rfl (Nat.le_of_ble_eq_true rfl) rfl ?_
  refine wq_iload_n dJ1_indexOf_4cfef_22 (i := 2) rfl 1 rfl ?_
  refine wq_iload_n dJ1_indexOf_4cfef_23 (i := 3) rfl 0 rfl ?_
  refine wq_icmp_lt (tgt := 29) dJ1_indexOf_4cfef_24 (by decide) (fun _ => ?_) (fun h => absurd (by decide) h)
  refine wq_aload_n dJ1_indexOf_4cfef_29 (i := 0) rfl 2 rfl ?_
  refine wq_iload_n dJ1_indexOf_4cfef_30 (i := 1) rfl 3 rfl ?_
  refine wq_iload_n dJ1_indexOf_4cfef_31 (i := 2) rfl 1 rfl ?_
  refine wq_iload_n dJ1_indexOf_4cfef_32 (i := 3) rfl 0 rfl ?_
  refine wq_callS (M := m_J1_indexOf_4cfef) (M' := m_J1_indexOfChar_4cfef) (As := [.ref g.2, .int ch, .int 0, .int 11]) (rest := []) (v := .int (sgI ch)) dJ1_indexOf_4cfef_33 ok_J1_indexOfChar_4cfef stt_J1_indexOfChar_4cfef mlJ1_95 np_J1_indexOfChar_4cfef rfl (Nat.le_of_ble_eq_true rfl) (Nat.le_of_ble_eq_true rfl) (by exact Nat.le_refl _) (by rfl) (jq_chr) ?_
  exact wq_iret rfl dJ1_indexOf_4cfef_36
theorem jq_ix2 {ch : Int32} (h0 : ¬ ch < 0) (h1 : ¬ 255 < ch) : Wq g (d + 2) m_J0_indexOf_7cf53 0 P sz [(0, .ref g.1), (1, .int ch), (2, .int 0)] [] (some (.int (sgI ch)), P, sz, 0) := by
  refine wq_aload_n dJ0_indexOf_7cf53_0 (i := 0) rfl 0 rfl ?_
  refine wq_callV (M := m_J0_indexOf_7cf53) (M' := m_J0_isLatin1_aae02) (As := []) (rest := []) (v := .int (1)) dJ0_indexOf_7cf53_1 ok_J0_isLatin1_aae02 rfl im_J0_isLatin1_aae02 se_J0_isLatin1_aae02 mlJ0_492 np_J0_isLatin1_aae02 rfl (Nat.le_of_ble_eq_true rfl) (Nat.le_of_ble_eq_true rfl) (by exact Nat.le_refl _) (by rfl) (jq_latin) ?_
  refine wq_if_eq (tgt := 23) dJ0_indexOf_7cf53_4 (by decide) (fun h => absurd h (by decide)) (fun _ => ?_)
  refine wq_aload_n dJ0_indexOf_7cf53_7 (i := 0) rfl 0 rfl ?_
  refine wq_value rfl dJ0_indexOf_7cf53_8 flJ0_9 ?_
  refine wq_iload_n dJ0_indexOf_7cf53_11 (i := 1) rfl 1 rfl ?_
  refine wq_iload_n dJ0_indexOf_7cf53_12 (i := 2) rfl 2 rfl ?_
  refine wq_aload_n dJ0_indexOf_7cf53_13 (i := 0) rfl 0 rfl ?_
  refine wq_callV (M := m_J0_indexOf_7cf53) (M' := m_J0_length_8abf5) (As := []) (rest := [.int 0, .int ch, .ref g.2]) (v := .int (11)) dJ0_indexOf_7cf53_14 ok_J0_length_8abf5 rfl im_J0_length_8abf5 se_J0_length_8abf5 mlJ0_505 np_J0_length_8abf5 rfl (Nat.le_of_ble_eq_true rfl) (Nat.le_of_ble_eq_true rfl) (by exact Nat.le_refl _) (by rfl) (jq_length) ?_
  refine wq_callS (M := m_J0_indexOf_7cf53) (M' := m_J1_indexOf_4cfef) (As := [.ref g.2, .int ch, .int 0, .int 11]) (rest := []) (v := .int (sgI ch)) dJ0_indexOf_7cf53_17 ok_J1_indexOf_4cfef stt_J1_indexOf_4cfef mlJ0_637 np_J1_indexOf_4cfef rfl (Nat.le_of_ble_eq_true rfl) (Nat.le_of_ble_eq_true rfl) (by exact Nat.le_refl _) (by rfl) (jq_ix4 h0 h1) ?_
  refine wq_goto (tgt := 36) dJ0_indexOf_7cf53_20 (by decide) ?_
  exact wq_iret rfl dJ0_indexOf_7cf53_36
theorem jq_ix1 {ch : Int32} (h0 : ¬ ch < 0) (h1 : ¬ 255 < ch) : Wq g (d + 3) m_J0_indexOf_0f7a4 0 P sz [(0, .ref g.1), (1, .int ch)] [] (some (.int (sgI ch)), P, sz, 0) := by
  refine wq_aload_n dJ0_indexOf_0f7a4_0 (i := 0) rfl 0 rfl ?_
  refine wq_iload_n dJ0_indexOf_0f7a4_1 (i := 1) rfl 1 rfl ?_
  refine wq_iconst (v := 0) dJ0_indexOf_0f7a4_2 rfl ?_
  refine wq_callV (M := m_J0_indexOf_0f7a4) (M' := m_J0_indexOf_7cf53) (As := [.int ch, .int 0]) (rest := []) (v := .int (sgI ch)) dJ0_indexOf_0f7a4_3 ok_J0_indexOf_7cf53 rfl im_J0_indexOf_7cf53 se_J0_indexOf_7cf53 mlJ0_633 np_J0_indexOf_7cf53 rfl (Nat.le_of_ble_eq_true rfl) (Nat.le_of_ble_eq_true rfl) (by exact Nat.le_refl _) (by rfl) (jq_ix2 h0 h1) ?_
  exact wq_iret rfl dJ0_indexOf_0f7a4_6
end JDK
/-- ldc of the text, iload, indexOf -/
theorem wp_signs {d : Nat} {M : MT} {pc : Nat} {P : PH} {sz : Nat} {L : List (Nat × Value)} {st : List Value} {o : Option Value × PH × Nat × Nat} {q : Nat} {x : Int32} (hM : M.1.cls = "LineKeeperModel") (h1 : decode M.2.1 pc = .ok (.ldc 235, 2)) (h2 : decode M.2.1 (pc + 2) = .ok (.iload_n 1, 1)) (h3 : decode M.2.1 (pc + 3) = .ok (.invokevirtual 237, 3)) (hq : L[q]? = some (1, .int x)) (h0 : ¬ x < 0) (h5 : ¬ 255 < x) (hcat : (st.map fun v => v.category).sum ≤ 8) (hm : sz ≤ o.2.2.1) (k : Wp (d + 4) M (pc + 6) P sz L (.int (sgI x) :: st) o) : Wp (d + 4) M pc P sz L st o := by
  intro l D bs p e R s m args below meth c H locs cells slots ls C hW hz hS hl hc hn
  obtain ⟨⟨aK, aV, k1, k2⟩, -⟩ := (pC_G C).2.2
  have k3 := k1.1 0 (by decide)
  have hg : pKA (aK 0, aV 0) bs s := ⟨k3.1, k3.2.1, k3.2.2.1, k3.2.2.2⟩
  refine va_ldcS C.1 C.2.1 (own := "LineKeeperModel") (by rw [← hM]; exact pC_own C) k2 h1 ?_
  refine lv_iload_n (i := 1) C.1 C.2.1 h2 rfl (lv_at hl q hq) ?_
  exact pcallq (v := .int (sgI x)) (o2 := o) C hz hS hl (va_runV (Ts := pWW) (C := "java/lang/String") (As := [.int x]) (rest := st) ⟨C.1, C.2.1, C.2.2.1, pC_own C, fun w hw => pC_word C hw⟩ (wq_met (g := (aK 0, aV 0)) (M := m_J0_indexOf_0f7a4) (k := 0) (o := (some (.int (sgI x)), P, sz, 0)) ok_J0_indexOf_0f7a4.2.1 rfl (Nat.le_of_ble_eq_true rfl) rfl (jq_ix1 h0 h5) l D bs) ⟨pCB C ok_J0_indexOf_0f7a4 (by rw [hM]; exact ml12_237) np_J0_indexOf_0f7a4, pC_word C im_J0_indexOf_0f7a4, pC_word C se_J0_indexOf_0f7a4⟩ (pPreVq C hg hW hz hS) rfl rfl hl.1 rfl (lv_room hcat) h3 ⟨by omega, by omega⟩) (fun H1 locs1 w1 w2 w3 => k l D bs p e R s m args below meth c H1 locs1 cells slots ls C w1 w2 w3 hl hc hn)
theorem sgZ_r (z : Int) : -2147483648 ≤ sgZ z ∧ sgZ z ≤ 2147483647 := inR_toInt _
theorem tm_signs {d : Nat} {M : MT} {pc b : Nat} {σ : MS} {L : List (Nat × Value)} {st : List Value} {post : Option Value → MS → Prop} {q : Nat} {z : Int} (hM : M.1.cls = "LineKeeperModel") (h1 : decode M.2.1 pc = .ok (.ldc 235, 2)) (h2 : decode M.2.1 (pc + 2) = .ok (.iload_n 1, 1)) (h3 : decode M.2.1 (pc + 3) = .ok (.invokevirtual 237, 3)) (hq : L[q]? = some (1, .int (iI z))) (hz : 0 ≤ z ∧ z ≤ 255) (hcat : (st.map fun v => v.category).sum ≤ 8) (k : Tm (d + 4) M (pc + 6) b σ L (.int (iI (sgZ z)) :: st) post) : Tm (d + 4) M pc b σ L st post := fun P0 sz hs => by
  obtain ⟨r, σ2, w, hp⟩ := k P0 sz hs
  refine ⟨r, σ2, wp_signs hM h1 h2 h3 hq (iI_n_lt (b := 0) ⟨by omega, by omega⟩ inR_0 (by omega)) (iI_n_lt (a := 255) ⟨by omega, by omega⟩ ⟨by omega, by omega⟩ (by omega)) hcat (Nat.le_refl _) ?_, hp⟩
  have e : iI (sgZ z) = sgI (iI z) := iI_self _
  rw [e] at w
  exact w
