section
theorem cd_X4_addFrames : Cond.code yX4_addFrames cX4_addFrames 6 none ∈ pWW := pw5 (List.mem_of_getElem? (i := 165) rfl) rfl
abbrev m_X4_addFrames : MT := (yX4_addFrames, cX4_addFrames, 6, none)
theorem ok_X4_addFrames : pOk m_X4_addFrames := ⟨⟨cd_X4_addFrames, ini_4⟩, by decide +kernel, ⟨by decide +kernel, by decide +kernel⟩, Nat.le_of_ble_eq_true rfl⟩
theorem np_X4_addFrames : (parseMethodDescriptor yX4_addFrames.desc).map (fun d => d.parameters.length) = some 1 := by decide +kernel
theorem im_X4_addFrames : Cond.instanceMethod yX4_addFrames ∈ pWW := pw5 (List.mem_of_getElem? (i := 164) rfl) rfl
theorem se_X4_addFrames : Cond.selects RX4 yX4_addFrames yX4_addFrames ∈ pWW := pws (List.mem_map.mpr ⟨_, lw_pin 68 rfl, rfl⟩) rfl
theorem dX4_addFrames_0 : decode cX4_addFrames 0 = .ok (.iload_n 1, 1) := by decide +kernel
theorem dX4_addFrames_1 : decode cX4_addFrames 1 = .ok (.istore_n 2, 1) := by decide +kernel
theorem dX4_addFrames_2 : decode cX4_addFrames 2 = .ok (.iload_n 2, 1) := by decide +kernel
theorem dX4_addFrames_3 : decode cX4_addFrames 3 = .ok (.ifCond .lt 23, 3) := by decide +kernel
theorem dX4_addFrames_6 : decode cX4_addFrames 6 = .ok (.aload_n 0, 1) := by decide +kernel
theorem dX4_addFrames_7 : decode cX4_addFrames 7 = .ok (.getfield 19, 3) := by decide +kernel
theorem dX4_addFrames_10 : decode cX4_addFrames 10 = .ok (.iload_n 2, 1) := by decide +kernel
theorem dX4_addFrames_11 : decode cX4_addFrames 11 = .ok (.iconst 0, 1) := by decide +kernel
theorem dX4_addFrames_12 : decode cX4_addFrames 12 = .ok (.invokevirtual 29, 3) := by decide +kernel
theorem dX4_addFrames_15 : decode cX4_addFrames 15 = .ok (.bipush 11, 2) := by decide +kernel
theorem dX4_addFrames_17 : decode cX4_addFrames 17 = .ok (.if_icmp .eq 9, 3) := by decide +kernel
theorem dX4_addFrames_20 : decode cX4_addFrames 20 = .ok (.iinc 2 (-1), 3) := by decide +kernel
theorem dX4_addFrames_23 : decode cX4_addFrames 23 = .ok (.goto (-21), 3) := by decide +kernel
theorem fl4_66 : Cond.fieldLink RX4 66 (TX1 5).1 (TX1 5).2.1 (TX1 5).2.2.1 ∈ pWW := pw1 (List.mem_of_getElem? (i := 104) rfl) rfl
theorem fl4_125 : Cond.fieldLink RX4 125 (TX1 6).1 (TX1 6).2.1 (TX1 6).2.2.1 ∈ pWW := pw1 (List.mem_of_getElem? (i := 108) rfl) rfl
theorem nl4_81 : (RX4, 81, yX11_put, "LineKeeper") ∈ nst_M := List.mem_of_getElem? (i := 37) rfl
theorem fl4_132 : Cond.fieldLink RX4 132 (TX1 7).1 (TX1 7).2.1 (TX1 7).2.2.1 ∈ pWW := pw1 (List.mem_of_getElem? (i := 112) rfl) rfl
theorem fl4_135 : Cond.fieldLink RX4 135 (TX1 8).1 (TX1 8).2.1 (TX1 8).2.2.1 ∈ pWW := pw1 (List.mem_of_getElem? (i := 116) rfl) rfl
theorem fl4_138 : Cond.fieldLink RX4 138 (TX1 9).1 (TX1 9).2.1 (TX1 9).2.2.1 ∈ pWW := pw1 (List.mem_of_getElem? (i := 119) rfl) rfl
theorem fl4_141 : Cond.fieldLink RX4 141 (TX1 10).1 (TX1 10).2.1 (TX1 10).2.2.1 ∈ pWW := pw1 (List.mem_of_getElem? (i := 124) rfl) rfl
theorem dX4_addFrames_26 : decode cX4_addFrames 26 = .ok (.iconst 0, 1) := by decide +kernel
theorem dX4_addFrames_27 : decode cX4_addFrames 27 = .ok (.istore_n 3, 1) := by decide +kernel
theorem dX4_addFrames_28 : decode cX4_addFrames 28 = .ok (.iload_n 3, 1) := by decide +kernel
theorem dX4_addFrames_29 : decode cX4_addFrames 29 = .ok (.aload_n 0, 1) := by decide +kernel
theorem dX4_addFrames_30 : decode cX4_addFrames 30 = .ok (.getfield 33, 3) := by decide +kernel
theorem dX4_addFrames_33 : decode cX4_addFrames 33 = .ok (.getfield 66, 3) := by decide +kernel
theorem dX4_addFrames_36 : decode cX4_addFrames 36 = .ok (.if_icmp .ge 204, 3) := by decide +kernel
theorem dX4_addFrames_39 : decode cX4_addFrames 39 = .ok (.aload_n 0, 1) := by decide +kernel
theorem dX4_addFrames_40 : decode cX4_addFrames 40 = .ok (.getfield 69, 3) := by decide +kernel
theorem dX4_addFrames_43 : decode cX4_addFrames 43 = .ok (.iload_n 3, 1) := by decide +kernel
theorem dX4_addFrames_44 : decode cX4_addFrames 44 = .ok (.iadd, 1) := by decide +kernel
theorem dX4_addFrames_45 : decode cX4_addFrames 45 = .ok (.istore 4, 2) := by decide +kernel
theorem dX4_addFrames_47 : decode cX4_addFrames 47 = .ok (.aload_n 0, 1) := by decide +kernel
theorem dX4_addFrames_48 : decode cX4_addFrames 48 = .ok (.getfield 19, 3) := by decide +kernel
theorem dX4_addFrames_51 : decode cX4_addFrames 51 = .ok (.getfield 125, 3) := by decide +kernel
theorem dX4_addFrames_54 : decode cX4_addFrames 54 = .ok (.iload 4, 2) := by decide +kernel
theorem dX4_addFrames_56 : decode cX4_addFrames 56 = .ok (.aload_n 0, 1) := by decide +kernel
theorem dX4_addFrames_57 : decode cX4_addFrames 57 = .ok (.getfield 33, 3) := by decide +kernel
theorem dX4_addFrames_60 : decode cX4_addFrames 60 = .ok (.getfield 125, 3) := by decide +kernel
theorem dX4_addFrames_63 : decode cX4_addFrames 63 = .ok (.iload_n 3, 1) := by decide +kernel
theorem dX4_addFrames_64 : decode cX4_addFrames 64 = .ok (.invokestatic 128, 3) := by decide +kernel
theorem dX4_addFrames_67 : decode cX4_addFrames 67 = .ok (.invokestatic 81, 3) := by decide +kernel
theorem dX4_addFrames_70 : decode cX4_addFrames 70 = .ok (.aload_n 0, 1) := by decide +kernel
theorem dX4_addFrames_71 : decode cX4_addFrames 71 = .ok (.getfield 19, 3) := by decide +kernel
theorem dX4_addFrames_74 : decode cX4_addFrames 74 = .ok (.getfield 132, 3) := by decide +kernel
theorem dX4_addFrames_77 : decode cX4_addFrames 77 = .ok (.iload 4, 2) := by decide +kernel
theorem dX4_addFrames_79 : decode cX4_addFrames 79 = .ok (.iload_n 3, 1) := by decide +kernel
theorem dX4_addFrames_80 : decode cX4_addFrames 80 = .ok (.ifCond .ne 15, 3) := by decide +kernel
theorem dX4_addFrames_95 : decode cX4_addFrames 95 = .ok (.aload_n 0, 1) := by decide +kernel
theorem dX4_addFrames_96 : decode cX4_addFrames 96 = .ok (.getfield 69, 3) := by decide +kernel
theorem dX4_addFrames_99 : decode cX4_addFrames 99 = .ok (.aload_n 0, 1) := by decide +kernel
theorem dX4_addFrames_100 : decode cX4_addFrames 100 = .ok (.getfield 33, 3) := by decide +kernel
theorem dX4_addFrames_103 : decode cX4_addFrames 103 = .ok (.getfield 132, 3) := by decide +kernel
theorem dX4_addFrames_106 : decode cX4_addFrames 106 = .ok (.iload_n 3, 1) := by decide +kernel
theorem dX4_addFrames_107 : decode cX4_addFrames 107 = .ok (.invokestatic 128, 3) := by decide +kernel
theorem dX4_addFrames_110 : decode cX4_addFrames 110 = .ok (.iadd, 1) := by decide +kernel
theorem dX4_addFrames_111 : decode cX4_addFrames 111 = .ok (.invokestatic 81, 3) := by decide +kernel
theorem dX4_addFrames_114 : decode cX4_addFrames 114 = .ok (.aload_n 0, 1) := by decide +kernel
theorem dX4_addFrames_115 : decode cX4_addFrames 115 = .ok (.getfield 19, 3) := by decide +kernel
theorem dX4_addFrames_118 : decode cX4_addFrames 118 = .ok (.getfield 135, 3) := by decide +kernel
theorem dX4_addFrames_121 : decode cX4_addFrames 121 = .ok (.iload 4, 2) := by decide +kernel
theorem dX4_addFrames_123 : decode cX4_addFrames 123 = .ok (.iload_n 3, 1) := by decide +kernel
theorem dX4_addFrames_124 : decode cX4_addFrames 124 = .ok (.ifCond .ne 15, 3) := by decide +kernel
theorem dX4_addFrames_139 : decode cX4_addFrames 139 = .ok (.aload_n 0, 1) := by decide +kernel
theorem dX4_addFrames_140 : decode cX4_addFrames 140 = .ok (.getfield 33, 3) := by decide +kernel
theorem dX4_addFrames_143 : decode cX4_addFrames 143 = .ok (.getfield 135, 3) := by decide +kernel
theorem dX4_addFrames_146 : decode cX4_addFrames 146 = .ok (.iload_n 3, 1) := by decide +kernel
theorem dX4_addFrames_147 : decode cX4_addFrames 147 = .ok (.invokestatic 128, 3) := by decide +kernel
theorem dX4_addFrames_150 : decode cX4_addFrames 150 = .ok (.invokestatic 81, 3) := by decide +kernel
theorem dX4_addFrames_153 : decode cX4_addFrames 153 = .ok (.aload_n 0, 1) := by decide +kernel
theorem dX4_addFrames_154 : decode cX4_addFrames 154 = .ok (.getfield 19, 3) := by decide +kernel
theorem dX4_addFrames_157 : decode cX4_addFrames 157 = .ok (.getfield 138, 3) := by decide +kernel
theorem dX4_addFrames_160 : decode cX4_addFrames 160 = .ok (.iload 4, 2) := by decide +kernel
theorem dX4_addFrames_162 : decode cX4_addFrames 162 = .ok (.aload_n 0, 1) := by decide +kernel
theorem dX4_addFrames_163 : decode cX4_addFrames 163 = .ok (.getfield 33, 3) := by decide +kernel
theorem dX4_addFrames_166 : decode cX4_addFrames 166 = .ok (.getfield 138, 3) := by decide +kernel
theorem dX4_addFrames_169 : decode cX4_addFrames 169 = .ok (.iload_n 3, 1) := by decide +kernel
theorem dX4_addFrames_170 : decode cX4_addFrames 170 = .ok (.invokestatic 128, 3) := by decide +kernel
theorem dX4_addFrames_173 : decode cX4_addFrames 173 = .ok (.invokestatic 81, 3) := by decide +kernel
theorem dX4_addFrames_176 : decode cX4_addFrames 176 = .ok (.iconst 0, 1) := by decide +kernel
theorem dX4_addFrames_177 : decode cX4_addFrames 177 = .ok (.istore 5, 2) := by decide +kernel
theorem dX4_addFrames_179 : decode cX4_addFrames 179 = .ok (.iload 5, 2) := by decide +kernel
theorem dX4_addFrames_181 : decode cX4_addFrames 181 = .ok (.aload_n 0, 1) := by decide +kernel
theorem dX4_addFrames_182 : decode cX4_addFrames 182 = .ok (.getfield 33, 3) := by decide +kernel
theorem dX4_addFrames_185 : decode cX4_addFrames 185 = .ok (.getfield 138, 3) := by decide +kernel
theorem dX4_addFrames_188 : decode cX4_addFrames 188 = .ok (.iload_n 3, 1) := by decide +kernel
theorem dX4_addFrames_189 : decode cX4_addFrames 189 = .ok (.invokestatic 128, 3) := by decide +kernel
theorem dX4_addFrames_192 : decode cX4_addFrames 192 = .ok (.if_icmp .ge 42, 3) := by decide +kernel
theorem dX4_addFrames_195 : decode cX4_addFrames 195 = .ok (.aload_n 0, 1) := by decide +kernel
theorem dX4_addFrames_196 : decode cX4_addFrames 196 = .ok (.getfield 19, 3) := by decide +kernel
theorem dX4_addFrames_199 : decode cX4_addFrames 199 = .ok (.getfield 141, 3) := by decide +kernel
theorem dX4_addFrames_202 : decode cX4_addFrames 202 = .ok (.iload 4, 2) := by decide +kernel
theorem dX4_addFrames_204 : decode cX4_addFrames 204 = .ok (.bipush 12, 2) := by decide +kernel
theorem dX4_addFrames_206 : decode cX4_addFrames 206 = .ok (.imul, 1) := by decide +kernel
theorem dX4_addFrames_207 : decode cX4_addFrames 207 = .ok (.iload 5, 2) := by decide +kernel
theorem dX4_addFrames_209 : decode cX4_addFrames 209 = .ok (.iadd, 1) := by decide +kernel
theorem dX4_addFrames_210 : decode cX4_addFrames 210 = .ok (.aload_n 0, 1) := by decide +kernel
theorem dX4_addFrames_211 : decode cX4_addFrames 211 = .ok (.getfield 57, 3) := by decide +kernel
theorem dX4_addFrames_214 : decode cX4_addFrames 214 = .ok (.aload_n 0, 1) := by decide +kernel
theorem dX4_addFrames_215 : decode cX4_addFrames 215 = .ok (.getfield 33, 3) := by decide +kernel
theorem dX4_addFrames_218 : decode cX4_addFrames 218 = .ok (.iload_n 3, 1) := by decide +kernel
theorem dX4_addFrames_219 : decode cX4_addFrames 219 = .ok (.iload 5, 2) := by decide +kernel
theorem dX4_addFrames_221 : decode cX4_addFrames 221 = .ok (.invokevirtual 122, 3) := by decide +kernel
theorem dX4_addFrames_224 : decode cX4_addFrames 224 = .ok (.iadd, 1) := by decide +kernel
theorem dX4_addFrames_225 : decode cX4_addFrames 225 = .ok (.invokestatic 81, 3) := by decide +kernel
theorem dX4_addFrames_228 : decode cX4_addFrames 228 = .ok (.iinc 5 1, 3) := by decide +kernel
theorem dX4_addFrames_231 : decode cX4_addFrames 231 = .ok (.goto (-52), 3) := by decide +kernel
theorem dX4_addFrames_234 : decode cX4_addFrames 234 = .ok (.iinc 3 1, 3) := by decide +kernel
theorem dX4_addFrames_237 : decode cX4_addFrames 237 = .ok (.goto (-209), 3) := by decide +kernel
theorem dX4_addFrames_83 : decode cX4_addFrames 83 = .ok (.aload_n 0, 1) := by decide +kernel
theorem dX4_addFrames_84 : decode cX4_addFrames 84 = .ok (.getfield 19, 3) := by decide +kernel
theorem dX4_addFrames_87 : decode cX4_addFrames 87 = .ok (.iload_n 2, 1) := by decide +kernel
theorem dX4_addFrames_88 : decode cX4_addFrames 88 = .ok (.iconst 2, 1) := by decide +kernel
theorem dX4_addFrames_89 : decode cX4_addFrames 89 = .ok (.invokevirtual 29, 3) := by decide +kernel
theorem dX4_addFrames_92 : decode cX4_addFrames 92 = .ok (.goto 19, 3) := by decide +kernel
theorem dX4_addFrames_127 : decode cX4_addFrames 127 = .ok (.aload_n 0, 1) := by decide +kernel
theorem dX4_addFrames_128 : decode cX4_addFrames 128 = .ok (.getfield 19, 3) := by decide +kernel
theorem dX4_addFrames_131 : decode cX4_addFrames 131 = .ok (.iload_n 2, 1) := by decide +kernel
theorem dX4_addFrames_132 : decode cX4_addFrames 132 = .ok (.iconst 1, 1) := by decide +kernel
theorem dX4_addFrames_133 : decode cX4_addFrames 133 = .ok (.invokevirtual 29, 3) := by decide +kernel
theorem dX4_addFrames_136 : decode cX4_addFrames 136 = .ok (.goto 14, 3) := by decide +kernel
theorem dX4_addFrames_240 : decode cX4_addFrames 240 = .ok (.aload_n 0, 1) := by decide +kernel
theorem dX4_addFrames_241 : decode cX4_addFrames 241 = .ok (.getfield 19, 3) := by decide +kernel
theorem dX4_addFrames_244 : decode cX4_addFrames 244 = .ok (.aload_n 0, 1) := by decide +kernel
theorem dX4_addFrames_245 : decode cX4_addFrames 245 = .ok (.getfield 69, 3) := by decide +kernel
theorem dX4_addFrames_248 : decode cX4_addFrames 248 = .ok (.aload_n 0, 1) := by decide +kernel
theorem dX4_addFrames_249 : decode cX4_addFrames 249 = .ok (.getfield 33, 3) := by decide +kernel
theorem dX4_addFrames_252 : decode cX4_addFrames 252 = .ok (.getfield 66, 3) := by decide +kernel
theorem dX4_addFrames_255 : decode cX4_addFrames 255 = .ok (.iadd, 1) := by decide +kernel
theorem dX4_addFrames_256 : decode cX4_addFrames 256 = .ok (.putfield 66, 3) := by decide +kernel
theorem dX4_addFrames_259 : decode cX4_addFrames 259 = .ok (.return_, 1) := by decide +kernel
end
section
theorem cd_X4_meltAt : Cond.code yX4_meltAt cX4_meltAt 4 (some .boolean) ∈ pWW := pw5 (List.mem_of_getElem? (i := 144) rfl) rfl
abbrev m_X4_meltAt : MT := (yX4_meltAt, cX4_meltAt, 4, (some .boolean))
theorem ok_X4_meltAt : pOk m_X4_meltAt := ⟨⟨cd_X4_meltAt, ini_4⟩, by decide +kernel, ⟨by decide +kernel, by decide +kernel⟩, Nat.le_of_ble_eq_true rfl⟩
theorem np_X4_meltAt : (parseMethodDescriptor yX4_meltAt.desc).map (fun d => d.parameters.length) = some 1 := by decide +kernel
theorem im_X4_meltAt : Cond.instanceMethod yX4_meltAt ∈ pWW := pw5 (List.mem_of_getElem? (i := 143) rfl) rfl
theorem se_X4_meltAt : Cond.selects RX4 yX4_meltAt yX4_meltAt ∈ pWW := pws (List.mem_map.mpr ⟨_, lw_pin 65 rfl, rfl⟩) rfl
theorem ml4_48 : Cond.methodLink RX4 48 yX3_findLiving ∈ pWW := pw5 (List.mem_of_getElem? (i := 145) rfl) rfl
theorem ml4_54 : Cond.methodLink RX4 54 yX1_registers ∈ pWW := pw5 (List.mem_of_getElem? (i := 146) rfl) rfl
theorem ml4_60 : Cond.methodLink RX4 60 yX1_greatestLabel ∈ pWW := pw5 (List.mem_of_getElem? (i := 147) rfl) rfl
theorem ml4_75 : Cond.methodLink RX4 75 yX4_rowsNeeded ∈ pWW := pw5 (List.mem_of_getElem? (i := 151) rfl) rfl
theorem dX4_meltAt_0 : decode cX4_meltAt 0 = .ok (.aload_n 0, 1) := by decide +kernel
theorem dX4_meltAt_1 : decode cX4_meltAt 1 = .ok (.getfield 15, 3) := by decide +kernel
theorem dX4_meltAt_4 : decode cX4_meltAt 4 = .ok (.aload_n 0, 1) := by decide +kernel
theorem dX4_meltAt_5 : decode cX4_meltAt 5 = .ok (.getfield 33, 3) := by decide +kernel
theorem dX4_meltAt_8 : decode cX4_meltAt 8 = .ok (.invokevirtual 48, 3) := by decide +kernel
theorem dX4_meltAt_11 : decode cX4_meltAt 11 = .ok (.aload_n 0, 1) := by decide +kernel
theorem dX4_meltAt_12 : decode cX4_meltAt 12 = .ok (.aload_n 0, 1) := by decide +kernel
theorem dX4_meltAt_13 : decode cX4_meltAt 13 = .ok (.getfield 19, 3) := by decide +kernel
theorem dX4_meltAt_16 : decode cX4_meltAt 16 = .ok (.invokevirtual 54, 3) := by decide +kernel
theorem dX4_meltAt_19 : decode cX4_meltAt 19 = .ok (.putfield 57, 3) := by decide +kernel
theorem dX4_meltAt_22 : decode cX4_meltAt 22 = .ok (.aload_n 0, 1) := by decide +kernel
theorem dX4_meltAt_23 : decode cX4_meltAt 23 = .ok (.aload_n 0, 1) := by decide +kernel
theorem dX4_meltAt_24 : decode cX4_meltAt 24 = .ok (.getfield 19, 3) := by decide +kernel
theorem dX4_meltAt_27 : decode cX4_meltAt 27 = .ok (.invokevirtual 60, 3) := by decide +kernel
theorem dX4_meltAt_30 : decode cX4_meltAt 30 = .ok (.iconst 1, 1) := by decide +kernel
theorem dX4_meltAt_31 : decode cX4_meltAt 31 = .ok (.iadd, 1) := by decide +kernel
theorem dX4_meltAt_32 : decode cX4_meltAt 32 = .ok (.putfield 63, 3) := by decide +kernel
theorem dX4_meltAt_35 : decode cX4_meltAt 35 = .ok (.aload_n 0, 1) := by decide +kernel
theorem dX4_meltAt_36 : decode cX4_meltAt 36 = .ok (.aload_n 0, 1) := by decide +kernel
theorem dX4_meltAt_37 : decode cX4_meltAt 37 = .ok (.getfield 19, 3) := by decide +kernel
theorem dX4_meltAt_40 : decode cX4_meltAt 40 = .ok (.getfield 66, 3) := by decide +kernel
theorem dX4_meltAt_43 : decode cX4_meltAt 43 = .ok (.putfield 69, 3) := by decide +kernel
theorem dX4_meltAt_46 : decode cX4_meltAt 46 = .ok (.aload_n 0, 1) := by decide +kernel
theorem dX4_meltAt_47 : decode cX4_meltAt 47 = .ok (.aload_n 0, 1) := by decide +kernel
theorem dX4_meltAt_48 : decode cX4_meltAt 48 = .ok (.getfield 63, 3) := by decide +kernel
theorem dX4_meltAt_51 : decode cX4_meltAt 51 = .ok (.aload_n 0, 1) := by decide +kernel
theorem dX4_meltAt_52 : decode cX4_meltAt 52 = .ok (.getfield 33, 3) := by decide +kernel
theorem dX4_meltAt_55 : decode cX4_meltAt 55 = .ok (.invokevirtual 60, 3) := by decide +kernel
theorem dX4_meltAt_58 : decode cX4_meltAt 58 = .ok (.iadd, 1) := by decide +kernel
theorem dX4_meltAt_59 : decode cX4_meltAt 59 = .ok (.iconst 1, 1) := by decide +kernel
theorem dX4_meltAt_60 : decode cX4_meltAt 60 = .ok (.iadd, 1) := by decide +kernel
theorem dX4_meltAt_61 : decode cX4_meltAt 61 = .ok (.putfield 72, 3) := by decide +kernel
theorem dX4_meltAt_64 : decode cX4_meltAt 64 = .ok (.aload_n 0, 1) := by decide +kernel
theorem dX4_meltAt_65 : decode cX4_meltAt 65 = .ok (.invokevirtual 75, 3) := by decide +kernel
theorem dX4_meltAt_68 : decode cX4_meltAt 68 = .ok (.iconst 1, 1) := by decide +kernel
theorem dX4_meltAt_69 : decode cX4_meltAt 69 = .ok (.isub, 1) := by decide +kernel
theorem dX4_meltAt_70 : decode cX4_meltAt 70 = .ok (.istore_n 2, 1) := by decide +kernel
theorem dX4_meltAt_71 : decode cX4_meltAt 71 = .ok (.aload_n 0, 1) := by decide +kernel
theorem dX4_meltAt_72 : decode cX4_meltAt 72 = .ok (.getfield 19, 3) := by decide +kernel
theorem dX4_meltAt_75 : decode cX4_meltAt 75 = .ok (.getfield 23, 3) := by decide +kernel
theorem dX4_meltAt_78 : decode cX4_meltAt 78 = .ok (.iload_n 2, 1) := by decide +kernel
theorem dX4_meltAt_79 : decode cX4_meltAt 79 = .ok (.iadd, 1) := by decide +kernel
theorem dX4_meltAt_80 : decode cX4_meltAt 80 = .ok (.sipush 200, 3) := by decide +kernel
theorem dX4_meltAt_83 : decode cX4_meltAt 83 = .ok (.if_icmp .gt 37, 3) := by decide +kernel
theorem dX4_meltAt_120 : decode cX4_meltAt 120 = .ok (.iconst 0, 1) := by decide +kernel
theorem dX4_meltAt_121 : decode cX4_meltAt 121 = .ok (.ireturn, 1) := by decide +kernel
theorem dX4_meltAt_86 : decode cX4_meltAt 86 = .ok (.aload_n 0, 1) := by decide +kernel
theorem dX4_meltAt_87 : decode cX4_meltAt 87 = .ok (.getfield 69, 3) := by decide +kernel
theorem dX4_meltAt_90 : decode cX4_meltAt 90 = .ok (.aload_n 0, 1) := by decide +kernel
theorem dX4_meltAt_91 : decode cX4_meltAt 91 = .ok (.getfield 33, 3) := by decide +kernel
theorem dX4_meltAt_94 : decode cX4_meltAt 94 = .ok (.getfield 66, 3) := by decide +kernel
theorem dX4_meltAt_97 : decode cX4_meltAt 97 = .ok (.iadd, 1) := by decide +kernel
theorem dX4_meltAt_98 : decode cX4_meltAt 98 = .ok (.bipush 12, 2) := by decide +kernel
theorem dX4_meltAt_100 : decode cX4_meltAt 100 = .ok (.if_icmp .gt 20, 3) := by decide +kernel
theorem dX4_meltAt_103 : decode cX4_meltAt 103 = .ok (.aload_n 0, 1) := by decide +kernel
theorem dX4_meltAt_104 : decode cX4_meltAt 104 = .ok (.getfield 57, 3) := by decide +kernel
theorem dX4_meltAt_107 : decode cX4_meltAt 107 = .ok (.aload_n 0, 1) := by decide +kernel
theorem dX4_meltAt_108 : decode cX4_meltAt 108 = .ok (.getfield 33, 3) := by decide +kernel
theorem dX4_meltAt_111 : decode cX4_meltAt 111 = .ok (.invokevirtual 54, 3) := by decide +kernel
theorem dX4_meltAt_114 : decode cX4_meltAt 114 = .ok (.iadd, 1) := by decide +kernel
theorem dX4_meltAt_115 : decode cX4_meltAt 115 = .ok (.bipush 100, 2) := by decide +kernel
theorem dX4_meltAt_117 : decode cX4_meltAt 117 = .ok (.if_icmp .le 5, 3) := by decide +kernel
theorem dX4_meltAt_122 : decode cX4_meltAt 122 = .ok (.aload_n 0, 1) := by decide +kernel
theorem dX4_meltAt_123 : decode cX4_meltAt 123 = .ok (.aload_n 0, 1) := by decide +kernel
theorem dX4_meltAt_124 : decode cX4_meltAt 124 = .ok (.getfield 19, 3) := by decide +kernel
theorem dX4_meltAt_127 : decode cX4_meltAt 127 = .ok (.iload_n 1, 1) := by decide +kernel
theorem dX4_meltAt_128 : decode cX4_meltAt 128 = .ok (.iconst 1, 1) := by decide +kernel
theorem dX4_meltAt_129 : decode cX4_meltAt 129 = .ok (.invokevirtual 29, 3) := by decide +kernel
theorem dX4_meltAt_132 : decode cX4_meltAt 132 = .ok (.putfield 78, 3) := by decide +kernel
theorem dX4_meltAt_135 : decode cX4_meltAt 135 = .ok (.iconst 0, 1) := by decide +kernel
theorem dX4_meltAt_136 : decode cX4_meltAt 136 = .ok (.istore_n 3, 1) := by decide +kernel
theorem dX4_meltAt_137 : decode cX4_meltAt 137 = .ok (.iload_n 3, 1) := by decide +kernel
theorem dX4_meltAt_138 : decode cX4_meltAt 138 = .ok (.aload_n 0, 1) := by decide +kernel
theorem dX4_meltAt_139 : decode cX4_meltAt 139 = .ok (.getfield 9, 3) := by decide +kernel
theorem dX4_meltAt_142 : decode cX4_meltAt 142 = .ok (.arraylength, 1) := by decide +kernel
theorem dX4_meltAt_143 : decode cX4_meltAt 143 = .ok (.if_icmp .ge 28, 3) := by decide +kernel
theorem dX4_meltAt_146 : decode cX4_meltAt 146 = .ok (.aload_n 0, 1) := by decide +kernel
theorem dX4_meltAt_147 : decode cX4_meltAt 147 = .ok (.getfield 9, 3) := by decide +kernel
theorem dX4_meltAt_150 : decode cX4_meltAt 150 = .ok (.iload_n 3, 1) := by decide +kernel
theorem dX4_meltAt_151 : decode cX4_meltAt 151 = .ok (.aload_n 0, 1) := by decide +kernel
theorem dX4_meltAt_152 : decode cX4_meltAt 152 = .ok (.getfield 19, 3) := by decide +kernel
theorem dX4_meltAt_155 : decode cX4_meltAt 155 = .ok (.iload_n 1, 1) := by decide +kernel
theorem dX4_meltAt_156 : decode cX4_meltAt 156 = .ok (.iconst 3, 1) := by decide +kernel
theorem dX4_meltAt_157 : decode cX4_meltAt 157 = .ok (.iload_n 3, 1) := by decide +kernel
theorem dX4_meltAt_158 : decode cX4_meltAt 158 = .ok (.iadd, 1) := by decide +kernel
theorem dX4_meltAt_159 : decode cX4_meltAt 159 = .ok (.invokevirtual 29, 3) := by decide +kernel
theorem dX4_meltAt_162 : decode cX4_meltAt 162 = .ok (.invokestatic 81, 3) := by decide +kernel
theorem dX4_meltAt_165 : decode cX4_meltAt 165 = .ok (.iinc 3 1, 3) := by decide +kernel
theorem dX4_meltAt_168 : decode cX4_meltAt 168 = .ok (.goto (-31), 3) := by decide +kernel
theorem ml4_85 : Cond.methodLink RX4 85 yX4_addFrames ∈ pWW := pw5 (List.mem_of_getElem? (i := 162) rfl) rfl
theorem ml4_89 : Cond.methodLink RX4 89 yX1_removeRow ∈ pWW := pw5 (List.mem_of_getElem? (i := 167) rfl) rfl
theorem ml4_92 : Cond.methodLink RX4 92 yX1_openRows ∈ pWW := pw5 (List.mem_of_getElem? (i := 168) rfl) rfl
theorem ml4_99 : Cond.methodLink RX4 99 yX4_addEntry ∈ pWW := pw5 (List.mem_of_getElem? (i := 172) rfl) rfl
theorem ml4_102 : Cond.methodLink RX4 102 yX4_addBody ∈ pWW := pw5 (List.mem_of_getElem? (i := 186) rfl) rfl
theorem dX4_meltAt_171 : decode cX4_meltAt 171 = .ok (.aload_n 0, 1) := by decide +kernel
theorem dX4_meltAt_172 : decode cX4_meltAt 172 = .ok (.iload_n 1, 1) := by decide +kernel
theorem dX4_meltAt_173 : decode cX4_meltAt 173 = .ok (.invokevirtual 85, 3) := by decide +kernel
theorem dX4_meltAt_176 : decode cX4_meltAt 176 = .ok (.aload_n 0, 1) := by decide +kernel
theorem dX4_meltAt_177 : decode cX4_meltAt 177 = .ok (.getfield 19, 3) := by decide +kernel
theorem dX4_meltAt_180 : decode cX4_meltAt 180 = .ok (.iload_n 1, 1) := by decide +kernel
theorem dX4_meltAt_181 : decode cX4_meltAt 181 = .ok (.invokevirtual 89, 3) := by decide +kernel
theorem dX4_meltAt_184 : decode cX4_meltAt 184 = .ok (.aload_n 0, 1) := by decide +kernel
theorem dX4_meltAt_185 : decode cX4_meltAt 185 = .ok (.getfield 19, 3) := by decide +kernel
theorem dX4_meltAt_188 : decode cX4_meltAt 188 = .ok (.iload_n 1, 1) := by decide +kernel
theorem dX4_meltAt_189 : decode cX4_meltAt 189 = .ok (.iload_n 2, 1) := by decide +kernel
theorem dX4_meltAt_190 : decode cX4_meltAt 190 = .ok (.iconst 1, 1) := by decide +kernel
theorem dX4_meltAt_191 : decode cX4_meltAt 191 = .ok (.iadd, 1) := by decide +kernel
theorem dX4_meltAt_192 : decode cX4_meltAt 192 = .ok (.invokevirtual 92, 3) := by decide +kernel
theorem dX4_meltAt_195 : decode cX4_meltAt 195 = .ok (.pop, 1) := by decide +kernel
theorem dX4_meltAt_196 : decode cX4_meltAt 196 = .ok (.aload_n 0, 1) := by decide +kernel
theorem dX4_meltAt_197 : decode cX4_meltAt 197 = .ok (.iload_n 1, 1) := by decide +kernel
theorem dX4_meltAt_198 : decode cX4_meltAt 198 = .ok (.putfield 96, 3) := by decide +kernel
theorem dX4_meltAt_201 : decode cX4_meltAt 201 = .ok (.aload_n 0, 1) := by decide +kernel
theorem dX4_meltAt_202 : decode cX4_meltAt 202 = .ok (.invokevirtual 99, 3) := by decide +kernel
theorem dX4_meltAt_205 : decode cX4_meltAt 205 = .ok (.aload_n 0, 1) := by decide +kernel
theorem dX4_meltAt_206 : decode cX4_meltAt 206 = .ok (.invokevirtual 102, 3) := by decide +kernel
theorem dX4_meltAt_209 : decode cX4_meltAt 209 = .ok (.iconst 1, 1) := by decide +kernel
theorem dX4_meltAt_210 : decode cX4_meltAt 210 = .ok (.ireturn, 1) := by decide +kernel
end
section
theorem cd_X4_melt : Cond.code yX4_melt cX4_melt 8 (some .int) ∈ pWW := pw5 (List.mem_of_getElem? (i := 134) rfl) rfl
abbrev m_X4_melt : MT := (yX4_melt, cX4_melt, 8, (some .int))
theorem ok_X4_melt : pOk m_X4_melt := ⟨⟨cd_X4_melt, ini_4⟩, by decide +kernel, ⟨by decide +kernel, by decide +kernel⟩, Nat.le_of_ble_eq_true rfl⟩
theorem np_X4_melt : (parseMethodDescriptor yX4_melt.desc).map (fun d => d.parameters.length) = some 4 := by decide +kernel
theorem im_X4_melt : Cond.instanceMethod yX4_melt ∈ pWW := pw5 (List.mem_of_getElem? (i := 132) rfl) rfl
theorem se_X4_melt : Cond.selects RX4 yX4_melt yX4_melt ∈ pWW := pw5 (List.mem_of_getElem? (i := 133) rfl) rfl
theorem ml4_36 : Cond.methodLink RX4 36 yX4_isSmall ∈ pWW := pw5 (List.mem_of_getElem? (i := 136) rfl) rfl
theorem ml4_40 : Cond.methodLink RX4 40 yX4_meltAt ∈ pWW := pw5 (List.mem_of_getElem? (i := 141) rfl) rfl
theorem dX4_melt_0 : decode cX4_melt 0 = .ok (.aload_n 0, 1) := by decide +kernel
theorem dX4_melt_1 : decode cX4_melt 1 = .ok (.aload 4, 2) := by decide +kernel
theorem dX4_melt_3 : decode cX4_melt 3 = .ok (.putfield 19, 3) := by decide +kernel
theorem dX4_melt_6 : decode cX4_melt 6 = .ok (.iconst 0, 1) := by decide +kernel
theorem dX4_melt_7 : decode cX4_melt 7 = .ok (.istore 5, 2) := by decide +kernel
theorem dX4_melt_9 : decode cX4_melt 9 = .ok (.iconst 0, 1) := by decide +kernel
theorem dX4_melt_10 : decode cX4_melt 10 = .ok (.istore 6, 2) := by decide +kernel
theorem dX4_melt_12 : decode cX4_melt 12 = .ok (.iload 6, 2) := by decide +kernel
theorem dX4_melt_14 : decode cX4_melt 14 = .ok (.aload_n 0, 1) := by decide +kernel
theorem dX4_melt_15 : decode cX4_melt 15 = .ok (.getfield 19, 3) := by decide +kernel
theorem dX4_melt_18 : decode cX4_melt 18 = .ok (.getfield 23, 3) := by decide +kernel
theorem dX4_melt_21 : decode cX4_melt 21 = .ok (.if_icmp .ge 98, 3) := by decide +kernel
theorem dX4_melt_24 : decode cX4_melt 24 = .ok (.aload_n 0, 1) := by decide +kernel
theorem dX4_melt_25 : decode cX4_melt 25 = .ok (.getfield 19, 3) := by decide +kernel
theorem dX4_melt_28 : decode cX4_melt 28 = .ok (.iload 6, 2) := by decide +kernel
theorem dX4_melt_30 : decode cX4_melt 30 = .ok (.iconst 0, 1) := by decide +kernel
theorem dX4_melt_31 : decode cX4_melt 31 = .ok (.invokevirtual 29, 3) := by decide +kernel
theorem dX4_melt_34 : decode cX4_melt 34 = .ok (.bipush 10, 2) := by decide +kernel
theorem dX4_melt_36 : decode cX4_melt 36 = .ok (.if_icmp .ne 16, 3) := by decide +kernel
theorem dX4_melt_52 : decode cX4_melt 52 = .ok (.iconst (-1), 1) := by decide +kernel
theorem dX4_melt_53 : decode cX4_melt 53 = .ok (.istore 7, 2) := by decide +kernel
theorem dX4_melt_55 : decode cX4_melt 55 = .ok (.iload 7, 2) := by decide +kernel
theorem dX4_melt_57 : decode cX4_melt 57 = .ok (.ifCond .lt 56, 3) := by decide +kernel
theorem dX4_melt_113 : decode cX4_melt 113 = .ok (.iinc 6 1, 3) := by decide +kernel
theorem dX4_melt_116 : decode cX4_melt 116 = .ok (.goto (-104), 3) := by decide +kernel
theorem dX4_melt_39 : decode cX4_melt 39 = .ok (.aload_n 0, 1) := by decide +kernel
theorem dX4_melt_40 : decode cX4_melt 40 = .ok (.getfield 19, 3) := by decide +kernel
theorem dX4_melt_43 : decode cX4_melt 43 = .ok (.iload 6, 2) := by decide +kernel
theorem dX4_melt_45 : decode cX4_melt 45 = .ok (.iconst 2, 1) := by decide +kernel
theorem dX4_melt_46 : decode cX4_melt 46 = .ok (.invokevirtual 29, 3) := by decide +kernel
theorem dX4_melt_49 : decode cX4_melt 49 = .ok (.goto 4, 3) := by decide +kernel
theorem dX4_melt_60 : decode cX4_melt 60 = .ok (.iload 7, 2) := by decide +kernel
theorem dX4_melt_62 : decode cX4_melt 62 = .ok (.iload_n 2, 1) := by decide +kernel
theorem dX4_melt_63 : decode cX4_melt 63 = .ok (.if_icmp .ge 50, 3) := by decide +kernel
theorem dX4_melt_66 : decode cX4_melt 66 = .ok (.iload 7, 2) := by decide +kernel
theorem dX4_melt_68 : decode cX4_melt 68 = .ok (.aload_n 1, 1) := by decide +kernel
theorem dX4_melt_69 : decode cX4_melt 69 = .ok (.arraylength, 1) := by decide +kernel
theorem dX4_melt_70 : decode cX4_melt 70 = .ok (.if_icmp .ge 43, 3) := by decide +kernel
theorem dX4_melt_73 : decode cX4_melt 73 = .ok (.iload 7, 2) := by decide +kernel
theorem dX4_melt_75 : decode cX4_melt 75 = .ok (.iload_n 3, 1) := by decide +kernel
theorem dX4_melt_76 : decode cX4_melt 76 = .ok (.if_icmp .eq 37, 3) := by decide +kernel
theorem dX4_melt_79 : decode cX4_melt 79 = .ok (.aload_n 1, 1) := by decide +kernel
theorem dX4_melt_80 : decode cX4_melt 80 = .ok (.iload 7, 2) := by decide +kernel
theorem dX4_melt_82 : decode cX4_melt 82 = .ok (.aaload, 1) := by decide +kernel
theorem dX4_melt_83 : decode cX4_melt 83 = .ok (.ifnull 30, 3) := by decide +kernel
theorem dX4_melt_86 : decode cX4_melt 86 = .ok (.aload_n 0, 1) := by decide +kernel
theorem dX4_melt_87 : decode cX4_melt 87 = .ok (.aload_n 1, 1) := by decide +kernel
theorem dX4_melt_88 : decode cX4_melt 88 = .ok (.iload 7, 2) := by decide +kernel
theorem dX4_melt_90 : decode cX4_melt 90 = .ok (.aaload, 1) := by decide +kernel
theorem dX4_melt_91 : decode cX4_melt 91 = .ok (.putfield 33, 3) := by decide +kernel
theorem dX4_melt_94 : decode cX4_melt 94 = .ok (.aload_n 0, 1) := by decide +kernel
theorem dX4_melt_95 : decode cX4_melt 95 = .ok (.invokevirtual 36, 3) := by decide +kernel
theorem dX4_melt_98 : decode cX4_melt 98 = .ok (.ifCond .eq 15, 3) := by decide +kernel
theorem dX4_melt_101 : decode cX4_melt 101 = .ok (.aload_n 0, 1) := by decide +kernel
theorem dX4_melt_102 : decode cX4_melt 102 = .ok (.iload 6, 2) := by decide +kernel
theorem dX4_melt_104 : decode cX4_melt 104 = .ok (.invokevirtual 40, 3) := by decide +kernel
theorem dX4_melt_107 : decode cX4_melt 107 = .ok (.ifCond .eq 6, 3) := by decide +kernel
theorem dX4_melt_110 : decode cX4_melt 110 = .ok (.iinc 5 1, 3) := by decide +kernel
theorem dX4_melt_119 : decode cX4_melt 119 = .ok (.iload 5, 2) := by decide +kernel
theorem dX4_melt_121 : decode cX4_melt 121 = .ok (.ireturn, 1) := by decide +kernel
end
section
def RP (σ : MS) (a : Nat) (k : Int) : Prop := ∀ t c : Nat, σ.2.1 33 a = (t : Int) → σ.2.1 35 a = (c : Int) → TKI σ t ∧ σ.2.1 6 c ≤ 4 * σ.2.1 84 t + k
section RPS
variable {T : CT} {σ τ : MS} {a t c n x : Nat} {k j z v : Int} {ks : List Nat}
theorem RP.up (h : RP σ a k) (hj : k ≤ j) : RP σ a j := fun t c q r => ⟨(h t c q r).1, by have := (h t c q r).2; omega⟩
theorem RP.frc (h : RP σ a k) (f : FrC T ks σ τ) (h1 : 33 ∉ ks) (h2 : 35 ∉ ks) (h3 : 6 ∉ ks) (h4 : 84 ∉ ks) (h5 : 85 ∉ ks) : RP τ a k := fun t c q r => by
  rw [f.1 33 (by omega) h1] at q
  rw [f.1 35 (by omega) h2] at r
  obtain ⟨w1, w2⟩ := h t c q r
  unfold TKI at *
  rw [f.1 84 (by omega) h4, f.1 85 (by omega) h5, f.1 6 (by omega) h3]
  exact ⟨w1, w2⟩
theorem RP.put (h : RP σ a k) (hn : n ≠ 33 ∧ n ≠ 35 ∧ n ≠ 6 ∧ n ≠ 84 ∧ n ≠ 85) : RP (sA n z v σ) a k := fun t c q r => by
  rw [sA_k (by omega)] at q
  rw [sA_k (by omega)] at r
  obtain ⟨w1, w2⟩ := h t c q r
  unfold TKI at *
  rw [sA_k (by omega), sA_k (by omega), sA_k (by omega)]
  exact ⟨w1, w2⟩
theorem RP.row {f : Int → Int} (h : RP σ a k) : RP (rowS (1000 + x) f σ) a k := fun t c q r => by
  rw [rowS_ne (by omega)] at q
  rw [rowS_ne (by omega)] at r
  obtain ⟨w1, w2⟩ := h t c q r
  unfold TKI at *
  rw [rowS_ne (by omega), rowS_ne (by omega), rowS_ne (by omega)]
  exact ⟨w1, w2⟩
theorem RP.arr (h : RP σ a k) : RP (sA (1000 + x) z v σ) a k := by rw [sA_row]; exact h.row
theorem RP.next (h : RP σ a k) (ht : σ.2.1 33 a = (t : Int)) (f : FrC T ks σ τ) (h1 : 33 ∉ ks) (h2 : 35 ∉ ks) (h3 : 6 ∉ ks) (hT : TKI τ t) (hle : σ.2.1 84 t ≤ τ.2.1 84 t) : RP τ a k := fun t2 c q r => by
  rw [f.1 33 (by omega) h1] at q
  rw [f.1 35 (by omega) h2] at r
  have e : t2 = t := by omega
  subst e
  obtain ⟨w1, w2⟩ := h t2 c q r
  rw [f.1 6 (by omega) h3]
  exact ⟨hT, by omega⟩
theorem RP.next4 (h : RP σ a k) (ht : σ.2.1 33 a = (t : Int)) (f : FrC T ks σ τ) (h1 : 33 ∉ ks) (h2 : 35 ∉ ks) (h3 : 6 ∉ ks) (hT : TKI τ t) (hA : ADV σ τ t) (hk : σ.2.1 85 t ≠ 0 ∧ σ.2.1 85 t ≠ 263 ∧ σ.2.1 85 t ≠ 264) : RP τ a (k - 4) := fun t2 c q r => by
  rw [f.1 33 (by omega) h1] at q
  rw [f.1 35 (by omega) h2] at r
  have e : t2 = t := by omega
  subst e
  obtain ⟨w1, w2⟩ := h t2 c q r
  have w3 := hA hk.1 hk.2.1 hk.2.2
  rw [f.1 6 (by omega) h3]
  exact ⟨hT, by omega⟩
theorem RP.app (h : RP σ a k) (hc : σ.2.1 35 a = (c : Int)) (f : FrC T ks σ τ) (h1 : 33 ∉ ks) (h2 : 35 ∉ ks) (h3 : 84 ∉ ks) (h4 : 85 ∉ ks) (h6 : τ.2.1 6 c = σ.2.1 6 c + 1) : RP τ a (k + 1) := fun t c2 q r => by
  rw [f.1 33 (by omega) h1] at q
  rw [f.1 35 (by omega) h2] at r
  have e : c2 = c := by omega
  subst e
  obtain ⟨w1, w2⟩ := h t c2 q r
  unfold TKI at *
  rw [f.1 84 (by omega) h3, f.1 85 (by omega) h4, h6]
  exact ⟨w1, by omega⟩
theorem RP.tk (h : RP σ a k) (hw : WT T σ) (ha : OB T a 5) (ht : σ.2.1 33 a = (t : Int)) : TKI σ t := by
  obtain ⟨c, hc, -⟩ := wf_35 hw ha
  exact (h t c ht hc).1
theorem RP.cnt (h : RP σ a k) (hw : WT T σ) (ha : OB T a 5) (hc : σ.2.1 35 a = (c : Int)) (hk : k ≤ 190) : σ.2.1 6 c ≤ 4999 := by
  obtain ⟨t, ht, hk2⟩ := wf_33 hw ha
  have ob : OB T t 9 := ⟨by omega, by rw [hk2]; rfl, by omega⟩
  have w := (h t c ht hc).2
  have q := wf_84 hw ob
  omega
end RPS
end
section
theorem cd_X5_exchange : Cond.code yX5_exchange cX5_exchange 4 (some (.object "LineKeeper$Code")) ∈ pWW := pw4 (List.mem_of_getElem? (i := 23) rfl) rfl
theorem ini_5 : Cond.initialized RX5 ∈ pWW := pw1 (List.mem_of_getElem? (i := 2) rfl) rfl
abbrev m_X5_exchange : MT := (yX5_exchange, cX5_exchange, 4, (some (.object "LineKeeper$Code")))
theorem ok_X5_exchange : pOk m_X5_exchange := ⟨⟨cd_X5_exchange, ini_5⟩, by decide +kernel, ⟨by decide +kernel, by decide +kernel⟩, Nat.le_of_ble_eq_true rfl⟩
theorem np_X5_exchange : (parseMethodDescriptor yX5_exchange.desc).map (fun d => d.parameters.length) = some 2 := by decide +kernel
theorem im_X5_exchange : Cond.instanceMethod yX5_exchange ∈ pWW := pw4 (List.mem_of_getElem? (i := 21) rfl) rfl
theorem se_X5_exchange : Cond.selects RX5 yX5_exchange yX5_exchange ∈ pWW := pw4 (List.mem_of_getElem? (i := 22) rfl) rfl
theorem fl5_20 : Cond.fieldLink RX5 20 (TX5 1).1 (TX5 1).2.1 (TX5 1).2.2.1 ∈ pWW := pw1 (List.mem_of_getElem? (i := 154) rfl) rfl
theorem dX5_exchange_0 : decode cX5_exchange 0 = .ok (.iload_n 1, 1) := by decide +kernel
theorem dX5_exchange_1 : decode cX5_exchange 1 = .ok (.ifCond .lt 21, 3) := by decide +kernel
theorem dX5_exchange_22 : decode cX5_exchange 22 = .ok (.aload_n 2, 1) := by decide +kernel
theorem dX5_exchange_23 : decode cX5_exchange 23 = .ok (.areturn, 1) := by decide +kernel
theorem dX5_exchange_4 : decode cX5_exchange 4 = .ok (.iload_n 1, 1) := by decide +kernel
theorem dX5_exchange_5 : decode cX5_exchange 5 = .ok (.aload_n 0, 1) := by decide +kernel
theorem dX5_exchange_6 : decode cX5_exchange 6 = .ok (.getfield 20, 3) := by decide +kernel
theorem dX5_exchange_9 : decode cX5_exchange 9 = .ok (.arraylength, 1) := by decide +kernel
theorem dX5_exchange_10 : decode cX5_exchange 10 = .ok (.if_icmp .ge 12, 3) := by decide +kernel
theorem dX5_exchange_13 : decode cX5_exchange 13 = .ok (.aload_n 0, 1) := by decide +kernel
theorem dX5_exchange_14 : decode cX5_exchange 14 = .ok (.getfield 20, 3) := by decide +kernel
theorem dX5_exchange_17 : decode cX5_exchange 17 = .ok (.iload_n 1, 1) := by decide +kernel
theorem dX5_exchange_18 : decode cX5_exchange 18 = .ok (.aaload, 1) := by decide +kernel
theorem dX5_exchange_19 : decode cX5_exchange 19 = .ok (.ifnonnull 5, 3) := by decide +kernel
theorem dX5_exchange_24 : decode cX5_exchange 24 = .ok (.aload_n 0, 1) := by decide +kernel
theorem dX5_exchange_25 : decode cX5_exchange 25 = .ok (.getfield 20, 3) := by decide +kernel
theorem dX5_exchange_28 : decode cX5_exchange 28 = .ok (.iload_n 1, 1) := by decide +kernel
theorem dX5_exchange_29 : decode cX5_exchange 29 = .ok (.aaload, 1) := by decide +kernel
theorem dX5_exchange_30 : decode cX5_exchange 30 = .ok (.astore_n 3, 1) := by decide +kernel
theorem dX5_exchange_31 : decode cX5_exchange 31 = .ok (.aload_n 0, 1) := by decide +kernel
theorem dX5_exchange_32 : decode cX5_exchange 32 = .ok (.getfield 20, 3) := by decide +kernel
theorem dX5_exchange_35 : decode cX5_exchange 35 = .ok (.iload_n 1, 1) := by decide +kernel
theorem dX5_exchange_36 : decode cX5_exchange 36 = .ok (.aload_n 2, 1) := by decide +kernel
theorem dX5_exchange_37 : decode cX5_exchange 37 = .ok (.aastore, 1) := by decide +kernel
theorem dX5_exchange_38 : decode cX5_exchange 38 = .ok (.aload_n 3, 1) := by decide +kernel
theorem dX5_exchange_39 : decode cX5_exchange 39 = .ok (.areturn, 1) := by decide +kernel
set_option maxRecDepth 20000 in
theorem k_X5_exchange (d : Nat) {T : CT} {σ : MS} {a : Nat} {p1 : Int} {p2 : Nat} (ha : OB T a 5) (h_p1 : -2147483648 ≤ p1 ∧ p1 ≤ 2147483647) (h_p2 : OB T p2 1) (t_p2 : (T p2).1 = 31) (hw : WT T σ) : Tn (d + 1) m_X5_exchange 0 T σ [(0, .ref a), (1, .int (iI p1)), (2, .ref p2)] [] (fun ro T2 σ2 => ∃ v : Int, ro = some (vl true v) ∧ T = T2 ∧ WT T2 σ2 ∧ FrC T [] σ σ2 ∧ (∃ x : Nat, v = (x : Int) ∧ (T2 x).1 = 31)) := by
  refine tn_iload_n dX5_exchange_0 rfl 1 rfl ?_
  refine tn_if_lt (tgt := 22) dX5_exchange_1 (by decide) ⟨by omega, by omega⟩ (fun h1 => ?_) (fun h1 => ?_)
  · refine tn_aload_n dX5_exchange_22 rfl 2 rfl ?_
    exact tn_aret rfl (Or.inl ⟨_, rfl⟩) (Or.inr ⟨_, rfl⟩) dX5_exchange_23 ⟨(p2 : Int), congrArg some (vl_ref rfl).symm, rfl, hw, FrC.rfl, ⟨_, rfl, t_p2⟩⟩
  · refine tn_iload_n dX5_exchange_4 rfl 1 rfl ?_
    refine tn_aload_n dX5_exchange_5 rfl 0 rfl ?_
    obtain ⟨x2, hx3, hk4, hl5⟩ : ∃ x : Nat, σ.2.1 34 a = (x : Int) ∧ AR T x 4 7 7 := wf_34 hw ha
    have hk4i : (T x2).1 = 4 ∨ (T x2).1 = 5 := by omega
    refine tn_getR (ci := 5) (i := 1) (n := 34) (x := x2) dX5_exchange_6 rfl lay_5 (by decide) fl5_20 ha rfl rfl (hx3) ?_
    refine tn_alenX dX5_exchange_9 (by have q9 := hk4i; omega) ?_
    refine tn_icmp_ge (tgt := 22) dX5_exchange_10 (by decide) ⟨by omega, by omega⟩ ⟨by omega, by omega⟩ (fun h6 => ?_) (fun h6 => ?_)
    · refine tn_aload_n dX5_exchange_22 rfl 2 rfl ?_
      exact tn_aret rfl (Or.inl ⟨_, rfl⟩) (Or.inr ⟨_, rfl⟩) dX5_exchange_23 ⟨(p2 : Int), congrArg some (vl_ref rfl).symm, rfl, hw, FrC.rfl, ⟨_, rfl, t_p2⟩⟩
    · refine tn_aload_n dX5_exchange_13 rfl 0 rfl ?_
      refine tn_getR (ci := 5) (i := 1) (n := 34) (x := x2) dX5_exchange_14 rfl lay_5 (by decide) fl5_20 ha rfl rfl (hx3) ?_
      refine tn_iload_n dX5_exchange_17 rfl 1 rfl ?_
      obtain ⟨x7, hx8, hk9⟩ := (hw).2.2.2.1.1 x2 hk4 (p1) (by omega) (by omega)
      refine tn_aald (z := p1) (x := x7) dX5_exchange_18 hk4i (by omega) (by omega) (by omega) hx8 ?_
      have hk9o : OB T x7 1 := ⟨by omega, by rw [hk9]; rfl, by omega⟩
      refine tn_ifnonnull (tgt := 24) dX5_exchange_19 (by decide) ?_
      refine tn_aload_n dX5_exchange_24 rfl 0 rfl ?_
      refine tn_getR (ci := 5) (i := 1) (n := 34) (x := x2) dX5_exchange_25 rfl lay_5 (by decide) fl5_20 ha rfl rfl (hx3) ?_
      refine tn_iload_n dX5_exchange_28 rfl 1 rfl ?_
      obtain ⟨x10, hx11, hk12⟩ := (hw).2.2.2.1.1 x2 hk4 (p1) (by omega) (by omega)
      refine tn_aald (z := p1) (x := x10) dX5_exchange_29 hk4i (by omega) (by omega) (by omega) hx11 ?_
      have hk12o : OB T x10 1 := ⟨by omega, by rw [hk12]; rfl, by omega⟩
      refine tn_astore_n (L' := [(3, .ref x10), (0, .ref a), (1, .int (iI p1)), (2, .ref p2)]) dX5_exchange_30 rfl (by decide) rfl ?_
      refine tn_aload_n dX5_exchange_31 rfl 1 rfl ?_
      refine tn_getR (ci := 5) (i := 1) (n := 34) (x := x2) dX5_exchange_32 rfl lay_5 (by decide) fl5_20 ha rfl rfl (hx3) ?_
      refine tn_iload_n dX5_exchange_35 rfl 2 rfl ?_
      refine tn_aload_n dX5_exchange_36 rfl 3 rfl ?_
      refine tn_aastQ (z := p1) (v := p2) dX5_exchange_37 (by have q9 := hk4i; omega) h_p2.r (by omega) (by omega) (by omega) ?_
      refine tn_aload_n dX5_exchange_38 rfl 0 rfl ?_
      exact tn_aret rfl (Or.inl ⟨_, rfl⟩) (Or.inr ⟨_, rfl⟩) dX5_exchange_39 ⟨(x10 : Int), congrArg some (vl_ref rfl).symm, rfl, (hw.rq (by have h1 := hk4; have h2 := t_p2; omega)), (FrC.rfl.arr (hk_no (nh_k hk4 (by unfold HT; omega)))), ⟨_, rfl, hk12⟩⟩
end
section
theorem cd_X5_refuse : Cond.code yX5_refuse cX5_refuse 1 (some .boolean) ∈ pWW := pw3 (List.mem_of_getElem? (i := 68) rfl) rfl
abbrev m_X5_refuse : MT := (yX5_refuse, cX5_refuse, 1, (some .boolean))
theorem ok_X5_refuse : pOk m_X5_refuse := ⟨⟨cd_X5_refuse, ini_5⟩, by decide +kernel, ⟨by decide +kernel, by decide +kernel⟩, Nat.le_of_ble_eq_true rfl⟩
theorem np_X5_refuse : (parseMethodDescriptor yX5_refuse.desc).map (fun d => d.parameters.length) = some 0 := by decide +kernel
theorem im_X5_refuse : Cond.instanceMethod yX5_refuse ∈ pWW := pw3 (List.mem_of_getElem? (i := 67) rfl) rfl
theorem se_X5_refuse : Cond.selects RX5 yX5_refuse yX5_refuse ∈ pWW := pws (List.mem_map.mpr ⟨_, lw_pin 5 rfl, rfl⟩) rfl
theorem fl5_51 : Cond.fieldLink RX5 51 (TX5 10).1 (TX5 10).2.1 (TX5 10).2.2.1 ∈ pWW := pw1 (List.mem_of_getElem? (i := 164) rfl) rfl
theorem fl5_12 : Cond.fieldLink RX5 12 (TX5 0).1 (TX5 0).2.1 (TX5 0).2.2.1 ∈ pWW := pw1 (List.mem_of_getElem? (i := 153) rfl) rfl
theorem fl5_74 : Cond.fieldLink RX5 74 (TX9 6).1 (TX9 6).2.1 (TX9 6).2.2.1 ∈ pWW := pw1 (List.mem_of_getElem? (i := 53) rfl) rfl
theorem fl5_55 : Cond.fieldLink RX5 55 (TX5 11).1 (TX5 11).2.1 (TX5 11).2.2.1 ∈ pWW := pw1 (List.mem_of_getElem? (i := 166) rfl) rfl
theorem dX5_refuse_0 : decode cX5_refuse 0 = .ok (.aload_n 0, 1) := by decide +kernel
theorem dX5_refuse_1 : decode cX5_refuse 1 = .ok (.iconst 1, 1) := by decide +kernel
theorem dX5_refuse_2 : decode cX5_refuse 2 = .ok (.putfield 51, 3) := by decide +kernel
theorem dX5_refuse_5 : decode cX5_refuse 5 = .ok (.aload_n 0, 1) := by decide +kernel
theorem dX5_refuse_6 : decode cX5_refuse 6 = .ok (.aload_n 0, 1) := by decide +kernel
theorem dX5_refuse_7 : decode cX5_refuse 7 = .ok (.getfield 12, 3) := by decide +kernel
theorem dX5_refuse_10 : decode cX5_refuse 10 = .ok (.getfield 74, 3) := by decide +kernel
theorem dX5_refuse_13 : decode cX5_refuse 13 = .ok (.putfield 55, 3) := by decide +kernel
theorem dX5_refuse_16 : decode cX5_refuse 16 = .ok (.iconst 0, 1) := by decide +kernel
theorem dX5_refuse_17 : decode cX5_refuse 17 = .ok (.ireturn, 1) := by decide +kernel
end
section
theorem cd_X5_note : Cond.code yX5_note cX5_note 3 none ∈ pWW := pw3 (List.mem_of_getElem? (i := 83) rfl) rfl
abbrev m_X5_note : MT := (yX5_note, cX5_note, 3, none)
theorem ok_X5_note : pOk m_X5_note := ⟨⟨cd_X5_note, ini_5⟩, by decide +kernel, ⟨by decide +kernel, by decide +kernel⟩, Nat.le_of_ble_eq_true rfl⟩
theorem np_X5_note : (parseMethodDescriptor yX5_note.desc).map (fun d => d.parameters.length) = some 2 := by decide +kernel
theorem im_X5_note : Cond.instanceMethod yX5_note ∈ pWW := pw3 (List.mem_of_getElem? (i := 82) rfl) rfl
theorem se_X5_note : Cond.selects RX5 yX5_note yX5_note ∈ pWW := pws (List.mem_map.mpr ⟨_, lw_pin 8 rfl, rfl⟩) rfl
theorem dX5_note_0 : decode cX5_note 0 = .ok (.aload_n 0, 1) := by decide +kernel
theorem dX5_note_1 : decode cX5_note 1 = .ok (.getfield 51, 3) := by decide +kernel
theorem dX5_note_4 : decode cX5_note 4 = .ok (.ifCond .eq 27, 3) := by decide +kernel
theorem dX5_note_31 : decode cX5_note 31 = .ok (.aload_n 0, 1) := by decide +kernel
theorem dX5_note_32 : decode cX5_note 32 = .ok (.iload_n 1, 1) := by decide +kernel
theorem dX5_note_33 : decode cX5_note 33 = .ok (.putfield 51, 3) := by decide +kernel
theorem dX5_note_36 : decode cX5_note 36 = .ok (.aload_n 0, 1) := by decide +kernel
theorem dX5_note_37 : decode cX5_note 37 = .ok (.iload_n 2, 1) := by decide +kernel
theorem dX5_note_38 : decode cX5_note 38 = .ok (.putfield 55, 3) := by decide +kernel
theorem dX5_note_41 : decode cX5_note 41 = .ok (.return_, 1) := by decide +kernel
theorem dX5_note_7 : decode cX5_note 7 = .ok (.iload_n 2, 1) := by decide +kernel
theorem dX5_note_8 : decode cX5_note 8 = .ok (.aload_n 0, 1) := by decide +kernel
theorem dX5_note_9 : decode cX5_note 9 = .ok (.getfield 55, 3) := by decide +kernel
theorem dX5_note_12 : decode cX5_note 12 = .ok (.if_icmp .lt 19, 3) := by decide +kernel
theorem dX5_note_15 : decode cX5_note 15 = .ok (.iload_n 2, 1) := by decide +kernel
theorem dX5_note_16 : decode cX5_note 16 = .ok (.aload_n 0, 1) := by decide +kernel
theorem dX5_note_17 : decode cX5_note 17 = .ok (.getfield 55, 3) := by decide +kernel
theorem dX5_note_20 : decode cX5_note 20 = .ok (.if_icmp .ne 21, 3) := by decide +kernel
theorem dX5_note_23 : decode cX5_note 23 = .ok (.iload_n 1, 1) := by decide +kernel
theorem dX5_note_24 : decode cX5_note 24 = .ok (.aload_n 0, 1) := by decide +kernel
theorem dX5_note_25 : decode cX5_note 25 = .ok (.getfield 51, 3) := by decide +kernel
theorem dX5_note_28 : decode cX5_note 28 = .ok (.if_icmp .ge 13, 3) := by decide +kernel
end
section
theorem cd_X5_taken : Cond.code yX5_taken cX5_taken 2 (some .boolean) ∈ pWW := pw3 (List.mem_of_getElem? (i := 96) rfl) rfl
abbrev m_X5_taken : MT := (yX5_taken, cX5_taken, 2, (some .boolean))
theorem ok_X5_taken : pOk m_X5_taken := ⟨⟨cd_X5_taken, ini_5⟩, by decide +kernel, ⟨by decide +kernel, by decide +kernel⟩, Nat.le_of_ble_eq_true rfl⟩
theorem np_X5_taken : (parseMethodDescriptor yX5_taken.desc).map (fun d => d.parameters.length) = some 1 := by decide +kernel
theorem im_X5_taken : Cond.instanceMethod yX5_taken ∈ pWW := pw3 (List.mem_of_getElem? (i := 95) rfl) rfl
theorem se_X5_taken : Cond.selects RX5 yX5_taken yX5_taken ∈ pWW := pws (List.mem_map.mpr ⟨_, lw_pin 9 rfl, rfl⟩) rfl
theorem fl5_71 : Cond.fieldLink RX5 71 (TX9 4).1 (TX9 4).2.1 (TX9 4).2.2.1 ∈ pWW := pw1 (List.mem_of_getElem? (i := 49) rfl) rfl
theorem ml5_93 : Cond.methodLink RX5 93 yX9_next ∈ pWW := pw3 (List.mem_of_getElem? (i := 92) rfl) rfl
theorem ml5_90 : Cond.methodLink RX5 90 yX5_refuse ∈ pWW := pw3 (List.mem_of_getElem? (i := 65) rfl) rfl
theorem dX5_taken_0 : decode cX5_taken 0 = .ok (.aload_n 0, 1) := by decide +kernel
theorem dX5_taken_1 : decode cX5_taken 1 = .ok (.getfield 12, 3) := by decide +kernel
theorem dX5_taken_4 : decode cX5_taken 4 = .ok (.getfield 71, 3) := by decide +kernel
theorem dX5_taken_7 : decode cX5_taken 7 = .ok (.iload_n 1, 1) := by decide +kernel
theorem dX5_taken_8 : decode cX5_taken 8 = .ok (.if_icmp .eq 8, 3) := by decide +kernel
theorem dX5_taken_16 : decode cX5_taken 16 = .ok (.aload_n 0, 1) := by decide +kernel
theorem dX5_taken_17 : decode cX5_taken 17 = .ok (.getfield 12, 3) := by decide +kernel
theorem dX5_taken_20 : decode cX5_taken 20 = .ok (.invokevirtual 93, 3) := by decide +kernel
theorem dX5_taken_23 : decode cX5_taken 23 = .ok (.iconst 1, 1) := by decide +kernel
theorem dX5_taken_24 : decode cX5_taken 24 = .ok (.ireturn, 1) := by decide +kernel
theorem dX5_taken_11 : decode cX5_taken 11 = .ok (.aload_n 0, 1) := by decide +kernel
theorem dX5_taken_12 : decode cX5_taken 12 = .ok (.invokevirtual 90, 3) := by decide +kernel
theorem dX5_taken_15 : decode cX5_taken 15 = .ok (.ireturn, 1) := by decide +kernel
end
section
theorem cd_X5_routineOf : Cond.code yX5_routineOf cX5_routineOf 3 (some .int) ∈ pWW := pw3 (List.mem_of_getElem? (i := 76) rfl) rfl
abbrev m_X5_routineOf : MT := (yX5_routineOf, cX5_routineOf, 3, (some .int))
theorem ok_X5_routineOf : pOk m_X5_routineOf := ⟨⟨cd_X5_routineOf, ini_5⟩, by decide +kernel, ⟨by decide +kernel, by decide +kernel⟩, Nat.le_of_ble_eq_true rfl⟩
theorem np_X5_routineOf : (parseMethodDescriptor yX5_routineOf.desc).map (fun d => d.parameters.length) = some 1 := by decide +kernel
theorem im_X5_routineOf : Cond.instanceMethod yX5_routineOf ∈ pWW := pw3 (List.mem_of_getElem? (i := 75) rfl) rfl
theorem se_X5_routineOf : Cond.selects RX5 yX5_routineOf yX5_routineOf ∈ pWW := pws (List.mem_map.mpr ⟨_, lw_pin 7 rfl, rfl⟩) rfl
theorem fl5_58 : Cond.fieldLink RX5 58 (TX5 5).1 (TX5 5).2.1 (TX5 5).2.2.1 ∈ pWW := pw1 (List.mem_of_getElem? (i := 158) rfl) rfl
theorem fl5_24 : Cond.fieldLink RX5 24 (TX5 3).1 (TX5 3).2.1 (TX5 3).2.2.1 ∈ pWW := pw1 (List.mem_of_getElem? (i := 156) rfl) rfl
theorem nl5_231 : (RX5, 231, yX11_at, "LineKeeper") ∈ nst_M := List.mem_of_getElem? (i := 7) rfl
theorem dX5_routineOf_0 : decode cX5_routineOf 0 = .ok (.iconst 0, 1) := by decide +kernel
theorem dX5_routineOf_1 : decode cX5_routineOf 1 = .ok (.istore_n 2, 1) := by decide +kernel
theorem dX5_routineOf_2 : decode cX5_routineOf 2 = .ok (.iload_n 2, 1) := by decide +kernel
theorem dX5_routineOf_3 : decode cX5_routineOf 3 = .ok (.aload_n 0, 1) := by decide +kernel
theorem dX5_routineOf_4 : decode cX5_routineOf 4 = .ok (.getfield 58, 3) := by decide +kernel
theorem dX5_routineOf_7 : decode cX5_routineOf 7 = .ok (.if_icmp .ge 23, 3) := by decide +kernel
theorem dX5_routineOf_10 : decode cX5_routineOf 10 = .ok (.aload_n 0, 1) := by decide +kernel
theorem dX5_routineOf_11 : decode cX5_routineOf 11 = .ok (.getfield 24, 3) := by decide +kernel
theorem dX5_routineOf_14 : decode cX5_routineOf 14 = .ok (.iload_n 2, 1) := by decide +kernel
theorem dX5_routineOf_15 : decode cX5_routineOf 15 = .ok (.invokestatic 231, 3) := by decide +kernel
theorem dX5_routineOf_18 : decode cX5_routineOf 18 = .ok (.iload_n 1, 1) := by decide +kernel
theorem dX5_routineOf_19 : decode cX5_routineOf 19 = .ok (.if_icmp .ne 5, 3) := by decide +kernel
theorem dX5_routineOf_24 : decode cX5_routineOf 24 = .ok (.iinc 2 1, 3) := by decide +kernel
theorem dX5_routineOf_27 : decode cX5_routineOf 27 = .ok (.goto (-25), 3) := by decide +kernel
theorem dX5_routineOf_22 : decode cX5_routineOf 22 = .ok (.iload_n 2, 1) := by decide +kernel
theorem dX5_routineOf_23 : decode cX5_routineOf 23 = .ok (.ireturn, 1) := by decide +kernel
theorem dX5_routineOf_30 : decode cX5_routineOf 30 = .ok (.iconst (-1), 1) := by decide +kernel
theorem dX5_routineOf_31 : decode cX5_routineOf 31 = .ok (.ireturn, 1) := by decide +kernel
end
section
theorem cd_X5_nameIndex : Cond.code yX5_nameIndex cX5_nameIndex 3 (some .int) ∈ pWW := pw3 (List.mem_of_getElem? (i := 108) rfl) rfl
abbrev m_X5_nameIndex : MT := (yX5_nameIndex, cX5_nameIndex, 3, (some .int))
theorem ok_X5_nameIndex : pOk m_X5_nameIndex := ⟨⟨cd_X5_nameIndex, ini_5⟩, by decide +kernel, ⟨by decide +kernel, by decide +kernel⟩, Nat.le_of_ble_eq_true rfl⟩
theorem np_X5_nameIndex : (parseMethodDescriptor yX5_nameIndex.desc).map (fun d => d.parameters.length) = some 1 := by decide +kernel
theorem im_X5_nameIndex : Cond.instanceMethod yX5_nameIndex ∈ pWW := pw3 (List.mem_of_getElem? (i := 107) rfl) rfl
theorem se_X5_nameIndex : Cond.selects RX5 yX5_nameIndex yX5_nameIndex ∈ pWW := pws (List.mem_map.mpr ⟨_, lw_pin 12 rfl, rfl⟩) rfl
theorem fl5_47 : Cond.fieldLink RX5 47 (TX5 2).1 (TX5 2).2.1 (TX5 2).2.2.1 ∈ pWW := pw1 (List.mem_of_getElem? (i := 155) rfl) rfl
theorem fl5_152 : Cond.fieldLink RX5 152 (TX1 2).1 (TX1 2).2.1 (TX1 2).2.2.1 ∈ pWW := pw1 (List.mem_of_getElem? (i := 91) rfl) rfl
theorem fl5_40 : Cond.fieldLink RX5 40 (TX5 15).1 (TX5 15).2.1 (TX5 15).2.2.1 ∈ pWW := pw1 (List.mem_of_getElem? (i := 171) rfl) rfl
theorem dX5_nameIndex_0 : decode cX5_nameIndex 0 = .ok (.iconst 0, 1) := by decide +kernel
theorem dX5_nameIndex_1 : decode cX5_nameIndex 1 = .ok (.istore_n 2, 1) := by decide +kernel
theorem dX5_nameIndex_2 : decode cX5_nameIndex 2 = .ok (.iload_n 2, 1) := by decide +kernel
theorem dX5_nameIndex_3 : decode cX5_nameIndex 3 = .ok (.aload_n 0, 1) := by decide +kernel
theorem dX5_nameIndex_4 : decode cX5_nameIndex 4 = .ok (.getfield 47, 3) := by decide +kernel
theorem dX5_nameIndex_7 : decode cX5_nameIndex 7 = .ok (.getfield 152, 3) := by decide +kernel
theorem dX5_nameIndex_10 : decode cX5_nameIndex 10 = .ok (.if_icmp .ge 30, 3) := by decide +kernel
theorem dX5_nameIndex_13 : decode cX5_nameIndex 13 = .ok (.iload_n 2, 1) := by decide +kernel
theorem dX5_nameIndex_14 : decode cX5_nameIndex 14 = .ok (.aload_n 0, 1) := by decide +kernel
theorem dX5_nameIndex_15 : decode cX5_nameIndex 15 = .ok (.getfield 40, 3) := by decide +kernel
theorem dX5_nameIndex_18 : decode cX5_nameIndex 18 = .ok (.arraylength, 1) := by decide +kernel
theorem dX5_nameIndex_19 : decode cX5_nameIndex 19 = .ok (.if_icmp .ge 21, 3) := by decide +kernel
theorem dX5_nameIndex_22 : decode cX5_nameIndex 22 = .ok (.aload_n 0, 1) := by decide +kernel
theorem dX5_nameIndex_23 : decode cX5_nameIndex 23 = .ok (.getfield 40, 3) := by decide +kernel
theorem dX5_nameIndex_26 : decode cX5_nameIndex 26 = .ok (.iload_n 2, 1) := by decide +kernel
theorem dX5_nameIndex_27 : decode cX5_nameIndex 27 = .ok (.iaload, 1) := by decide +kernel
theorem dX5_nameIndex_28 : decode cX5_nameIndex 28 = .ok (.iload_n 1, 1) := by decide +kernel
theorem dX5_nameIndex_29 : decode cX5_nameIndex 29 = .ok (.if_icmp .ne 5, 3) := by decide +kernel
theorem dX5_nameIndex_34 : decode cX5_nameIndex 34 = .ok (.iinc 2 1, 3) := by decide +kernel
theorem dX5_nameIndex_37 : decode cX5_nameIndex 37 = .ok (.goto (-35), 3) := by decide +kernel
theorem dX5_nameIndex_32 : decode cX5_nameIndex 32 = .ok (.iload_n 2, 1) := by decide +kernel
theorem dX5_nameIndex_33 : decode cX5_nameIndex 33 = .ok (.ireturn, 1) := by decide +kernel
theorem dX5_nameIndex_40 : decode cX5_nameIndex 40 = .ok (.iconst (-1), 1) := by decide +kernel
theorem dX5_nameIndex_41 : decode cX5_nameIndex 41 = .ok (.ireturn, 1) := by decide +kernel
end
section
theorem cd_X5_register : Cond.code yX5_register cX5_register 2 (some .int) ∈ pWW := pw3 (List.mem_of_getElem? (i := 112) rfl) rfl
abbrev m_X5_register : MT := (yX5_register, cX5_register, 2, (some .int))
theorem ok_X5_register : pOk m_X5_register := ⟨⟨cd_X5_register, ini_5⟩, by decide +kernel, ⟨by decide +kernel, by decide +kernel⟩, Nat.le_of_ble_eq_true rfl⟩
theorem np_X5_register : (parseMethodDescriptor yX5_register.desc).map (fun d => d.parameters.length) = some 0 := by decide +kernel
theorem im_X5_register : Cond.instanceMethod yX5_register ∈ pWW := pw3 (List.mem_of_getElem? (i := 111) rfl) rfl
theorem se_X5_register : Cond.selects RX5 yX5_register yX5_register ∈ pWW := pws (List.mem_map.mpr ⟨_, lw_pin 13 rfl, rfl⟩) rfl
theorem fl5_96 : Cond.fieldLink RX5 96 (TX9 5).1 (TX9 5).2.1 (TX9 5).2.2.1 ∈ pWW := pw1 (List.mem_of_getElem? (i := 51) rfl) rfl
theorem ml5_173 : Cond.methodLink RX5 173 yX5_nameIndex ∈ pWW := pw3 (List.mem_of_getElem? (i := 105) rfl) rfl
theorem nl5_129 : (RX5, 129, yX11_put, "LineKeeper") ∈ nst_M := List.mem_of_getElem? (i := 9) rfl
theorem ml5_113 : Cond.methodLink RX5 113 yX5_note ∈ pWW := pw3 (List.mem_of_getElem? (i := 80) rfl) rfl
theorem dX5_register_0 : decode cX5_register 0 = .ok (.aload_n 0, 1) := by decide +kernel
theorem dX5_register_1 : decode cX5_register 1 = .ok (.aload_n 0, 1) := by decide +kernel
theorem dX5_register_2 : decode cX5_register 2 = .ok (.getfield 12, 3) := by decide +kernel
theorem dX5_register_5 : decode cX5_register 5 = .ok (.getfield 96, 3) := by decide +kernel
theorem dX5_register_8 : decode cX5_register 8 = .ok (.invokevirtual 173, 3) := by decide +kernel
theorem dX5_register_11 : decode cX5_register 11 = .ok (.istore_n 1, 1) := by decide +kernel
theorem dX5_register_12 : decode cX5_register 12 = .ok (.iload_n 1, 1) := by decide +kernel
theorem dX5_register_13 : decode cX5_register 13 = .ok (.iconst (-1), 1) := by decide +kernel
theorem dX5_register_14 : decode cX5_register 14 = .ok (.if_icmp .eq 5, 3) := by decide +kernel
theorem dX5_register_19 : decode cX5_register 19 = .ok (.aload_n 0, 1) := by decide +kernel
theorem dX5_register_20 : decode cX5_register 20 = .ok (.getfield 47, 3) := by decide +kernel
theorem dX5_register_23 : decode cX5_register 23 = .ok (.getfield 152, 3) := by decide +kernel
theorem dX5_register_26 : decode cX5_register 26 = .ok (.bipush 12, 2) := by decide +kernel
theorem dX5_register_28 : decode cX5_register 28 = .ok (.if_icmp .lt 17, 3) := by decide +kernel
theorem dX5_register_45 : decode cX5_register 45 = .ok (.aload_n 0, 1) := by decide +kernel
theorem dX5_register_46 : decode cX5_register 46 = .ok (.getfield 40, 3) := by decide +kernel
theorem dX5_register_49 : decode cX5_register 49 = .ok (.aload_n 0, 1) := by decide +kernel
theorem dX5_register_50 : decode cX5_register 50 = .ok (.getfield 47, 3) := by decide +kernel
theorem dX5_register_53 : decode cX5_register 53 = .ok (.getfield 152, 3) := by decide +kernel
theorem dX5_register_56 : decode cX5_register 56 = .ok (.aload_n 0, 1) := by decide +kernel
theorem dX5_register_57 : decode cX5_register 57 = .ok (.getfield 12, 3) := by decide +kernel
theorem dX5_register_60 : decode cX5_register 60 = .ok (.getfield 96, 3) := by decide +kernel
theorem dX5_register_63 : decode cX5_register 63 = .ok (.invokestatic 129, 3) := by decide +kernel
theorem dX5_register_66 : decode cX5_register 66 = .ok (.aload_n 0, 1) := by decide +kernel
theorem dX5_register_67 : decode cX5_register 67 = .ok (.getfield 47, 3) := by decide +kernel
theorem dX5_register_70 : decode cX5_register 70 = .ok (.dup, 1) := by decide +kernel
theorem dX5_register_71 : decode cX5_register 71 = .ok (.getfield 152, 3) := by decide +kernel
theorem dX5_register_74 : decode cX5_register 74 = .ok (.iconst 1, 1) := by decide +kernel
theorem dX5_register_75 : decode cX5_register 75 = .ok (.iadd, 1) := by decide +kernel
theorem dX5_register_76 : decode cX5_register 76 = .ok (.putfield 152, 3) := by decide +kernel
theorem dX5_register_79 : decode cX5_register 79 = .ok (.aload_n 0, 1) := by decide +kernel
theorem dX5_register_80 : decode cX5_register 80 = .ok (.getfield 47, 3) := by decide +kernel
theorem dX5_register_83 : decode cX5_register 83 = .ok (.getfield 152, 3) := by decide +kernel
theorem dX5_register_86 : decode cX5_register 86 = .ok (.iconst 1, 1) := by decide +kernel
theorem dX5_register_87 : decode cX5_register 87 = .ok (.isub, 1) := by decide +kernel
theorem dX5_register_88 : decode cX5_register 88 = .ok (.ireturn, 1) := by decide +kernel
theorem dX5_register_31 : decode cX5_register 31 = .ok (.aload_n 0, 1) := by decide +kernel
theorem dX5_register_32 : decode cX5_register 32 = .ok (.iconst 5, 1) := by decide +kernel
theorem dX5_register_33 : decode cX5_register 33 = .ok (.aload_n 0, 1) := by decide +kernel
theorem dX5_register_34 : decode cX5_register 34 = .ok (.getfield 12, 3) := by decide +kernel
theorem dX5_register_37 : decode cX5_register 37 = .ok (.getfield 74, 3) := by decide +kernel
theorem dX5_register_40 : decode cX5_register 40 = .ok (.invokevirtual 113, 3) := by decide +kernel
theorem dX5_register_43 : decode cX5_register 43 = .ok (.iconst 0, 1) := by decide +kernel
theorem dX5_register_44 : decode cX5_register 44 = .ok (.ireturn, 1) := by decide +kernel
theorem dX5_register_17 : decode cX5_register 17 = .ok (.iload_n 1, 1) := by decide +kernel
theorem dX5_register_18 : decode cX5_register 18 = .ok (.ireturn, 1) := by decide +kernel
end
section
theorem cd_X5_newLabel : Cond.code yX5_newLabel cX5_newLabel 1 (some .int) ∈ pWW := pw3 (List.mem_of_getElem? (i := 221) rfl) rfl
abbrev m_X5_newLabel : MT := (yX5_newLabel, cX5_newLabel, 1, (some .int))
theorem ok_X5_newLabel : pOk m_X5_newLabel := ⟨⟨cd_X5_newLabel, ini_5⟩, by decide +kernel, ⟨by decide +kernel, by decide +kernel⟩, Nat.le_of_ble_eq_true rfl⟩
theorem np_X5_newLabel : (parseMethodDescriptor yX5_newLabel.desc).map (fun d => d.parameters.length) = some 0 := by decide +kernel
theorem im_X5_newLabel : Cond.instanceMethod yX5_newLabel ∈ pWW := pw3 (List.mem_of_getElem? (i := 220) rfl) rfl
theorem se_X5_newLabel : Cond.selects RX5 yX5_newLabel yX5_newLabel ∈ pWW := pws (List.mem_map.mpr ⟨_, lw_pin 29 rfl, rfl⟩) rfl
theorem fl5_133 : Cond.fieldLink RX5 133 (TX5 13).1 (TX5 13).2.1 (TX5 13).2.2.1 ∈ pWW := pw1 (List.mem_of_getElem? (i := 169) rfl) rfl
theorem dX5_newLabel_0 : decode cX5_newLabel 0 = .ok (.aload_n 0, 1) := by decide +kernel
theorem dX5_newLabel_1 : decode cX5_newLabel 1 = .ok (.dup, 1) := by decide +kernel
theorem dX5_newLabel_2 : decode cX5_newLabel 2 = .ok (.getfield 133, 3) := by decide +kernel
theorem dX5_newLabel_5 : decode cX5_newLabel 5 = .ok (.iconst 1, 1) := by decide +kernel
theorem dX5_newLabel_6 : decode cX5_newLabel 6 = .ok (.iadd, 1) := by decide +kernel
theorem dX5_newLabel_7 : decode cX5_newLabel 7 = .ok (.putfield 133, 3) := by decide +kernel
theorem dX5_newLabel_10 : decode cX5_newLabel 10 = .ok (.aload_n 0, 1) := by decide +kernel
theorem dX5_newLabel_11 : decode cX5_newLabel 11 = .ok (.getfield 133, 3) := by decide +kernel
theorem dX5_newLabel_14 : decode cX5_newLabel 14 = .ok (.iconst 1, 1) := by decide +kernel
theorem dX5_newLabel_15 : decode cX5_newLabel 15 = .ok (.isub, 1) := by decide +kernel
theorem dX5_newLabel_16 : decode cX5_newLabel 16 = .ok (.ireturn, 1) := by decide +kernel
set_option maxRecDepth 20000 in
theorem k_X5_newLabel (d : Nat) {T : CT} {σ : MS} {a : Nat} (ha : OB T a 5) (hw : WT T σ) : Tn (d + 1) m_X5_newLabel 0 T σ [(0, .ref a)] [] (fun ro T2 σ2 => ∃ v : Int, ro = some (.int (iI v)) ∧ T = T2 ∧ WT T2 σ2 ∧ FrC T [46] σ σ2 ∧ (-2147483648 ≤ v ∧ v ≤ 2147483647)) := by
  refine tn_aload_n dX5_newLabel_0 rfl 0 rfl ?_
  refine tn_dup dX5_newLabel_1 rfl ?_
  refine tn_getI (ci := 5) (i := 13) (n := 46) (t := σ.2.1 46 a) dX5_newLabel_2 rfl lay_5 (by decide) fl5_133 ha rfl rfl (rfl) ?_
  have g1 : ((-2147483648 : Int) ≤ σ.2.1 46 a ∧ σ.2.1 46 a ≤ 2147483647) := wf_46 hw ha
  refine tn_iconst dX5_newLabel_5 ?_
  refine tn_iadd dX5_newLabel_6 ?_
  refine tn_any (fun z2 g3 => ?_)
  have g3r : -2147483648 ≤ z2 ∧ z2 ≤ 2147483647 := g3
  refine tn_putV (ci := 5) (i := 13) (n := 46) (r := false) (v := z2) tyX5 tyX5_ok nmX5 dX5_newLabel_7 rfl lay_5 (by decide) fl5_133 rfl (tyX5_ok 13 (by decide)) rfl rfl rfl ha rfl rfl ?_
  refine tn_aload_n dX5_newLabel_10 rfl 0 rfl ?_
  refine tn_getI (ci := 5) (i := 13) (n := 46) (t := z2) dX5_newLabel_11 rfl lay_5 (by decide) fl5_133 ha rfl rfl (ra_eq) ?_
  refine tn_iconst dX5_newLabel_14 ?_
  refine tn_isub dX5_newLabel_15 ?_
  refine tn_any (fun z4 g5 => ?_)
  have g5r : -2147483648 ≤ z4 ∧ z4 ≤ 2147483647 := g5
  exact tn_iret rfl dX5_newLabel_16 ⟨_, rfl, rfl, (hw.put (by decide) (by decide) (fo_46 (by omega))), (FrC.rfl.put (by decide) (by decide)), by omega⟩
end
section
theorem cd_X5_listCall : Cond.code yX5_listCall cX5_listCall 4 none ∈ pWW := pw3 (List.mem_of_getElem? (i := 193) rfl) rfl
abbrev m_X5_listCall : MT := (yX5_listCall, cX5_listCall, 4, none)
theorem ok_X5_listCall : pOk m_X5_listCall := ⟨⟨cd_X5_listCall, ini_5⟩, by decide +kernel, ⟨by decide +kernel, by decide +kernel⟩, Nat.le_of_ble_eq_true rfl⟩
theorem np_X5_listCall : (parseMethodDescriptor yX5_listCall.desc).map (fun d => d.parameters.length) = some 3 := by decide +kernel
theorem im_X5_listCall : Cond.instanceMethod yX5_listCall ∈ pWW := pw3 (List.mem_of_getElem? (i := 192) rfl) rfl
theorem se_X5_listCall : Cond.selects RX5 yX5_listCall yX5_listCall ∈ pWW := pws (List.mem_map.mpr ⟨_, lw_pin 24 rfl, rfl⟩) rfl
theorem fl5_31 : Cond.fieldLink RX5 31 (TX5 6).1 (TX5 6).2.1 (TX5 6).2.2.1 ∈ pWW := pw1 (List.mem_of_getElem? (i := 160) rfl) rfl
theorem fl5_61 : Cond.fieldLink RX5 61 (TX5 9).1 (TX5 9).2.1 (TX5 9).2.2.1 ∈ pWW := pw1 (List.mem_of_getElem? (i := 163) rfl) rfl
theorem fl5_34 : Cond.fieldLink RX5 34 (TX5 7).1 (TX5 7).2.1 (TX5 7).2.2.1 ∈ pWW := pw1 (List.mem_of_getElem? (i := 161) rfl) rfl
theorem fl5_37 : Cond.fieldLink RX5 37 (TX5 8).1 (TX5 8).2.1 (TX5 8).2.2.1 ∈ pWW := pw1 (List.mem_of_getElem? (i := 162) rfl) rfl
theorem mlm5_117 : Cond.methodLink RX5 117 Lib.Math.min.name ∈ pWW := pw3 (List.mem_of_getElem? (i := 84) rfl) rfl
theorem dX5_listCall_0 : decode cX5_listCall 0 = .ok (.aload_n 0, 1) := by decide +kernel
theorem dX5_listCall_1 : decode cX5_listCall 1 = .ok (.getfield 31, 3) := by decide +kernel
theorem dX5_listCall_4 : decode cX5_listCall 4 = .ok (.aload_n 0, 1) := by decide +kernel
theorem dX5_listCall_5 : decode cX5_listCall 5 = .ok (.getfield 61, 3) := by decide +kernel
theorem dX5_listCall_8 : decode cX5_listCall 8 = .ok (.iload_n 1, 1) := by decide +kernel
theorem dX5_listCall_9 : decode cX5_listCall 9 = .ok (.invokestatic 129, 3) := by decide +kernel
theorem dX5_listCall_12 : decode cX5_listCall 12 = .ok (.aload_n 0, 1) := by decide +kernel
theorem dX5_listCall_13 : decode cX5_listCall 13 = .ok (.getfield 34, 3) := by decide +kernel
theorem dX5_listCall_16 : decode cX5_listCall 16 = .ok (.aload_n 0, 1) := by decide +kernel
theorem dX5_listCall_17 : decode cX5_listCall 17 = .ok (.getfield 61, 3) := by decide +kernel
theorem dX5_listCall_20 : decode cX5_listCall 20 = .ok (.iload_n 2, 1) := by decide +kernel
theorem dX5_listCall_21 : decode cX5_listCall 21 = .ok (.invokestatic 129, 3) := by decide +kernel
theorem dX5_listCall_24 : decode cX5_listCall 24 = .ok (.aload_n 0, 1) := by decide +kernel
theorem dX5_listCall_25 : decode cX5_listCall 25 = .ok (.getfield 37, 3) := by decide +kernel
theorem dX5_listCall_28 : decode cX5_listCall 28 = .ok (.aload_n 0, 1) := by decide +kernel
theorem dX5_listCall_29 : decode cX5_listCall 29 = .ok (.getfield 61, 3) := by decide +kernel
theorem dX5_listCall_32 : decode cX5_listCall 32 = .ok (.iload_n 3, 1) := by decide +kernel
theorem dX5_listCall_33 : decode cX5_listCall 33 = .ok (.invokestatic 129, 3) := by decide +kernel
theorem dX5_listCall_36 : decode cX5_listCall 36 = .ok (.aload_n 0, 1) := by decide +kernel
theorem dX5_listCall_37 : decode cX5_listCall 37 = .ok (.aload_n 0, 1) := by decide +kernel
theorem dX5_listCall_38 : decode cX5_listCall 38 = .ok (.getfield 61, 3) := by decide +kernel
theorem dX5_listCall_41 : decode cX5_listCall 41 = .ok (.iconst 1, 1) := by decide +kernel
theorem dX5_listCall_42 : decode cX5_listCall 42 = .ok (.iadd, 1) := by decide +kernel
theorem dX5_listCall_43 : decode cX5_listCall 43 = .ok (.sipush 256, 3) := by decide +kernel
theorem dX5_listCall_46 : decode cX5_listCall 46 = .ok (.invokestatic 117, 3) := by decide +kernel
theorem dX5_listCall_49 : decode cX5_listCall 49 = .ok (.putfield 61, 3) := by decide +kernel
theorem dX5_listCall_52 : decode cX5_listCall 52 = .ok (.return_, 1) := by decide +kernel
end
section
theorem cd_X5_zeroToNew : Cond.code yX5_zeroToNew cX5_zeroToNew 2 (some .int) ∈ pWW := pw3 (List.mem_of_getElem? (i := 217) rfl) rfl
abbrev m_X5_zeroToNew : MT := (yX5_zeroToNew, cX5_zeroToNew, 2, (some .int))
theorem ok_X5_zeroToNew : pOk m_X5_zeroToNew := ⟨⟨cd_X5_zeroToNew, ini_5⟩, by decide +kernel, ⟨by decide +kernel, by decide +kernel⟩, Nat.le_of_ble_eq_true rfl⟩
theorem np_X5_zeroToNew : (parseMethodDescriptor yX5_zeroToNew.desc).map (fun d => d.parameters.length) = some 0 := by decide +kernel
theorem im_X5_zeroToNew : Cond.instanceMethod yX5_zeroToNew ∈ pWW := pw3 (List.mem_of_getElem? (i := 216) rfl) rfl
theorem se_X5_zeroToNew : Cond.selects RX5 yX5_zeroToNew yX5_zeroToNew ∈ pWW := pws (List.mem_map.mpr ⟨_, lw_pin 28 rfl, rfl⟩) rfl
theorem ml5_238 : Cond.methodLink RX5 238 yX5_newLabel ∈ pWW := pw3 (List.mem_of_getElem? (i := 218) rfl) rfl
theorem ml5_139 : Cond.methodLink RX5 139 yX1_append ∈ pWW := pw3 (List.mem_of_getElem? (i := 125) rfl) rfl
theorem fl5_216 : Cond.fieldLink RX5 216 (TX5 17).1 (TX5 17).2.1 (TX5 17).2.2.1 ∈ pWW := pw1 (List.mem_of_getElem? (i := 173) rfl) rfl
theorem fl5_219 : Cond.fieldLink RX5 219 (TX5 18).1 (TX5 18).2.1 (TX5 18).2.2.1 ∈ pWW := pw1 (List.mem_of_getElem? (i := 174) rfl) rfl
theorem ml5_143 : Cond.methodLink RX5 143 yX1_lastOperand ∈ pWW := pw3 (List.mem_of_getElem? (i := 186) rfl) rfl
theorem dX5_zeroToNew_0 : decode cX5_zeroToNew 0 = .ok (.aload_n 0, 1) := by decide +kernel
theorem dX5_zeroToNew_1 : decode cX5_zeroToNew 1 = .ok (.invokevirtual 238, 3) := by decide +kernel
theorem dX5_zeroToNew_4 : decode cX5_zeroToNew 4 = .ok (.istore_n 1, 1) := by decide +kernel
theorem dX5_zeroToNew_5 : decode cX5_zeroToNew 5 = .ok (.aload_n 0, 1) := by decide +kernel
theorem dX5_zeroToNew_6 : decode cX5_zeroToNew 6 = .ok (.getfield 47, 3) := by decide +kernel
theorem dX5_zeroToNew_9 : decode cX5_zeroToNew 9 = .ok (.bipush 9, 2) := by decide +kernel
theorem dX5_zeroToNew_11 : decode cX5_zeroToNew 11 = .ok (.iload_n 1, 1) := by decide +kernel
theorem dX5_zeroToNew_12 : decode cX5_zeroToNew 12 = .ok (.iconst 0, 1) := by decide +kernel
theorem dX5_zeroToNew_13 : decode cX5_zeroToNew 13 = .ok (.invokevirtual 139, 3) := by decide +kernel
theorem dX5_zeroToNew_16 : decode cX5_zeroToNew 16 = .ok (.aload_n 0, 1) := by decide +kernel
theorem dX5_zeroToNew_17 : decode cX5_zeroToNew 17 = .ok (.getfield 47, 3) := by decide +kernel
theorem dX5_zeroToNew_20 : decode cX5_zeroToNew 20 = .ok (.iconst 0, 1) := by decide +kernel
theorem dX5_zeroToNew_21 : decode cX5_zeroToNew 21 = .ok (.aload_n 0, 1) := by decide +kernel
theorem dX5_zeroToNew_22 : decode cX5_zeroToNew 22 = .ok (.getfield 216, 3) := by decide +kernel
theorem dX5_zeroToNew_25 : decode cX5_zeroToNew 25 = .ok (.aload_n 0, 1) := by decide +kernel
theorem dX5_zeroToNew_26 : decode cX5_zeroToNew 26 = .ok (.getfield 219, 3) := by decide +kernel
theorem dX5_zeroToNew_29 : decode cX5_zeroToNew 29 = .ok (.invokevirtual 143, 3) := by decide +kernel
theorem dX5_zeroToNew_32 : decode cX5_zeroToNew 32 = .ok (.iload_n 1, 1) := by decide +kernel
theorem dX5_zeroToNew_33 : decode cX5_zeroToNew 33 = .ok (.ireturn, 1) := by decide +kernel
end
section
theorem cd_X5_join : Cond.code yX5_join cX5_join 5 none ∈ pWW := pw3 (List.mem_of_getElem? (i := 185) rfl) rfl
abbrev m_X5_join : MT := (yX5_join, cX5_join, 5, none)
theorem ok_X5_join : pOk m_X5_join := ⟨⟨cd_X5_join, ini_5⟩, by decide +kernel, ⟨by decide +kernel, by decide +kernel⟩, Nat.le_of_ble_eq_true rfl⟩
theorem np_X5_join : (parseMethodDescriptor yX5_join.desc).map (fun d => d.parameters.length) = some 3 := by decide +kernel
theorem im_X5_join : Cond.instanceMethod yX5_join ∈ pWW := pw3 (List.mem_of_getElem? (i := 184) rfl) rfl
theorem se_X5_join : Cond.selects RX5 yX5_join yX5_join ∈ pWW := pws (List.mem_map.mpr ⟨_, lw_pin 23 rfl, rfl⟩) rfl
theorem fl5_136 : Cond.fieldLink RX5 136 (TX5 14).1 (TX5 14).2.1 (TX5 14).2.2.1 ∈ pWW := pw1 (List.mem_of_getElem? (i := 170) rfl) rfl
theorem dX5_join_0 : decode cX5_join 0 = .ok (.sipush 1000, 3) := by decide +kernel
theorem dX5_join_3 : decode cX5_join 3 = .ok (.aload_n 0, 1) := by decide +kernel
theorem dX5_join_4 : decode cX5_join 4 = .ok (.getfield 136, 3) := by decide +kernel
theorem dX5_join_7 : decode cX5_join 7 = .ok (.iadd, 1) := by decide +kernel
theorem dX5_join_8 : decode cX5_join 8 = .ok (.istore 4, 2) := by decide +kernel
theorem dX5_join_10 : decode cX5_join 10 = .ok (.aload_n 0, 1) := by decide +kernel
theorem dX5_join_11 : decode cX5_join 11 = .ok (.dup, 1) := by decide +kernel
theorem dX5_join_12 : decode cX5_join 12 = .ok (.getfield 136, 3) := by decide +kernel
theorem dX5_join_15 : decode cX5_join 15 = .ok (.iconst 1, 1) := by decide +kernel
theorem dX5_join_16 : decode cX5_join 16 = .ok (.iadd, 1) := by decide +kernel
theorem dX5_join_17 : decode cX5_join 17 = .ok (.putfield 136, 3) := by decide +kernel
theorem dX5_join_20 : decode cX5_join 20 = .ok (.aload_n 0, 1) := by decide +kernel
theorem dX5_join_21 : decode cX5_join 21 = .ok (.getfield 47, 3) := by decide +kernel
theorem dX5_join_24 : decode cX5_join 24 = .ok (.iload_n 1, 1) := by decide +kernel
theorem dX5_join_25 : decode cX5_join 25 = .ok (.iload 4, 2) := by decide +kernel
theorem dX5_join_27 : decode cX5_join 27 = .ok (.iconst 0, 1) := by decide +kernel
theorem dX5_join_28 : decode cX5_join 28 = .ok (.invokevirtual 139, 3) := by decide +kernel
theorem dX5_join_31 : decode cX5_join 31 = .ok (.aload_n 0, 1) := by decide +kernel
theorem dX5_join_32 : decode cX5_join 32 = .ok (.getfield 47, 3) := by decide +kernel
theorem dX5_join_35 : decode cX5_join 35 = .ok (.iconst 0, 1) := by decide +kernel
theorem dX5_join_36 : decode cX5_join 36 = .ok (.iload_n 2, 1) := by decide +kernel
theorem dX5_join_37 : decode cX5_join 37 = .ok (.iload_n 3, 1) := by decide +kernel
theorem dX5_join_38 : decode cX5_join 38 = .ok (.invokevirtual 143, 3) := by decide +kernel
theorem dX5_join_41 : decode cX5_join 41 = .ok (.aload_n 0, 1) := by decide +kernel
theorem dX5_join_42 : decode cX5_join 42 = .ok (.getfield 47, 3) := by decide +kernel
theorem dX5_join_45 : decode cX5_join 45 = .ok (.iconst 1, 1) := by decide +kernel
theorem dX5_join_46 : decode cX5_join 46 = .ok (.aload_n 0, 1) := by decide +kernel
theorem dX5_join_47 : decode cX5_join 47 = .ok (.getfield 216, 3) := by decide +kernel
theorem dX5_join_50 : decode cX5_join 50 = .ok (.aload_n 0, 1) := by decide +kernel
theorem dX5_join_51 : decode cX5_join 51 = .ok (.getfield 219, 3) := by decide +kernel
theorem dX5_join_54 : decode cX5_join 54 = .ok (.invokevirtual 143, 3) := by decide +kernel
theorem dX5_join_57 : decode cX5_join 57 = .ok (.aload_n 0, 1) := by decide +kernel
theorem dX5_join_58 : decode cX5_join 58 = .ok (.iconst 2, 1) := by decide +kernel
theorem dX5_join_59 : decode cX5_join 59 = .ok (.putfield 216, 3) := by decide +kernel
theorem dX5_join_62 : decode cX5_join 62 = .ok (.aload_n 0, 1) := by decide +kernel
theorem dX5_join_63 : decode cX5_join 63 = .ok (.iload 4, 2) := by decide +kernel
theorem dX5_join_65 : decode cX5_join 65 = .ok (.putfield 219, 3) := by decide +kernel
theorem dX5_join_68 : decode cX5_join 68 = .ok (.return_, 1) := by decide +kernel
end
section
theorem cd_X5_expression : Cond.code yX5_expression cX5_expression 5 (some .boolean) ∈ pWW := pw3 (List.mem_of_getElem? (i := 165) rfl) rfl
abbrev m_X5_expression : MT := (yX5_expression, cX5_expression, 5, (some .boolean))
theorem ok_X5_expression : pOk m_X5_expression := ⟨⟨cd_X5_expression, ini_5⟩, by decide +kernel, ⟨by decide +kernel, by decide +kernel⟩, Nat.le_of_ble_eq_true rfl⟩
theorem np_X5_expression : (parseMethodDescriptor yX5_expression.desc).map (fun d => d.parameters.length) = some 1 := by decide +kernel
theorem im_X5_expression : Cond.instanceMethod yX5_expression ∈ pWW := pw3 (List.mem_of_getElem? (i := 164) rfl) rfl
theorem se_X5_expression : Cond.selects RX5 yX5_expression yX5_expression ∈ pWW := pws (List.mem_map.mpr ⟨_, lw_pin 18 rfl, rfl⟩) rfl
theorem cd_X5_atom : Cond.code yX5_atom cX5_atom 2 (some .boolean) ∈ pWW := pw3 (List.mem_of_getElem? (i := 181) rfl) rfl
abbrev m_X5_atom : MT := (yX5_atom, cX5_atom, 2, (some .boolean))
theorem ok_X5_atom : pOk m_X5_atom := ⟨⟨cd_X5_atom, ini_5⟩, by decide +kernel, ⟨by decide +kernel, by decide +kernel⟩, Nat.le_of_ble_eq_true rfl⟩
theorem np_X5_atom : (parseMethodDescriptor yX5_atom.desc).map (fun d => d.parameters.length) = some 1 := by decide +kernel
theorem im_X5_atom : Cond.instanceMethod yX5_atom ∈ pWW := pw3 (List.mem_of_getElem? (i := 180) rfl) rfl
theorem se_X5_atom : Cond.selects RX5 yX5_atom yX5_atom ∈ pWW := pws (List.mem_map.mpr ⟨_, lw_pin 22 rfl, rfl⟩) rfl
theorem ml5_176 : Cond.methodLink RX5 176 yX5_register ∈ pWW := pw3 (List.mem_of_getElem? (i := 109) rfl) rfl
theorem ml5_213 : Cond.methodLink RX5 213 yX5_expression ∈ pWW := pw3 (List.mem_of_getElem? (i := 162) rfl) rfl
theorem ml5_102 : Cond.methodLink RX5 102 yX5_taken ∈ pWW := pw3 (List.mem_of_getElem? (i := 93) rfl) rfl
theorem dX5_atom_0 : decode cX5_atom 0 = .ok (.aload_n 0, 1) := by decide +kernel
theorem dX5_atom_1 : decode cX5_atom 1 = .ok (.getfield 12, 3) := by decide +kernel
theorem dX5_atom_4 : decode cX5_atom 4 = .ok (.getfield 71, 3) := by decide +kernel
theorem dX5_atom_7 : decode cX5_atom 7 = .ok (.bipush 40, 2) := by decide +kernel
theorem dX5_atom_9 : decode cX5_atom 9 = .ok (.if_icmp .ne 35, 3) := by decide +kernel
theorem dX5_atom_44 : decode cX5_atom 44 = .ok (.aload_n 0, 1) := by decide +kernel
theorem dX5_atom_45 : decode cX5_atom 45 = .ok (.getfield 12, 3) := by decide +kernel
theorem dX5_atom_48 : decode cX5_atom 48 = .ok (.getfield 71, 3) := by decide +kernel
theorem dX5_atom_51 : decode cX5_atom 51 = .ok (.sipush 257, 3) := by decide +kernel
theorem dX5_atom_54 : decode cX5_atom 54 = .ok (.if_icmp .ne 22, 3) := by decide +kernel
theorem dX5_atom_76 : decode cX5_atom 76 = .ok (.aload_n 0, 1) := by decide +kernel
theorem dX5_atom_77 : decode cX5_atom 77 = .ok (.getfield 12, 3) := by decide +kernel
theorem dX5_atom_80 : decode cX5_atom 80 = .ok (.getfield 71, 3) := by decide +kernel
theorem dX5_atom_83 : decode cX5_atom 83 = .ok (.sipush 256, 3) := by decide +kernel
theorem dX5_atom_86 : decode cX5_atom 86 = .ok (.if_icmp .ne 19, 3) := by decide +kernel
theorem dX5_atom_105 : decode cX5_atom 105 = .ok (.aload_n 0, 1) := by decide +kernel
theorem dX5_atom_106 : decode cX5_atom 106 = .ok (.invokevirtual 90, 3) := by decide +kernel
theorem dX5_atom_109 : decode cX5_atom 109 = .ok (.ireturn, 1) := by decide +kernel
theorem dX5_atom_89 : decode cX5_atom 89 = .ok (.aload_n 0, 1) := by decide +kernel
theorem dX5_atom_90 : decode cX5_atom 90 = .ok (.iconst 2, 1) := by decide +kernel
theorem dX5_atom_91 : decode cX5_atom 91 = .ok (.putfield 216, 3) := by decide +kernel
theorem dX5_atom_94 : decode cX5_atom 94 = .ok (.aload_n 0, 1) := by decide +kernel
theorem dX5_atom_95 : decode cX5_atom 95 = .ok (.aload_n 0, 1) := by decide +kernel
theorem dX5_atom_96 : decode cX5_atom 96 = .ok (.invokevirtual 176, 3) := by decide +kernel
theorem dX5_atom_99 : decode cX5_atom 99 = .ok (.putfield 219, 3) := by decide +kernel
theorem dX5_atom_102 : decode cX5_atom 102 = .ok (.goto 8, 3) := by decide +kernel
theorem dX5_atom_110 : decode cX5_atom 110 = .ok (.aload_n 0, 1) := by decide +kernel
theorem dX5_atom_111 : decode cX5_atom 111 = .ok (.getfield 12, 3) := by decide +kernel
theorem dX5_atom_114 : decode cX5_atom 114 = .ok (.invokevirtual 93, 3) := by decide +kernel
theorem dX5_atom_117 : decode cX5_atom 117 = .ok (.iconst 1, 1) := by decide +kernel
theorem dX5_atom_118 : decode cX5_atom 118 = .ok (.ireturn, 1) := by decide +kernel
theorem dX5_atom_57 : decode cX5_atom 57 = .ok (.aload_n 0, 1) := by decide +kernel
theorem dX5_atom_58 : decode cX5_atom 58 = .ok (.iconst 1, 1) := by decide +kernel
theorem dX5_atom_59 : decode cX5_atom 59 = .ok (.putfield 216, 3) := by decide +kernel
theorem dX5_atom_62 : decode cX5_atom 62 = .ok (.aload_n 0, 1) := by decide +kernel
theorem dX5_atom_63 : decode cX5_atom 63 = .ok (.aload_n 0, 1) := by decide +kernel
theorem dX5_atom_64 : decode cX5_atom 64 = .ok (.getfield 12, 3) := by decide +kernel
theorem dX5_atom_67 : decode cX5_atom 67 = .ok (.getfield 96, 3) := by decide +kernel
theorem dX5_atom_70 : decode cX5_atom 70 = .ok (.putfield 219, 3) := by decide +kernel
theorem dX5_atom_73 : decode cX5_atom 73 = .ok (.goto 37, 3) := by decide +kernel
theorem dX5_atom_12 : decode cX5_atom 12 = .ok (.aload_n 0, 1) := by decide +kernel
theorem dX5_atom_13 : decode cX5_atom 13 = .ok (.getfield 12, 3) := by decide +kernel
theorem dX5_atom_16 : decode cX5_atom 16 = .ok (.invokevirtual 93, 3) := by decide +kernel
theorem dX5_atom_19 : decode cX5_atom 19 = .ok (.aload_n 0, 1) := by decide +kernel
theorem dX5_atom_20 : decode cX5_atom 20 = .ok (.iload_n 1, 1) := by decide +kernel
theorem dX5_atom_21 : decode cX5_atom 21 = .ok (.iconst 1, 1) := by decide +kernel
theorem dX5_atom_22 : decode cX5_atom 22 = .ok (.iadd, 1) := by decide +kernel
theorem dX5_atom_23 : decode cX5_atom 23 = .ok (.invokevirtual 213, 3) := by decide +kernel
theorem dX5_atom_26 : decode cX5_atom 26 = .ok (.ifCond .eq 16, 3) := by decide +kernel
theorem dX5_atom_42 : decode cX5_atom 42 = .ok (.iconst 0, 1) := by decide +kernel
theorem dX5_atom_43 : decode cX5_atom 43 = .ok (.ireturn, 1) := by decide +kernel
theorem dX5_atom_29 : decode cX5_atom 29 = .ok (.aload_n 0, 1) := by decide +kernel
theorem dX5_atom_30 : decode cX5_atom 30 = .ok (.bipush 41, 2) := by decide +kernel
theorem dX5_atom_32 : decode cX5_atom 32 = .ok (.invokevirtual 102, 3) := by decide +kernel
theorem dX5_atom_35 : decode cX5_atom 35 = .ok (.ifCond .eq 7, 3) := by decide +kernel
theorem dX5_atom_38 : decode cX5_atom 38 = .ok (.iconst 1, 1) := by decide +kernel
theorem dX5_atom_39 : decode cX5_atom 39 = .ok (.goto 4, 3) := by decide +kernel
end
section
theorem cd_X5_factor : Cond.code yX5_factor cX5_factor 2 (some .boolean) ∈ pWW := pw3 (List.mem_of_getElem? (i := 177) rfl) rfl
abbrev m_X5_factor : MT := (yX5_factor, cX5_factor, 2, (some .boolean))
theorem ok_X5_factor : pOk m_X5_factor := ⟨⟨cd_X5_factor, ini_5⟩, by decide +kernel, ⟨by decide +kernel, by decide +kernel⟩, Nat.le_of_ble_eq_true rfl⟩
theorem np_X5_factor : (parseMethodDescriptor yX5_factor.desc).map (fun d => d.parameters.length) = some 1 := by decide +kernel
theorem im_X5_factor : Cond.instanceMethod yX5_factor ∈ pWW := pw3 (List.mem_of_getElem? (i := 176) rfl) rfl
theorem se_X5_factor : Cond.selects RX5 yX5_factor yX5_factor ∈ pWW := pws (List.mem_map.mpr ⟨_, lw_pin 21 rfl, rfl⟩) rfl
theorem ml5_253 : Cond.methodLink RX5 253 yX5_atom ∈ pWW := pw3 (List.mem_of_getElem? (i := 178) rfl) rfl
theorem ml5_244 : Cond.methodLink RX5 244 yX5_join ∈ pWW := pw3 (List.mem_of_getElem? (i := 182) rfl) rfl
theorem dX5_factor_0 : decode cX5_factor 0 = .ok (.aload_n 0, 1) := by decide +kernel
theorem dX5_factor_1 : decode cX5_factor 1 = .ok (.getfield 12, 3) := by decide +kernel
theorem dX5_factor_4 : decode cX5_factor 4 = .ok (.getfield 71, 3) := by decide +kernel
theorem dX5_factor_7 : decode cX5_factor 7 = .ok (.bipush 45, 2) := by decide +kernel
theorem dX5_factor_9 : decode cX5_factor 9 = .ok (.if_icmp .eq 9, 3) := by decide +kernel
theorem dX5_factor_18 : decode cX5_factor 18 = .ok (.aload_n 0, 1) := by decide +kernel
theorem dX5_factor_19 : decode cX5_factor 19 = .ok (.getfield 12, 3) := by decide +kernel
theorem dX5_factor_22 : decode cX5_factor 22 = .ok (.invokevirtual 93, 3) := by decide +kernel
theorem dX5_factor_25 : decode cX5_factor 25 = .ok (.aload_n 0, 1) := by decide +kernel
theorem dX5_factor_26 : decode cX5_factor 26 = .ok (.iload_n 1, 1) := by decide +kernel
theorem dX5_factor_27 : decode cX5_factor 27 = .ok (.invokevirtual 253, 3) := by decide +kernel
theorem dX5_factor_30 : decode cX5_factor 30 = .ok (.ifCond .ne 5, 3) := by decide +kernel
theorem dX5_factor_35 : decode cX5_factor 35 = .ok (.aload_n 0, 1) := by decide +kernel
theorem dX5_factor_36 : decode cX5_factor 36 = .ok (.iconst 2, 1) := by decide +kernel
theorem dX5_factor_37 : decode cX5_factor 37 = .ok (.iconst 1, 1) := by decide +kernel
theorem dX5_factor_38 : decode cX5_factor 38 = .ok (.iconst 0, 1) := by decide +kernel
theorem dX5_factor_39 : decode cX5_factor 39 = .ok (.invokevirtual 244, 3) := by decide +kernel
theorem dX5_factor_42 : decode cX5_factor 42 = .ok (.iconst 1, 1) := by decide +kernel
theorem dX5_factor_43 : decode cX5_factor 43 = .ok (.ireturn, 1) := by decide +kernel
theorem dX5_factor_33 : decode cX5_factor 33 = .ok (.iconst 0, 1) := by decide +kernel
theorem dX5_factor_34 : decode cX5_factor 34 = .ok (.ireturn, 1) := by decide +kernel
theorem dX5_factor_12 : decode cX5_factor 12 = .ok (.aload_n 0, 1) := by decide +kernel
theorem dX5_factor_13 : decode cX5_factor 13 = .ok (.iload_n 1, 1) := by decide +kernel
theorem dX5_factor_14 : decode cX5_factor 14 = .ok (.invokevirtual 253, 3) := by decide +kernel
theorem dX5_factor_17 : decode cX5_factor 17 = .ok (.ireturn, 1) := by decide +kernel
end
section
theorem cd_X5_term : Cond.code yX5_term cX5_term 5 (some .boolean) ∈ pWW := pw3 (List.mem_of_getElem? (i := 173) rfl) rfl
abbrev m_X5_term : MT := (yX5_term, cX5_term, 5, (some .boolean))
theorem ok_X5_term : pOk m_X5_term := ⟨⟨cd_X5_term, ini_5⟩, by decide +kernel, ⟨by decide +kernel, by decide +kernel⟩, Nat.le_of_ble_eq_true rfl⟩
theorem np_X5_term : (parseMethodDescriptor yX5_term.desc).map (fun d => d.parameters.length) = some 1 := by decide +kernel
theorem im_X5_term : Cond.instanceMethod yX5_term ∈ pWW := pw3 (List.mem_of_getElem? (i := 172) rfl) rfl
theorem se_X5_term : Cond.selects RX5 yX5_term yX5_term ∈ pWW := pws (List.mem_map.mpr ⟨_, lw_pin 20 rfl, rfl⟩) rfl
theorem ml5_250 : Cond.methodLink RX5 250 yX5_factor ∈ pWW := pw3 (List.mem_of_getElem? (i := 174) rfl) rfl
theorem dX5_term_0 : decode cX5_term 0 = .ok (.aload_n 0, 1) := by decide +kernel
theorem dX5_term_1 : decode cX5_term 1 = .ok (.iload_n 1, 1) := by decide +kernel
theorem dX5_term_2 : decode cX5_term 2 = .ok (.invokevirtual 250, 3) := by decide +kernel
theorem dX5_term_5 : decode cX5_term 5 = .ok (.ifCond .ne 5, 3) := by decide +kernel
theorem dX5_term_10 : decode cX5_term 10 = .ok (.iconst 0, 1) := by decide +kernel
theorem dX5_term_11 : decode cX5_term 11 = .ok (.istore_n 2, 1) := by decide +kernel
theorem dX5_term_12 : decode cX5_term 12 = .ok (.iload_n 2, 1) := by decide +kernel
theorem dX5_term_13 : decode cX5_term 13 = .ok (.sipush 1200, 3) := by decide +kernel
theorem dX5_term_16 : decode cX5_term 16 = .ok (.if_icmp .ge 57, 3) := by decide +kernel
theorem dX5_term_19 : decode cX5_term 19 = .ok (.aload_n 0, 1) := by decide +kernel
theorem dX5_term_20 : decode cX5_term 20 = .ok (.getfield 12, 3) := by decide +kernel
theorem dX5_term_23 : decode cX5_term 23 = .ok (.getfield 71, 3) := by decide +kernel
theorem dX5_term_26 : decode cX5_term 26 = .ok (.bipush 42, 2) := by decide +kernel
theorem dX5_term_28 : decode cX5_term 28 = .ok (.if_icmp .ne 45, 3) := by decide +kernel
theorem dX5_term_31 : decode cX5_term 31 = .ok (.aload_n 0, 1) := by decide +kernel
theorem dX5_term_32 : decode cX5_term 32 = .ok (.getfield 216, 3) := by decide +kernel
theorem dX5_term_35 : decode cX5_term 35 = .ok (.istore_n 3, 1) := by decide +kernel
theorem dX5_term_36 : decode cX5_term 36 = .ok (.aload_n 0, 1) := by decide +kernel
theorem dX5_term_37 : decode cX5_term 37 = .ok (.getfield 219, 3) := by decide +kernel
theorem dX5_term_40 : decode cX5_term 40 = .ok (.istore 4, 2) := by decide +kernel
theorem dX5_term_42 : decode cX5_term 42 = .ok (.aload_n 0, 1) := by decide +kernel
theorem dX5_term_43 : decode cX5_term 43 = .ok (.getfield 12, 3) := by decide +kernel
theorem dX5_term_46 : decode cX5_term 46 = .ok (.invokevirtual 93, 3) := by decide +kernel
theorem dX5_term_49 : decode cX5_term 49 = .ok (.aload_n 0, 1) := by decide +kernel
theorem dX5_term_50 : decode cX5_term 50 = .ok (.iload_n 1, 1) := by decide +kernel
theorem dX5_term_51 : decode cX5_term 51 = .ok (.invokevirtual 250, 3) := by decide +kernel
theorem dX5_term_54 : decode cX5_term 54 = .ok (.ifCond .ne 5, 3) := by decide +kernel
theorem dX5_term_59 : decode cX5_term 59 = .ok (.aload_n 0, 1) := by decide +kernel
theorem dX5_term_60 : decode cX5_term 60 = .ok (.iconst 3, 1) := by decide +kernel
theorem dX5_term_61 : decode cX5_term 61 = .ok (.iload_n 3, 1) := by decide +kernel
theorem dX5_term_62 : decode cX5_term 62 = .ok (.iload 4, 2) := by decide +kernel
theorem dX5_term_64 : decode cX5_term 64 = .ok (.invokevirtual 244, 3) := by decide +kernel
theorem dX5_term_67 : decode cX5_term 67 = .ok (.iinc 2 1, 3) := by decide +kernel
theorem dX5_term_70 : decode cX5_term 70 = .ok (.goto (-58), 3) := by decide +kernel
theorem dX5_term_57 : decode cX5_term 57 = .ok (.iconst 0, 1) := by decide +kernel
theorem dX5_term_58 : decode cX5_term 58 = .ok (.ireturn, 1) := by decide +kernel
theorem dX5_term_73 : decode cX5_term 73 = .ok (.iconst 1, 1) := by decide +kernel
theorem dX5_term_74 : decode cX5_term 74 = .ok (.ireturn, 1) := by decide +kernel
theorem dX5_term_8 : decode cX5_term 8 = .ok (.iconst 0, 1) := by decide +kernel
theorem dX5_term_9 : decode cX5_term 9 = .ok (.ireturn, 1) := by decide +kernel
end
section
theorem cd_X5_sum : Cond.code yX5_sum cX5_sum 6 (some .boolean) ∈ pWW := pw3 (List.mem_of_getElem? (i := 169) rfl) rfl
abbrev m_X5_sum : MT := (yX5_sum, cX5_sum, 6, (some .boolean))
theorem ok_X5_sum : pOk m_X5_sum := ⟨⟨cd_X5_sum, ini_5⟩, by decide +kernel, ⟨by decide +kernel, by decide +kernel⟩, Nat.le_of_ble_eq_true rfl⟩
theorem np_X5_sum : (parseMethodDescriptor yX5_sum.desc).map (fun d => d.parameters.length) = some 1 := by decide +kernel
theorem im_X5_sum : Cond.instanceMethod yX5_sum ∈ pWW := pw3 (List.mem_of_getElem? (i := 168) rfl) rfl
theorem se_X5_sum : Cond.selects RX5 yX5_sum yX5_sum ∈ pWW := pws (List.mem_map.mpr ⟨_, lw_pin 19 rfl, rfl⟩) rfl
theorem ml5_247 : Cond.methodLink RX5 247 yX5_term ∈ pWW := pw3 (List.mem_of_getElem? (i := 170) rfl) rfl
theorem dX5_sum_0 : decode cX5_sum 0 = .ok (.aload_n 0, 1) := by decide +kernel
theorem dX5_sum_1 : decode cX5_sum 1 = .ok (.iload_n 1, 1) := by decide +kernel
theorem dX5_sum_2 : decode cX5_sum 2 = .ok (.invokevirtual 247, 3) := by decide +kernel
theorem dX5_sum_5 : decode cX5_sum 5 = .ok (.ifCond .ne 5, 3) := by decide +kernel
theorem dX5_sum_10 : decode cX5_sum 10 = .ok (.iconst 0, 1) := by decide +kernel
theorem dX5_sum_11 : decode cX5_sum 11 = .ok (.istore_n 2, 1) := by decide +kernel
theorem dX5_sum_12 : decode cX5_sum 12 = .ok (.iload_n 2, 1) := by decide +kernel
theorem dX5_sum_13 : decode cX5_sum 13 = .ok (.sipush 1200, 3) := by decide +kernel
theorem dX5_sum_16 : decode cX5_sum 16 = .ok (.if_icmp .ge 89, 3) := by decide +kernel
theorem dX5_sum_19 : decode cX5_sum 19 = .ok (.aload_n 0, 1) := by decide +kernel
theorem dX5_sum_20 : decode cX5_sum 20 = .ok (.getfield 12, 3) := by decide +kernel
theorem dX5_sum_23 : decode cX5_sum 23 = .ok (.getfield 71, 3) := by decide +kernel
theorem dX5_sum_26 : decode cX5_sum 26 = .ok (.bipush 43, 2) := by decide +kernel
theorem dX5_sum_28 : decode cX5_sum 28 = .ok (.if_icmp .eq 15, 3) := by decide +kernel
theorem dX5_sum_43 : decode cX5_sum 43 = .ok (.aload_n 0, 1) := by decide +kernel
theorem dX5_sum_44 : decode cX5_sum 44 = .ok (.getfield 12, 3) := by decide +kernel
theorem dX5_sum_47 : decode cX5_sum 47 = .ok (.getfield 71, 3) := by decide +kernel
theorem dX5_sum_50 : decode cX5_sum 50 = .ok (.bipush 43, 2) := by decide +kernel
theorem dX5_sum_52 : decode cX5_sum 52 = .ok (.if_icmp .ne 7, 3) := by decide +kernel
theorem dX5_sum_55 : decode cX5_sum 55 = .ok (.iconst 1, 1) := by decide +kernel
theorem dX5_sum_56 : decode cX5_sum 56 = .ok (.goto 4, 3) := by decide +kernel
theorem dX5_sum_60 : decode cX5_sum 60 = .ok (.istore_n 3, 1) := by decide +kernel
theorem dX5_sum_61 : decode cX5_sum 61 = .ok (.aload_n 0, 1) := by decide +kernel
theorem dX5_sum_62 : decode cX5_sum 62 = .ok (.getfield 216, 3) := by decide +kernel
theorem dX5_sum_65 : decode cX5_sum 65 = .ok (.istore 4, 2) := by decide +kernel
theorem dX5_sum_67 : decode cX5_sum 67 = .ok (.aload_n 0, 1) := by decide +kernel
theorem dX5_sum_68 : decode cX5_sum 68 = .ok (.getfield 219, 3) := by decide +kernel
theorem dX5_sum_71 : decode cX5_sum 71 = .ok (.istore 5, 2) := by decide +kernel
theorem dX5_sum_73 : decode cX5_sum 73 = .ok (.aload_n 0, 1) := by decide +kernel
theorem dX5_sum_74 : decode cX5_sum 74 = .ok (.getfield 12, 3) := by decide +kernel
theorem dX5_sum_77 : decode cX5_sum 77 = .ok (.invokevirtual 93, 3) := by decide +kernel
theorem dX5_sum_80 : decode cX5_sum 80 = .ok (.aload_n 0, 1) := by decide +kernel
theorem dX5_sum_81 : decode cX5_sum 81 = .ok (.iload_n 1, 1) := by decide +kernel
theorem dX5_sum_82 : decode cX5_sum 82 = .ok (.invokevirtual 247, 3) := by decide +kernel
theorem dX5_sum_85 : decode cX5_sum 85 = .ok (.ifCond .ne 5, 3) := by decide +kernel
theorem dX5_sum_90 : decode cX5_sum 90 = .ok (.aload_n 0, 1) := by decide +kernel
theorem dX5_sum_91 : decode cX5_sum 91 = .ok (.iload_n 3, 1) := by decide +kernel
theorem dX5_sum_92 : decode cX5_sum 92 = .ok (.iload 4, 2) := by decide +kernel
theorem dX5_sum_94 : decode cX5_sum 94 = .ok (.iload 5, 2) := by decide +kernel
theorem dX5_sum_96 : decode cX5_sum 96 = .ok (.invokevirtual 244, 3) := by decide +kernel
theorem dX5_sum_99 : decode cX5_sum 99 = .ok (.iinc 2 1, 3) := by decide +kernel
theorem dX5_sum_102 : decode cX5_sum 102 = .ok (.goto (-90), 3) := by decide +kernel
theorem dX5_sum_31 : decode cX5_sum 31 = .ok (.aload_n 0, 1) := by decide +kernel
theorem dX5_sum_32 : decode cX5_sum 32 = .ok (.getfield 12, 3) := by decide +kernel
theorem dX5_sum_35 : decode cX5_sum 35 = .ok (.getfield 71, 3) := by decide +kernel
theorem dX5_sum_38 : decode cX5_sum 38 = .ok (.bipush 45, 2) := by decide +kernel
theorem dX5_sum_40 : decode cX5_sum 40 = .ok (.if_icmp .ne 65, 3) := by decide +kernel
theorem dX5_sum_59 : decode cX5_sum 59 = .ok (.iconst 2, 1) := by decide +kernel
theorem dX5_sum_88 : decode cX5_sum 88 = .ok (.iconst 0, 1) := by decide +kernel
theorem dX5_sum_89 : decode cX5_sum 89 = .ok (.ireturn, 1) := by decide +kernel
theorem dX5_sum_105 : decode cX5_sum 105 = .ok (.iconst 1, 1) := by decide +kernel
theorem dX5_sum_106 : decode cX5_sum 106 = .ok (.ireturn, 1) := by decide +kernel
theorem dX5_sum_8 : decode cX5_sum 8 = .ok (.iconst 0, 1) := by decide +kernel
theorem dX5_sum_9 : decode cX5_sum 9 = .ok (.ireturn, 1) := by decide +kernel
end
section
theorem dX5_expression_0 : decode cX5_expression 0 = .ok (.iload_n 1, 1) := by decide +kernel
theorem dX5_expression_1 : decode cX5_expression 1 = .ok (.bipush 8, 2) := by decide +kernel
theorem dX5_expression_3 : decode cX5_expression 3 = .ok (.if_icmp .le 8, 3) := by decide +kernel
theorem dX5_expression_6 : decode cX5_expression 6 = .ok (.aload_n 0, 1) := by decide +kernel
theorem dX5_expression_7 : decode cX5_expression 7 = .ok (.invokevirtual 90, 3) := by decide +kernel
theorem dX5_expression_10 : decode cX5_expression 10 = .ok (.ireturn, 1) := by decide +kernel
end
section
theorem ml5_241 : Cond.methodLink RX5 241 yX5_sum ∈ pWW := pw3 (List.mem_of_getElem? (i := 166) rfl) rfl
theorem dX5_expression_11 : decode cX5_expression 11 = .ok (.aload_n 0, 1) := by decide +kernel
theorem dX5_expression_12 : decode cX5_expression 12 = .ok (.iload_n 1, 1) := by decide +kernel
theorem dX5_expression_13 : decode cX5_expression 13 = .ok (.invokevirtual 241, 3) := by decide +kernel
theorem dX5_expression_16 : decode cX5_expression 16 = .ok (.ifCond .ne 5, 3) := by decide +kernel
theorem dX5_expression_21 : decode cX5_expression 21 = .ok (.aload_n 0, 1) := by decide +kernel
theorem dX5_expression_22 : decode cX5_expression 22 = .ok (.getfield 12, 3) := by decide +kernel
theorem dX5_expression_25 : decode cX5_expression 25 = .ok (.getfield 71, 3) := by decide +kernel
theorem dX5_expression_28 : decode cX5_expression 28 = .ok (.bipush 61, 2) := by decide +kernel
theorem dX5_expression_30 : decode cX5_expression 30 = .ok (.if_icmp .eq 17, 3) := by decide +kernel
theorem dX5_expression_47 : decode cX5_expression 47 = .ok (.aload_n 0, 1) := by decide +kernel
theorem dX5_expression_48 : decode cX5_expression 48 = .ok (.getfield 12, 3) := by decide +kernel
theorem dX5_expression_51 : decode cX5_expression 51 = .ok (.getfield 71, 3) := by decide +kernel
theorem dX5_expression_54 : decode cX5_expression 54 = .ok (.bipush 61, 2) := by decide +kernel
theorem dX5_expression_56 : decode cX5_expression 56 = .ok (.if_icmp .ne 7, 3) := by decide +kernel
theorem dX5_expression_59 : decode cX5_expression 59 = .ok (.iconst 4, 1) := by decide +kernel
theorem dX5_expression_60 : decode cX5_expression 60 = .ok (.goto 4, 3) := by decide +kernel
theorem dX5_expression_64 : decode cX5_expression 64 = .ok (.istore_n 2, 1) := by decide +kernel
theorem dX5_expression_65 : decode cX5_expression 65 = .ok (.aload_n 0, 1) := by decide +kernel
theorem dX5_expression_66 : decode cX5_expression 66 = .ok (.getfield 216, 3) := by decide +kernel
theorem dX5_expression_69 : decode cX5_expression 69 = .ok (.istore_n 3, 1) := by decide +kernel
theorem dX5_expression_70 : decode cX5_expression 70 = .ok (.aload_n 0, 1) := by decide +kernel
theorem dX5_expression_71 : decode cX5_expression 71 = .ok (.getfield 219, 3) := by decide +kernel
theorem dX5_expression_74 : decode cX5_expression 74 = .ok (.istore 4, 2) := by decide +kernel
theorem dX5_expression_76 : decode cX5_expression 76 = .ok (.aload_n 0, 1) := by decide +kernel
theorem dX5_expression_77 : decode cX5_expression 77 = .ok (.getfield 12, 3) := by decide +kernel
theorem dX5_expression_80 : decode cX5_expression 80 = .ok (.invokevirtual 93, 3) := by decide +kernel
theorem dX5_expression_83 : decode cX5_expression 83 = .ok (.aload_n 0, 1) := by decide +kernel
theorem dX5_expression_84 : decode cX5_expression 84 = .ok (.iload_n 1, 1) := by decide +kernel
theorem dX5_expression_85 : decode cX5_expression 85 = .ok (.invokevirtual 241, 3) := by decide +kernel
theorem dX5_expression_88 : decode cX5_expression 88 = .ok (.ifCond .ne 5, 3) := by decide +kernel
theorem dX5_expression_93 : decode cX5_expression 93 = .ok (.aload_n 0, 1) := by decide +kernel
theorem dX5_expression_94 : decode cX5_expression 94 = .ok (.iload_n 2, 1) := by decide +kernel
theorem dX5_expression_95 : decode cX5_expression 95 = .ok (.iload_n 3, 1) := by decide +kernel
theorem dX5_expression_96 : decode cX5_expression 96 = .ok (.iload 4, 2) := by decide +kernel
theorem dX5_expression_98 : decode cX5_expression 98 = .ok (.invokevirtual 244, 3) := by decide +kernel
theorem dX5_expression_101 : decode cX5_expression 101 = .ok (.iconst 1, 1) := by decide +kernel
theorem dX5_expression_102 : decode cX5_expression 102 = .ok (.ireturn, 1) := by decide +kernel
theorem dX5_expression_91 : decode cX5_expression 91 = .ok (.iconst 0, 1) := by decide +kernel
theorem dX5_expression_92 : decode cX5_expression 92 = .ok (.ireturn, 1) := by decide +kernel
theorem dX5_expression_33 : decode cX5_expression 33 = .ok (.aload_n 0, 1) := by decide +kernel
theorem dX5_expression_34 : decode cX5_expression 34 = .ok (.getfield 12, 3) := by decide +kernel
theorem dX5_expression_37 : decode cX5_expression 37 = .ok (.getfield 71, 3) := by decide +kernel
theorem dX5_expression_40 : decode cX5_expression 40 = .ok (.bipush 60, 2) := by decide +kernel
theorem dX5_expression_42 : decode cX5_expression 42 = .ok (.if_icmp .eq 5, 3) := by decide +kernel
theorem dX5_expression_63 : decode cX5_expression 63 = .ok (.iconst 5, 1) := by decide +kernel
theorem dX5_expression_45 : decode cX5_expression 45 = .ok (.iconst 1, 1) := by decide +kernel
theorem dX5_expression_46 : decode cX5_expression 46 = .ok (.ireturn, 1) := by decide +kernel
theorem dX5_expression_19 : decode cX5_expression 19 = .ok (.iconst 0, 1) := by decide +kernel
theorem dX5_expression_20 : decode cX5_expression 20 = .ok (.ireturn, 1) := by decide +kernel
end
section
theorem cd_X5_setting : Cond.code yX5_setting cX5_setting 2 (some .boolean) ∈ pWW := pw3 (List.mem_of_getElem? (i := 197) rfl) rfl
abbrev m_X5_setting : MT := (yX5_setting, cX5_setting, 2, (some .boolean))
theorem ok_X5_setting : pOk m_X5_setting := ⟨⟨cd_X5_setting, ini_5⟩, by decide +kernel, ⟨by decide +kernel, by decide +kernel⟩, Nat.le_of_ble_eq_true rfl⟩
theorem np_X5_setting : (parseMethodDescriptor yX5_setting.desc).map (fun d => d.parameters.length) = some 1 := by decide +kernel
theorem im_X5_setting : Cond.instanceMethod yX5_setting ∈ pWW := pw3 (List.mem_of_getElem? (i := 196) rfl) rfl
theorem se_X5_setting : Cond.selects RX5 yX5_setting yX5_setting ∈ pWW := pws (List.mem_map.mpr ⟨_, lw_pin 25 rfl, rfl⟩) rfl
theorem dX5_setting_0 : decode cX5_setting 0 = .ok (.aload_n 0, 1) := by decide +kernel
theorem dX5_setting_1 : decode cX5_setting 1 = .ok (.iconst 1, 1) := by decide +kernel
theorem dX5_setting_2 : decode cX5_setting 2 = .ok (.invokevirtual 213, 3) := by decide +kernel
theorem dX5_setting_5 : decode cX5_setting 5 = .ok (.ifCond .eq 12, 3) := by decide +kernel
theorem dX5_setting_17 : decode cX5_setting 17 = .ok (.iconst 0, 1) := by decide +kernel
theorem dX5_setting_18 : decode cX5_setting 18 = .ok (.ireturn, 1) := by decide +kernel
theorem dX5_setting_8 : decode cX5_setting 8 = .ok (.aload_n 0, 1) := by decide +kernel
theorem dX5_setting_9 : decode cX5_setting 9 = .ok (.bipush 59, 2) := by decide +kernel
theorem dX5_setting_11 : decode cX5_setting 11 = .ok (.invokevirtual 102, 3) := by decide +kernel
theorem dX5_setting_14 : decode cX5_setting 14 = .ok (.ifCond .ne 5, 3) := by decide +kernel
theorem dX5_setting_19 : decode cX5_setting 19 = .ok (.aload_n 0, 1) := by decide +kernel
theorem dX5_setting_20 : decode cX5_setting 20 = .ok (.getfield 47, 3) := by decide +kernel
theorem dX5_setting_23 : decode cX5_setting 23 = .ok (.iconst 0, 1) := by decide +kernel
theorem dX5_setting_24 : decode cX5_setting 24 = .ok (.iload_n 1, 1) := by decide +kernel
theorem dX5_setting_25 : decode cX5_setting 25 = .ok (.iconst 0, 1) := by decide +kernel
theorem dX5_setting_26 : decode cX5_setting 26 = .ok (.invokevirtual 139, 3) := by decide +kernel
theorem dX5_setting_29 : decode cX5_setting 29 = .ok (.aload_n 0, 1) := by decide +kernel
theorem dX5_setting_30 : decode cX5_setting 30 = .ok (.getfield 47, 3) := by decide +kernel
theorem dX5_setting_33 : decode cX5_setting 33 = .ok (.iconst 0, 1) := by decide +kernel
theorem dX5_setting_34 : decode cX5_setting 34 = .ok (.aload_n 0, 1) := by decide +kernel
theorem dX5_setting_35 : decode cX5_setting 35 = .ok (.getfield 216, 3) := by decide +kernel
theorem dX5_setting_38 : decode cX5_setting 38 = .ok (.aload_n 0, 1) := by decide +kernel
theorem dX5_setting_39 : decode cX5_setting 39 = .ok (.getfield 219, 3) := by decide +kernel
theorem dX5_setting_42 : decode cX5_setting 42 = .ok (.invokevirtual 143, 3) := by decide +kernel
theorem dX5_setting_45 : decode cX5_setting 45 = .ok (.iconst 1, 1) := by decide +kernel
theorem dX5_setting_46 : decode cX5_setting 46 = .ok (.ireturn, 1) := by decide +kernel
end
section
theorem cd_X5_call : Cond.code yX5_call cX5_call 6 (some .boolean) ∈ pWW := pw3 (List.mem_of_getElem? (i := 158) rfl) rfl
abbrev m_X5_call : MT := (yX5_call, cX5_call, 6, (some .boolean))
theorem ok_X5_call : pOk m_X5_call := ⟨⟨cd_X5_call, ini_5⟩, by decide +kernel, ⟨by decide +kernel, by decide +kernel⟩, Nat.le_of_ble_eq_true rfl⟩
theorem np_X5_call : (parseMethodDescriptor yX5_call.desc).map (fun d => d.parameters.length) = some 1 := by decide +kernel
theorem im_X5_call : Cond.instanceMethod yX5_call ∈ pWW := pw3 (List.mem_of_getElem? (i := 157) rfl) rfl
theorem se_X5_call : Cond.selects RX5 yX5_call yX5_call ∈ pWW := pws (List.mem_map.mpr ⟨_, lw_pin 17 rfl, rfl⟩) rfl
theorem fl5_43 : Cond.fieldLink RX5 43 (TX5 16).1 (TX5 16).2.1 (TX5 16).2.2.1 ∈ pWW := pw1 (List.mem_of_getElem? (i := 172) rfl) rfl
theorem ml5_222 : Cond.methodLink RX5 222 yJ7_fill_53178 ∈ pWW := pw3 (List.mem_of_getElem? (i := 159) rfl) rfl
theorem dX5_call_0 : decode cX5_call 0 = .ok (.aload_n 0, 1) := by decide +kernel
theorem dX5_call_1 : decode cX5_call 1 = .ok (.getfield 12, 3) := by decide +kernel
theorem dX5_call_4 : decode cX5_call 4 = .ok (.getfield 96, 3) := by decide +kernel
theorem dX5_call_7 : decode cX5_call 7 = .ok (.istore_n 2, 1) := by decide +kernel
theorem dX5_call_8 : decode cX5_call 8 = .ok (.aload_n 0, 1) := by decide +kernel
theorem dX5_call_9 : decode cX5_call 9 = .ok (.getfield 12, 3) := by decide +kernel
theorem dX5_call_12 : decode cX5_call 12 = .ok (.getfield 74, 3) := by decide +kernel
theorem dX5_call_15 : decode cX5_call 15 = .ok (.istore_n 3, 1) := by decide +kernel
theorem dX5_call_16 : decode cX5_call 16 = .ok (.aload_n 0, 1) := by decide +kernel
theorem dX5_call_17 : decode cX5_call 17 = .ok (.getfield 12, 3) := by decide +kernel
theorem dX5_call_20 : decode cX5_call 20 = .ok (.invokevirtual 93, 3) := by decide +kernel
theorem dX5_call_23 : decode cX5_call 23 = .ok (.aload_n 0, 1) := by decide +kernel
theorem dX5_call_24 : decode cX5_call 24 = .ok (.getfield 12, 3) := by decide +kernel
theorem dX5_call_27 : decode cX5_call 27 = .ok (.invokevirtual 93, 3) := by decide +kernel
theorem dX5_call_30 : decode cX5_call 30 = .ok (.iconst 0, 1) := by decide +kernel
theorem dX5_call_31 : decode cX5_call 31 = .ok (.istore 4, 2) := by decide +kernel
theorem dX5_call_33 : decode cX5_call 33 = .ok (.aload_n 0, 1) := by decide +kernel
theorem dX5_call_34 : decode cX5_call 34 = .ok (.getfield 43, 3) := by decide +kernel
theorem dX5_call_37 : decode cX5_call 37 = .ok (.iconst 0, 1) := by decide +kernel
theorem dX5_call_38 : decode cX5_call 38 = .ok (.invokestatic 222, 3) := by decide +kernel
theorem dX5_call_41 : decode cX5_call 41 = .ok (.iconst 0, 1) := by decide +kernel
theorem dX5_call_42 : decode cX5_call 42 = .ok (.istore 5, 2) := by decide +kernel
theorem dX5_call_44 : decode cX5_call 44 = .ok (.iload 5, 2) := by decide +kernel
theorem dX5_call_46 : decode cX5_call 46 = .ok (.sipush 1200, 3) := by decide +kernel
theorem dX5_call_49 : decode cX5_call 49 = .ok (.if_icmp .ge 93, 3) := by decide +kernel
theorem dX5_call_52 : decode cX5_call 52 = .ok (.aload_n 0, 1) := by decide +kernel
theorem dX5_call_53 : decode cX5_call 53 = .ok (.getfield 12, 3) := by decide +kernel
theorem dX5_call_56 : decode cX5_call 56 = .ok (.getfield 71, 3) := by decide +kernel
theorem dX5_call_59 : decode cX5_call 59 = .ok (.bipush 41, 2) := by decide +kernel
theorem dX5_call_61 : decode cX5_call 61 = .ok (.if_icmp .ne 8, 3) := by decide +kernel
theorem dX5_call_69 : decode cX5_call 69 = .ok (.aload_n 0, 1) := by decide +kernel
theorem dX5_call_70 : decode cX5_call 70 = .ok (.iconst 1, 1) := by decide +kernel
theorem dX5_call_71 : decode cX5_call 71 = .ok (.invokevirtual 213, 3) := by decide +kernel
theorem dX5_call_74 : decode cX5_call 74 = .ok (.ifCond .ne 5, 3) := by decide +kernel
theorem dX5_call_79 : decode cX5_call 79 = .ok (.aload_n 0, 1) := by decide +kernel
theorem dX5_call_80 : decode cX5_call 80 = .ok (.getfield 43, 3) := by decide +kernel
theorem dX5_call_83 : decode cX5_call 83 = .ok (.iconst 2, 1) := by decide +kernel
theorem dX5_call_84 : decode cX5_call 84 = .ok (.iload 4, 2) := by decide +kernel
theorem dX5_call_86 : decode cX5_call 86 = .ok (.imul, 1) := by decide +kernel
theorem dX5_call_87 : decode cX5_call 87 = .ok (.aload_n 0, 1) := by decide +kernel
theorem dX5_call_88 : decode cX5_call 88 = .ok (.getfield 216, 3) := by decide +kernel
theorem dX5_call_91 : decode cX5_call 91 = .ok (.invokestatic 129, 3) := by decide +kernel
theorem dX5_call_94 : decode cX5_call 94 = .ok (.aload_n 0, 1) := by decide +kernel
theorem dX5_call_95 : decode cX5_call 95 = .ok (.getfield 43, 3) := by decide +kernel
theorem dX5_call_98 : decode cX5_call 98 = .ok (.iconst 2, 1) := by decide +kernel
theorem dX5_call_99 : decode cX5_call 99 = .ok (.iload 4, 2) := by decide +kernel
theorem dX5_call_101 : decode cX5_call 101 = .ok (.imul, 1) := by decide +kernel
theorem dX5_call_102 : decode cX5_call 102 = .ok (.iconst 1, 1) := by decide +kernel
theorem dX5_call_103 : decode cX5_call 103 = .ok (.iadd, 1) := by decide +kernel
theorem dX5_call_104 : decode cX5_call 104 = .ok (.aload_n 0, 1) := by decide +kernel
theorem dX5_call_105 : decode cX5_call 105 = .ok (.getfield 219, 3) := by decide +kernel
theorem dX5_call_108 : decode cX5_call 108 = .ok (.invokestatic 129, 3) := by decide +kernel
theorem dX5_call_111 : decode cX5_call 111 = .ok (.iinc 4 1, 3) := by decide +kernel
theorem dX5_call_114 : decode cX5_call 114 = .ok (.aload_n 0, 1) := by decide +kernel
theorem dX5_call_115 : decode cX5_call 115 = .ok (.getfield 12, 3) := by decide +kernel
theorem dX5_call_118 : decode cX5_call 118 = .ok (.getfield 71, 3) := by decide +kernel
theorem dX5_call_121 : decode cX5_call 121 = .ok (.bipush 44, 2) := by decide +kernel
theorem dX5_call_123 : decode cX5_call 123 = .ok (.if_icmp .eq 6, 3) := by decide +kernel
theorem dX5_call_129 : decode cX5_call 129 = .ok (.aload_n 0, 1) := by decide +kernel
theorem dX5_call_130 : decode cX5_call 130 = .ok (.getfield 12, 3) := by decide +kernel
theorem dX5_call_133 : decode cX5_call 133 = .ok (.invokevirtual 93, 3) := by decide +kernel
theorem dX5_call_136 : decode cX5_call 136 = .ok (.iinc 5 1, 3) := by decide +kernel
theorem dX5_call_139 : decode cX5_call 139 = .ok (.goto (-95), 3) := by decide +kernel
theorem dX5_call_64 : decode cX5_call 64 = .ok (.iload 4, 2) := by decide +kernel
theorem dX5_call_66 : decode cX5_call 66 = .ok (.ifCond .le 76, 3) := by decide +kernel
theorem ml5_228 : Cond.methodLink RX5 228 yX5_listCall ∈ pWW := pw3 (List.mem_of_getElem? (i := 190) rfl) rfl
theorem dX5_call_77 : decode cX5_call 77 = .ok (.iconst 0, 1) := by decide +kernel
theorem dX5_call_78 : decode cX5_call 78 = .ok (.ireturn, 1) := by decide +kernel
theorem dX5_call_126 : decode cX5_call 126 = .ok (.goto 16, 3) := by decide +kernel
theorem dX5_call_142 : decode cX5_call 142 = .ok (.aload_n 0, 1) := by decide +kernel
theorem dX5_call_143 : decode cX5_call 143 = .ok (.bipush 41, 2) := by decide +kernel
theorem dX5_call_145 : decode cX5_call 145 = .ok (.invokevirtual 102, 3) := by decide +kernel
theorem dX5_call_148 : decode cX5_call 148 = .ok (.ifCond .eq 12, 3) := by decide +kernel
theorem dX5_call_160 : decode cX5_call 160 = .ok (.iconst 0, 1) := by decide +kernel
theorem dX5_call_161 : decode cX5_call 161 = .ok (.ireturn, 1) := by decide +kernel
theorem dX5_call_151 : decode cX5_call 151 = .ok (.aload_n 0, 1) := by decide +kernel
theorem dX5_call_152 : decode cX5_call 152 = .ok (.bipush 59, 2) := by decide +kernel
theorem dX5_call_154 : decode cX5_call 154 = .ok (.invokevirtual 102, 3) := by decide +kernel
theorem dX5_call_157 : decode cX5_call 157 = .ok (.ifCond .ne 5, 3) := by decide +kernel
theorem dX5_call_162 : decode cX5_call 162 = .ok (.aload_n 0, 1) := by decide +kernel
theorem dX5_call_163 : decode cX5_call 163 = .ok (.iload_n 2, 1) := by decide +kernel
theorem dX5_call_164 : decode cX5_call 164 = .ok (.iload_n 3, 1) := by decide +kernel
theorem dX5_call_165 : decode cX5_call 165 = .ok (.iload 4, 2) := by decide +kernel
theorem dX5_call_167 : decode cX5_call 167 = .ok (.invokevirtual 228, 3) := by decide +kernel
theorem dX5_call_170 : decode cX5_call 170 = .ok (.aload_n 0, 1) := by decide +kernel
theorem dX5_call_171 : decode cX5_call 171 = .ok (.getfield 47, 3) := by decide +kernel
theorem dX5_call_174 : decode cX5_call 174 = .ok (.bipush 10, 2) := by decide +kernel
theorem dX5_call_176 : decode cX5_call 176 = .ok (.iload_n 1, 1) := by decide +kernel
theorem dX5_call_177 : decode cX5_call 177 = .ok (.iload_n 2, 1) := by decide +kernel
theorem dX5_call_178 : decode cX5_call 178 = .ok (.invokevirtual 139, 3) := by decide +kernel
theorem dX5_call_181 : decode cX5_call 181 = .ok (.iconst 0, 1) := by decide +kernel
theorem dX5_call_182 : decode cX5_call 182 = .ok (.istore 5, 2) := by decide +kernel
theorem dX5_call_184 : decode cX5_call 184 = .ok (.iload 5, 2) := by decide +kernel
theorem dX5_call_186 : decode cX5_call 186 = .ok (.iconst 4, 1) := by decide +kernel
theorem dX5_call_187 : decode cX5_call 187 = .ok (.if_icmp .ge 42, 3) := by decide +kernel
theorem dX5_call_190 : decode cX5_call 190 = .ok (.aload_n 0, 1) := by decide +kernel
theorem dX5_call_191 : decode cX5_call 191 = .ok (.getfield 47, 3) := by decide +kernel
theorem dX5_call_194 : decode cX5_call 194 = .ok (.iload 5, 2) := by decide +kernel
theorem dX5_call_196 : decode cX5_call 196 = .ok (.aload_n 0, 1) := by decide +kernel
theorem dX5_call_197 : decode cX5_call 197 = .ok (.getfield 43, 3) := by decide +kernel
theorem dX5_call_200 : decode cX5_call 200 = .ok (.iconst 2, 1) := by decide +kernel
theorem dX5_call_201 : decode cX5_call 201 = .ok (.iload 5, 2) := by decide +kernel
theorem dX5_call_203 : decode cX5_call 203 = .ok (.imul, 1) := by decide +kernel
theorem dX5_call_204 : decode cX5_call 204 = .ok (.invokestatic 231, 3) := by decide +kernel
theorem dX5_call_207 : decode cX5_call 207 = .ok (.aload_n 0, 1) := by decide +kernel
theorem dX5_call_208 : decode cX5_call 208 = .ok (.getfield 43, 3) := by decide +kernel
theorem dX5_call_211 : decode cX5_call 211 = .ok (.iconst 2, 1) := by decide +kernel
theorem dX5_call_212 : decode cX5_call 212 = .ok (.iload 5, 2) := by decide +kernel
theorem dX5_call_214 : decode cX5_call 214 = .ok (.imul, 1) := by decide +kernel
theorem dX5_call_215 : decode cX5_call 215 = .ok (.iconst 1, 1) := by decide +kernel
theorem dX5_call_216 : decode cX5_call 216 = .ok (.iadd, 1) := by decide +kernel
theorem dX5_call_217 : decode cX5_call 217 = .ok (.invokestatic 231, 3) := by decide +kernel
theorem dX5_call_220 : decode cX5_call 220 = .ok (.invokevirtual 143, 3) := by decide +kernel
theorem dX5_call_223 : decode cX5_call 223 = .ok (.iinc 5 1, 3) := by decide +kernel
theorem dX5_call_226 : decode cX5_call 226 = .ok (.goto (-42), 3) := by decide +kernel
theorem dX5_call_229 : decode cX5_call 229 = .ok (.iconst 1, 1) := by decide +kernel
theorem dX5_call_230 : decode cX5_call 230 = .ok (.ireturn, 1) := by decide +kernel
end
section
theorem cd_X5_assignment : Cond.code yX5_assignment cX5_assignment 3 (some .boolean) ∈ pWW := pw3 (List.mem_of_getElem? (i := 124) rfl) rfl
abbrev m_X5_assignment : MT := (yX5_assignment, cX5_assignment, 3, (some .boolean))
theorem ok_X5_assignment : pOk m_X5_assignment := ⟨⟨cd_X5_assignment, ini_5⟩, by decide +kernel, ⟨by decide +kernel, by decide +kernel⟩, Nat.le_of_ble_eq_true rfl⟩
theorem np_X5_assignment : (parseMethodDescriptor yX5_assignment.desc).map (fun d => d.parameters.length) = some 0 := by decide +kernel
theorem im_X5_assignment : Cond.instanceMethod yX5_assignment ∈ pWW := pw3 (List.mem_of_getElem? (i := 123) rfl) rfl
theorem se_X5_assignment : Cond.selects RX5 yX5_assignment yX5_assignment ∈ pWW := pws (List.mem_map.mpr ⟨_, lw_pin 16 rfl, rfl⟩) rfl
theorem fl5_64 : Cond.fieldLink RX5 64 (TX5 12).1 (TX5 12).2.1 (TX5 12).2.2.1 ∈ pWW := pw1 (List.mem_of_getElem? (i := 168) rfl) rfl
theorem ml5_207 : Cond.methodLink RX5 207 yX5_setting ∈ pWW := pw3 (List.mem_of_getElem? (i := 194) rfl) rfl
theorem fl5_146 : Cond.fieldLink RX5 146 (TX1 1).1 (TX1 1).2.1 (TX1 1).2.2.1 ∈ pWW := pw1 (List.mem_of_getElem? (i := 86) rfl) rfl
theorem ml5_210 : Cond.methodLink RX5 210 yX1_setWhere ∈ pWW := pw3 (List.mem_of_getElem? (i := 198) rfl) rfl
theorem ml5_201 : Cond.methodLink RX5 201 yX9_nextIs ∈ pWW := pw3 (List.mem_of_getElem? (i := 150) rfl) rfl
theorem ml5_204 : Cond.methodLink RX5 204 yX5_call ∈ pWW := pw3 (List.mem_of_getElem? (i := 155) rfl) rfl
theorem dX5_assignment_0 : decode cX5_assignment 0 = .ok (.aload_n 0, 1) := by decide +kernel
theorem dX5_assignment_1 : decode cX5_assignment 1 = .ok (.getfield 47, 3) := by decide +kernel
theorem dX5_assignment_4 : decode cX5_assignment 4 = .ok (.bipush 11, 2) := by decide +kernel
theorem dX5_assignment_6 : decode cX5_assignment 6 = .ok (.aload_n 0, 1) := by decide +kernel
theorem dX5_assignment_7 : decode cX5_assignment 7 = .ok (.getfield 64, 3) := by decide +kernel
theorem dX5_assignment_10 : decode cX5_assignment 10 = .ok (.iconst 0, 1) := by decide +kernel
theorem dX5_assignment_11 : decode cX5_assignment 11 = .ok (.invokevirtual 139, 3) := by decide +kernel
theorem dX5_assignment_14 : decode cX5_assignment 14 = .ok (.aload_n 0, 1) := by decide +kernel
theorem dX5_assignment_15 : decode cX5_assignment 15 = .ok (.invokevirtual 176, 3) := by decide +kernel
theorem dX5_assignment_18 : decode cX5_assignment 18 = .ok (.istore_n 1, 1) := by decide +kernel
theorem dX5_assignment_19 : decode cX5_assignment 19 = .ok (.aload_n 0, 1) := by decide +kernel
theorem dX5_assignment_20 : decode cX5_assignment 20 = .ok (.getfield 12, 3) := by decide +kernel
theorem dX5_assignment_23 : decode cX5_assignment 23 = .ok (.invokevirtual 93, 3) := by decide +kernel
theorem dX5_assignment_26 : decode cX5_assignment 26 = .ok (.aload_n 0, 1) := by decide +kernel
theorem dX5_assignment_27 : decode cX5_assignment 27 = .ok (.bipush 61, 2) := by decide +kernel
theorem dX5_assignment_29 : decode cX5_assignment 29 = .ok (.invokevirtual 102, 3) := by decide +kernel
theorem dX5_assignment_32 : decode cX5_assignment 32 = .ok (.ifCond .ne 5, 3) := by decide +kernel
theorem dX5_assignment_37 : decode cX5_assignment 37 = .ok (.aload_n 0, 1) := by decide +kernel
theorem dX5_assignment_38 : decode cX5_assignment 38 = .ok (.getfield 12, 3) := by decide +kernel
theorem dX5_assignment_41 : decode cX5_assignment 41 = .ok (.getfield 71, 3) := by decide +kernel
theorem dX5_assignment_44 : decode cX5_assignment 44 = .ok (.sipush 256, 3) := by decide +kernel
theorem dX5_assignment_47 : decode cX5_assignment 47 = .ok (.if_icmp .ne 23, 3) := by decide +kernel
theorem dX5_assignment_70 : decode cX5_assignment 70 = .ok (.aload_n 0, 1) := by decide +kernel
theorem dX5_assignment_71 : decode cX5_assignment 71 = .ok (.iload_n 1, 1) := by decide +kernel
theorem dX5_assignment_72 : decode cX5_assignment 72 = .ok (.invokevirtual 207, 3) := by decide +kernel
theorem dX5_assignment_75 : decode cX5_assignment 75 = .ok (.istore_n 2, 1) := by decide +kernel
theorem dX5_assignment_76 : decode cX5_assignment 76 = .ok (.aload_n 0, 1) := by decide +kernel
theorem dX5_assignment_77 : decode cX5_assignment 77 = .ok (.getfield 47, 3) := by decide +kernel
theorem dX5_assignment_80 : decode cX5_assignment 80 = .ok (.bipush 12, 2) := by decide +kernel
theorem dX5_assignment_82 : decode cX5_assignment 82 = .ok (.iload_n 1, 1) := by decide +kernel
theorem dX5_assignment_83 : decode cX5_assignment 83 = .ok (.iconst 0, 1) := by decide +kernel
theorem dX5_assignment_84 : decode cX5_assignment 84 = .ok (.invokevirtual 139, 3) := by decide +kernel
theorem dX5_assignment_87 : decode cX5_assignment 87 = .ok (.aload_n 0, 1) := by decide +kernel
theorem dX5_assignment_88 : decode cX5_assignment 88 = .ok (.getfield 47, 3) := by decide +kernel
theorem dX5_assignment_91 : decode cX5_assignment 91 = .ok (.aload_n 0, 1) := by decide +kernel
theorem dX5_assignment_92 : decode cX5_assignment 92 = .ok (.getfield 47, 3) := by decide +kernel
theorem dX5_assignment_95 : decode cX5_assignment 95 = .ok (.getfield 146, 3) := by decide +kernel
theorem dX5_assignment_98 : decode cX5_assignment 98 = .ok (.iconst 1, 1) := by decide +kernel
theorem dX5_assignment_99 : decode cX5_assignment 99 = .ok (.isub, 1) := by decide +kernel
theorem dX5_assignment_100 : decode cX5_assignment 100 = .ok (.iconst 2, 1) := by decide +kernel
theorem dX5_assignment_101 : decode cX5_assignment 101 = .ok (.iload_n 1, 1) := by decide +kernel
theorem dX5_assignment_102 : decode cX5_assignment 102 = .ok (.invokevirtual 210, 3) := by decide +kernel
theorem dX5_assignment_105 : decode cX5_assignment 105 = .ok (.iload_n 2, 1) := by decide +kernel
theorem dX5_assignment_106 : decode cX5_assignment 106 = .ok (.ireturn, 1) := by decide +kernel
theorem dX5_assignment_50 : decode cX5_assignment 50 = .ok (.aload_n 0, 1) := by decide +kernel
theorem dX5_assignment_51 : decode cX5_assignment 51 = .ok (.getfield 12, 3) := by decide +kernel
theorem dX5_assignment_54 : decode cX5_assignment 54 = .ok (.bipush 40, 2) := by decide +kernel
theorem dX5_assignment_56 : decode cX5_assignment 56 = .ok (.invokevirtual 201, 3) := by decide +kernel
theorem dX5_assignment_59 : decode cX5_assignment 59 = .ok (.ifCond .eq 11, 3) := by decide +kernel
theorem dX5_assignment_62 : decode cX5_assignment 62 = .ok (.aload_n 0, 1) := by decide +kernel
theorem dX5_assignment_63 : decode cX5_assignment 63 = .ok (.iload_n 1, 1) := by decide +kernel
theorem dX5_assignment_64 : decode cX5_assignment 64 = .ok (.invokevirtual 204, 3) := by decide +kernel
theorem dX5_assignment_67 : decode cX5_assignment 67 = .ok (.goto 8, 3) := by decide +kernel
theorem dX5_assignment_35 : decode cX5_assignment 35 = .ok (.iconst 0, 1) := by decide +kernel
theorem dX5_assignment_36 : decode cX5_assignment 36 = .ok (.ireturn, 1) := by decide +kernel
end
section
theorem cd_X5_single : Cond.code yX5_single cX5_single 2 (some .boolean) ∈ pWW := pw3 (List.mem_of_getElem? (i := 209) rfl) rfl
abbrev m_X5_single : MT := (yX5_single, cX5_single, 2, (some .boolean))
theorem ok_X5_single : pOk m_X5_single := ⟨⟨cd_X5_single, ini_5⟩, by decide +kernel, ⟨by decide +kernel, by decide +kernel⟩, Nat.le_of_ble_eq_true rfl⟩
theorem np_X5_single : (parseMethodDescriptor yX5_single.desc).map (fun d => d.parameters.length) = some 1 := by decide +kernel
theorem im_X5_single : Cond.instanceMethod yX5_single ∈ pWW := pw3 (List.mem_of_getElem? (i := 208) rfl) rfl
theorem se_X5_single : Cond.selects RX5 yX5_single yX5_single ∈ pWW := pws (List.mem_map.mpr ⟨_, lw_pin 26 rfl, rfl⟩) rfl
theorem dX5_single_0 : decode cX5_single 0 = .ok (.aload_n 0, 1) := by decide +kernel
theorem dX5_single_1 : decode cX5_single 1 = .ok (.getfield 47, 3) := by decide +kernel
theorem dX5_single_4 : decode cX5_single 4 = .ok (.bipush 11, 2) := by decide +kernel
theorem dX5_single_6 : decode cX5_single 6 = .ok (.aload_n 0, 1) := by decide +kernel
theorem dX5_single_7 : decode cX5_single 7 = .ok (.getfield 64, 3) := by decide +kernel
theorem dX5_single_10 : decode cX5_single 10 = .ok (.iconst 0, 1) := by decide +kernel
theorem dX5_single_11 : decode cX5_single 11 = .ok (.invokevirtual 139, 3) := by decide +kernel
theorem dX5_single_14 : decode cX5_single 14 = .ok (.aload_n 0, 1) := by decide +kernel
theorem dX5_single_15 : decode cX5_single 15 = .ok (.getfield 12, 3) := by decide +kernel
theorem dX5_single_18 : decode cX5_single 18 = .ok (.invokevirtual 93, 3) := by decide +kernel
theorem dX5_single_21 : decode cX5_single 21 = .ok (.aload_n 0, 1) := by decide +kernel
theorem dX5_single_22 : decode cX5_single 22 = .ok (.iconst 1, 1) := by decide +kernel
theorem dX5_single_23 : decode cX5_single 23 = .ok (.invokevirtual 213, 3) := by decide +kernel
theorem dX5_single_26 : decode cX5_single 26 = .ok (.ifCond .eq 12, 3) := by decide +kernel
theorem dX5_single_38 : decode cX5_single 38 = .ok (.iconst 0, 1) := by decide +kernel
theorem dX5_single_39 : decode cX5_single 39 = .ok (.ireturn, 1) := by decide +kernel
theorem dX5_single_29 : decode cX5_single 29 = .ok (.aload_n 0, 1) := by decide +kernel
theorem dX5_single_30 : decode cX5_single 30 = .ok (.bipush 59, 2) := by decide +kernel
theorem dX5_single_32 : decode cX5_single 32 = .ok (.invokevirtual 102, 3) := by decide +kernel
theorem dX5_single_35 : decode cX5_single 35 = .ok (.ifCond .ne 5, 3) := by decide +kernel
theorem dX5_single_40 : decode cX5_single 40 = .ok (.aload_n 0, 1) := by decide +kernel
theorem dX5_single_41 : decode cX5_single 41 = .ok (.getfield 47, 3) := by decide +kernel
theorem dX5_single_44 : decode cX5_single 44 = .ok (.iload_n 1, 1) := by decide +kernel
theorem dX5_single_45 : decode cX5_single 45 = .ok (.iconst 0, 1) := by decide +kernel
theorem dX5_single_46 : decode cX5_single 46 = .ok (.iconst 0, 1) := by decide +kernel
theorem dX5_single_47 : decode cX5_single 47 = .ok (.invokevirtual 139, 3) := by decide +kernel
theorem dX5_single_50 : decode cX5_single 50 = .ok (.aload_n 0, 1) := by decide +kernel
theorem dX5_single_51 : decode cX5_single 51 = .ok (.getfield 47, 3) := by decide +kernel
theorem dX5_single_54 : decode cX5_single 54 = .ok (.iconst 0, 1) := by decide +kernel
theorem dX5_single_55 : decode cX5_single 55 = .ok (.aload_n 0, 1) := by decide +kernel
theorem dX5_single_56 : decode cX5_single 56 = .ok (.getfield 216, 3) := by decide +kernel
theorem dX5_single_59 : decode cX5_single 59 = .ok (.aload_n 0, 1) := by decide +kernel
theorem dX5_single_60 : decode cX5_single 60 = .ok (.getfield 219, 3) := by decide +kernel
theorem dX5_single_63 : decode cX5_single 63 = .ok (.invokevirtual 143, 3) := by decide +kernel
theorem dX5_single_66 : decode cX5_single 66 = .ok (.iconst 1, 1) := by decide +kernel
theorem dX5_single_67 : decode cX5_single 67 = .ok (.ireturn, 1) := by decide +kernel
end
section
theorem cd_X5_block : Cond.code yX5_block cX5_block 3 (some .boolean) ∈ pWW := pw3 (List.mem_of_getElem? (i := 116) rfl) rfl
abbrev m_X5_block : MT := (yX5_block, cX5_block, 3, (some .boolean))
theorem ok_X5_block : pOk m_X5_block := ⟨⟨cd_X5_block, ini_5⟩, by decide +kernel, ⟨by decide +kernel, by decide +kernel⟩, Nat.le_of_ble_eq_true rfl⟩
theorem np_X5_block : (parseMethodDescriptor yX5_block.desc).map (fun d => d.parameters.length) = some 1 := by decide +kernel
theorem im_X5_block : Cond.instanceMethod yX5_block ∈ pWW := pw3 (List.mem_of_getElem? (i := 115) rfl) rfl
theorem se_X5_block : Cond.selects RX5 yX5_block yX5_block ∈ pWW := pws (List.mem_map.mpr ⟨_, lw_pin 14 rfl, rfl⟩) rfl
theorem cd_X5_choice : Cond.code yX5_choice cX5_choice 4 (some .boolean) ∈ pWW := pw3 (List.mem_of_getElem? (i := 213) rfl) rfl
abbrev m_X5_choice : MT := (yX5_choice, cX5_choice, 4, (some .boolean))
theorem ok_X5_choice : pOk m_X5_choice := ⟨⟨cd_X5_choice, ini_5⟩, by decide +kernel, ⟨by decide +kernel, by decide +kernel⟩, Nat.le_of_ble_eq_true rfl⟩
theorem np_X5_choice : (parseMethodDescriptor yX5_choice.desc).map (fun d => d.parameters.length) = some 1 := by decide +kernel
theorem im_X5_choice : Cond.instanceMethod yX5_choice ∈ pWW := pw3 (List.mem_of_getElem? (i := 212) rfl) rfl
theorem se_X5_choice : Cond.selects RX5 yX5_choice yX5_choice ∈ pWW := pws (List.mem_map.mpr ⟨_, lw_pin 27 rfl, rfl⟩) rfl
theorem ml5_235 : Cond.methodLink RX5 235 yX5_zeroToNew ∈ pWW := pw3 (List.mem_of_getElem? (i := 214) rfl) rfl
theorem ml5_79 : Cond.methodLink RX5 79 yX5_block ∈ pWW := pw3 (List.mem_of_getElem? (i := 113) rfl) rfl
theorem dX5_choice_0 : decode cX5_choice 0 = .ok (.aload_n 0, 1) := by decide +kernel
theorem dX5_choice_1 : decode cX5_choice 1 = .ok (.getfield 47, 3) := by decide +kernel
theorem dX5_choice_4 : decode cX5_choice 4 = .ok (.bipush 11, 2) := by decide +kernel
theorem dX5_choice_6 : decode cX5_choice 6 = .ok (.aload_n 0, 1) := by decide +kernel
theorem dX5_choice_7 : decode cX5_choice 7 = .ok (.getfield 64, 3) := by decide +kernel
theorem dX5_choice_10 : decode cX5_choice 10 = .ok (.iconst 0, 1) := by decide +kernel
theorem dX5_choice_11 : decode cX5_choice 11 = .ok (.invokevirtual 139, 3) := by decide +kernel
theorem dX5_choice_14 : decode cX5_choice 14 = .ok (.aload_n 0, 1) := by decide +kernel
theorem dX5_choice_15 : decode cX5_choice 15 = .ok (.getfield 12, 3) := by decide +kernel
theorem dX5_choice_18 : decode cX5_choice 18 = .ok (.invokevirtual 93, 3) := by decide +kernel
theorem dX5_choice_21 : decode cX5_choice 21 = .ok (.aload_n 0, 1) := by decide +kernel
theorem dX5_choice_22 : decode cX5_choice 22 = .ok (.iconst 1, 1) := by decide +kernel
theorem dX5_choice_23 : decode cX5_choice 23 = .ok (.invokevirtual 213, 3) := by decide +kernel
theorem dX5_choice_26 : decode cX5_choice 26 = .ok (.ifCond .ne 5, 3) := by decide +kernel
theorem dX5_choice_31 : decode cX5_choice 31 = .ok (.aload_n 0, 1) := by decide +kernel
theorem dX5_choice_32 : decode cX5_choice 32 = .ok (.invokevirtual 235, 3) := by decide +kernel
theorem dX5_choice_35 : decode cX5_choice 35 = .ok (.istore_n 2, 1) := by decide +kernel
theorem dX5_choice_36 : decode cX5_choice 36 = .ok (.aload_n 0, 1) := by decide +kernel
theorem dX5_choice_37 : decode cX5_choice 37 = .ok (.iload_n 1, 1) := by decide +kernel
theorem dX5_choice_38 : decode cX5_choice 38 = .ok (.iconst 1, 1) := by decide +kernel
theorem dX5_choice_39 : decode cX5_choice 39 = .ok (.iadd, 1) := by decide +kernel
theorem dX5_choice_40 : decode cX5_choice 40 = .ok (.invokevirtual 79, 3) := by decide +kernel
theorem dX5_choice_43 : decode cX5_choice 43 = .ok (.ifCond .ne 5, 3) := by decide +kernel
theorem dX5_choice_48 : decode cX5_choice 48 = .ok (.aload_n 0, 1) := by decide +kernel
theorem dX5_choice_49 : decode cX5_choice 49 = .ok (.getfield 12, 3) := by decide +kernel
theorem dX5_choice_52 : decode cX5_choice 52 = .ok (.getfield 71, 3) := by decide +kernel
theorem dX5_choice_55 : decode cX5_choice 55 = .ok (.sipush 261, 3) := by decide +kernel
theorem dX5_choice_58 : decode cX5_choice 58 = .ok (.if_icmp .eq 16, 3) := by decide +kernel
theorem dX5_choice_74 : decode cX5_choice 74 = .ok (.aload_n 0, 1) := by decide +kernel
theorem dX5_choice_75 : decode cX5_choice 75 = .ok (.invokevirtual 238, 3) := by decide +kernel
theorem dX5_choice_78 : decode cX5_choice 78 = .ok (.istore_n 3, 1) := by decide +kernel
theorem dX5_choice_79 : decode cX5_choice 79 = .ok (.aload_n 0, 1) := by decide +kernel
theorem dX5_choice_80 : decode cX5_choice 80 = .ok (.getfield 47, 3) := by decide +kernel
theorem dX5_choice_83 : decode cX5_choice 83 = .ok (.bipush 8, 2) := by decide +kernel
theorem dX5_choice_85 : decode cX5_choice 85 = .ok (.iload_n 3, 1) := by decide +kernel
theorem dX5_choice_86 : decode cX5_choice 86 = .ok (.iconst 0, 1) := by decide +kernel
theorem dX5_choice_87 : decode cX5_choice 87 = .ok (.invokevirtual 139, 3) := by decide +kernel
theorem dX5_choice_90 : decode cX5_choice 90 = .ok (.aload_n 0, 1) := by decide +kernel
theorem dX5_choice_91 : decode cX5_choice 91 = .ok (.getfield 47, 3) := by decide +kernel
theorem dX5_choice_94 : decode cX5_choice 94 = .ok (.bipush 13, 2) := by decide +kernel
theorem dX5_choice_96 : decode cX5_choice 96 = .ok (.iload_n 2, 1) := by decide +kernel
theorem dX5_choice_97 : decode cX5_choice 97 = .ok (.iconst 0, 1) := by decide +kernel
theorem dX5_choice_98 : decode cX5_choice 98 = .ok (.invokevirtual 139, 3) := by decide +kernel
theorem dX5_choice_101 : decode cX5_choice 101 = .ok (.aload_n 0, 1) := by decide +kernel
theorem dX5_choice_102 : decode cX5_choice 102 = .ok (.getfield 12, 3) := by decide +kernel
theorem dX5_choice_105 : decode cX5_choice 105 = .ok (.invokevirtual 93, 3) := by decide +kernel
theorem dX5_choice_108 : decode cX5_choice 108 = .ok (.aload_n 0, 1) := by decide +kernel
theorem dX5_choice_109 : decode cX5_choice 109 = .ok (.iload_n 1, 1) := by decide +kernel
theorem dX5_choice_110 : decode cX5_choice 110 = .ok (.iconst 1, 1) := by decide +kernel
theorem dX5_choice_111 : decode cX5_choice 111 = .ok (.iadd, 1) := by decide +kernel
theorem dX5_choice_112 : decode cX5_choice 112 = .ok (.invokevirtual 79, 3) := by decide +kernel
theorem dX5_choice_115 : decode cX5_choice 115 = .ok (.ifCond .ne 5, 3) := by decide +kernel
theorem dX5_choice_120 : decode cX5_choice 120 = .ok (.aload_n 0, 1) := by decide +kernel
theorem dX5_choice_121 : decode cX5_choice 121 = .ok (.getfield 47, 3) := by decide +kernel
theorem dX5_choice_124 : decode cX5_choice 124 = .ok (.bipush 13, 2) := by decide +kernel
theorem dX5_choice_126 : decode cX5_choice 126 = .ok (.iload_n 3, 1) := by decide +kernel
theorem dX5_choice_127 : decode cX5_choice 127 = .ok (.iconst 0, 1) := by decide +kernel
theorem dX5_choice_128 : decode cX5_choice 128 = .ok (.invokevirtual 139, 3) := by decide +kernel
theorem dX5_choice_131 : decode cX5_choice 131 = .ok (.iconst 1, 1) := by decide +kernel
theorem dX5_choice_132 : decode cX5_choice 132 = .ok (.ireturn, 1) := by decide +kernel
theorem dX5_choice_118 : decode cX5_choice 118 = .ok (.iconst 0, 1) := by decide +kernel
theorem dX5_choice_119 : decode cX5_choice 119 = .ok (.ireturn, 1) := by decide +kernel
theorem dX5_choice_61 : decode cX5_choice 61 = .ok (.aload_n 0, 1) := by decide +kernel
theorem dX5_choice_62 : decode cX5_choice 62 = .ok (.getfield 47, 3) := by decide +kernel
theorem dX5_choice_65 : decode cX5_choice 65 = .ok (.bipush 13, 2) := by decide +kernel
theorem dX5_choice_67 : decode cX5_choice 67 = .ok (.iload_n 2, 1) := by decide +kernel
theorem dX5_choice_68 : decode cX5_choice 68 = .ok (.iconst 0, 1) := by decide +kernel
theorem dX5_choice_69 : decode cX5_choice 69 = .ok (.invokevirtual 139, 3) := by decide +kernel
theorem dX5_choice_72 : decode cX5_choice 72 = .ok (.iconst 1, 1) := by decide +kernel
theorem dX5_choice_73 : decode cX5_choice 73 = .ok (.ireturn, 1) := by decide +kernel
theorem dX5_choice_46 : decode cX5_choice 46 = .ok (.iconst 0, 1) := by decide +kernel
theorem dX5_choice_47 : decode cX5_choice 47 = .ok (.ireturn, 1) := by decide +kernel
theorem dX5_choice_29 : decode cX5_choice 29 = .ok (.iconst 0, 1) := by decide +kernel
theorem dX5_choice_30 : decode cX5_choice 30 = .ok (.ireturn, 1) := by decide +kernel
end
section
theorem cd_X5_ring : Cond.code yX5_ring cX5_ring 4 (some .boolean) ∈ pWW := pw3 (List.mem_of_getElem? (i := 225) rfl) rfl
abbrev m_X5_ring : MT := (yX5_ring, cX5_ring, 4, (some .boolean))
theorem ok_X5_ring : pOk m_X5_ring := ⟨⟨cd_X5_ring, ini_5⟩, by decide +kernel, ⟨by decide +kernel, by decide +kernel⟩, Nat.le_of_ble_eq_true rfl⟩
theorem np_X5_ring : (parseMethodDescriptor yX5_ring.desc).map (fun d => d.parameters.length) = some 1 := by decide +kernel
theorem im_X5_ring : Cond.instanceMethod yX5_ring ∈ pWW := pw3 (List.mem_of_getElem? (i := 224) rfl) rfl
theorem se_X5_ring : Cond.selects RX5 yX5_ring yX5_ring ∈ pWW := pws (List.mem_map.mpr ⟨_, lw_pin 30 rfl, rfl⟩) rfl
theorem dX5_ring_0 : decode cX5_ring 0 = .ok (.aload_n 0, 1) := by decide +kernel
theorem dX5_ring_1 : decode cX5_ring 1 = .ok (.invokevirtual 238, 3) := by decide +kernel
theorem dX5_ring_4 : decode cX5_ring 4 = .ok (.istore_n 2, 1) := by decide +kernel
theorem dX5_ring_5 : decode cX5_ring 5 = .ok (.aload_n 0, 1) := by decide +kernel
theorem dX5_ring_6 : decode cX5_ring 6 = .ok (.getfield 47, 3) := by decide +kernel
theorem dX5_ring_9 : decode cX5_ring 9 = .ok (.bipush 13, 2) := by decide +kernel
theorem dX5_ring_11 : decode cX5_ring 11 = .ok (.iload_n 2, 1) := by decide +kernel
theorem dX5_ring_12 : decode cX5_ring 12 = .ok (.iconst 0, 1) := by decide +kernel
theorem dX5_ring_13 : decode cX5_ring 13 = .ok (.invokevirtual 139, 3) := by decide +kernel
theorem dX5_ring_16 : decode cX5_ring 16 = .ok (.aload_n 0, 1) := by decide +kernel
theorem dX5_ring_17 : decode cX5_ring 17 = .ok (.getfield 47, 3) := by decide +kernel
theorem dX5_ring_20 : decode cX5_ring 20 = .ok (.bipush 11, 2) := by decide +kernel
theorem dX5_ring_22 : decode cX5_ring 22 = .ok (.aload_n 0, 1) := by decide +kernel
theorem dX5_ring_23 : decode cX5_ring 23 = .ok (.getfield 64, 3) := by decide +kernel
theorem dX5_ring_26 : decode cX5_ring 26 = .ok (.iconst 0, 1) := by decide +kernel
theorem dX5_ring_27 : decode cX5_ring 27 = .ok (.invokevirtual 139, 3) := by decide +kernel
theorem dX5_ring_30 : decode cX5_ring 30 = .ok (.aload_n 0, 1) := by decide +kernel
theorem dX5_ring_31 : decode cX5_ring 31 = .ok (.getfield 12, 3) := by decide +kernel
theorem dX5_ring_34 : decode cX5_ring 34 = .ok (.invokevirtual 93, 3) := by decide +kernel
theorem dX5_ring_37 : decode cX5_ring 37 = .ok (.aload_n 0, 1) := by decide +kernel
theorem dX5_ring_38 : decode cX5_ring 38 = .ok (.iconst 1, 1) := by decide +kernel
theorem dX5_ring_39 : decode cX5_ring 39 = .ok (.invokevirtual 213, 3) := by decide +kernel
theorem dX5_ring_42 : decode cX5_ring 42 = .ok (.ifCond .ne 5, 3) := by decide +kernel
theorem dX5_ring_47 : decode cX5_ring 47 = .ok (.aload_n 0, 1) := by decide +kernel
theorem dX5_ring_48 : decode cX5_ring 48 = .ok (.invokevirtual 235, 3) := by decide +kernel
theorem dX5_ring_51 : decode cX5_ring 51 = .ok (.istore_n 3, 1) := by decide +kernel
theorem dX5_ring_52 : decode cX5_ring 52 = .ok (.aload_n 0, 1) := by decide +kernel
theorem dX5_ring_53 : decode cX5_ring 53 = .ok (.iload_n 1, 1) := by decide +kernel
theorem dX5_ring_54 : decode cX5_ring 54 = .ok (.iconst 1, 1) := by decide +kernel
theorem dX5_ring_55 : decode cX5_ring 55 = .ok (.iadd, 1) := by decide +kernel
theorem dX5_ring_56 : decode cX5_ring 56 = .ok (.invokevirtual 79, 3) := by decide +kernel
theorem dX5_ring_59 : decode cX5_ring 59 = .ok (.ifCond .ne 5, 3) := by decide +kernel
theorem dX5_ring_64 : decode cX5_ring 64 = .ok (.aload_n 0, 1) := by decide +kernel
theorem dX5_ring_65 : decode cX5_ring 65 = .ok (.getfield 47, 3) := by decide +kernel
theorem dX5_ring_68 : decode cX5_ring 68 = .ok (.bipush 8, 2) := by decide +kernel
theorem dX5_ring_70 : decode cX5_ring 70 = .ok (.iload_n 2, 1) := by decide +kernel
theorem dX5_ring_71 : decode cX5_ring 71 = .ok (.iconst 0, 1) := by decide +kernel
theorem dX5_ring_72 : decode cX5_ring 72 = .ok (.invokevirtual 139, 3) := by decide +kernel
theorem dX5_ring_75 : decode cX5_ring 75 = .ok (.aload_n 0, 1) := by decide +kernel
theorem dX5_ring_76 : decode cX5_ring 76 = .ok (.getfield 47, 3) := by decide +kernel
theorem dX5_ring_79 : decode cX5_ring 79 = .ok (.bipush 13, 2) := by decide +kernel
theorem dX5_ring_81 : decode cX5_ring 81 = .ok (.iload_n 3, 1) := by decide +kernel
theorem dX5_ring_82 : decode cX5_ring 82 = .ok (.iconst 0, 1) := by decide +kernel
theorem dX5_ring_83 : decode cX5_ring 83 = .ok (.invokevirtual 139, 3) := by decide +kernel
theorem dX5_ring_86 : decode cX5_ring 86 = .ok (.iconst 1, 1) := by decide +kernel
theorem dX5_ring_87 : decode cX5_ring 87 = .ok (.ireturn, 1) := by decide +kernel
theorem dX5_ring_62 : decode cX5_ring 62 = .ok (.iconst 0, 1) := by decide +kernel
theorem dX5_ring_63 : decode cX5_ring 63 = .ok (.ireturn, 1) := by decide +kernel
theorem dX5_ring_45 : decode cX5_ring 45 = .ok (.iconst 0, 1) := by decide +kernel
theorem dX5_ring_46 : decode cX5_ring 46 = .ok (.ireturn, 1) := by decide +kernel
end
section
theorem cd_X5_statement : Cond.code yX5_statement cX5_statement 2 (some .boolean) ∈ pWW := pw3 (List.mem_of_getElem? (i := 120) rfl) rfl
abbrev m_X5_statement : MT := (yX5_statement, cX5_statement, 2, (some .boolean))
theorem ok_X5_statement : pOk m_X5_statement := ⟨⟨cd_X5_statement, ini_5⟩, by decide +kernel, ⟨by decide +kernel, by decide +kernel⟩, Nat.le_of_ble_eq_true rfl⟩
theorem np_X5_statement : (parseMethodDescriptor yX5_statement.desc).map (fun d => d.parameters.length) = some 1 := by decide +kernel
theorem im_X5_statement : Cond.instanceMethod yX5_statement ∈ pWW := pw3 (List.mem_of_getElem? (i := 119) rfl) rfl
theorem se_X5_statement : Cond.selects RX5 yX5_statement yX5_statement ∈ pWW := pws (List.mem_map.mpr ⟨_, lw_pin 15 rfl, rfl⟩) rfl
theorem fl5_186 : Cond.fieldLink RX5 186 (TX1 4).1 (TX1 4).2.1 (TX1 4).2.2.1 ∈ pWW := pw1 (List.mem_of_getElem? (i := 101) rfl) rfl
theorem ml5_189 : Cond.methodLink RX5 189 yX5_assignment ∈ pWW := pw3 (List.mem_of_getElem? (i := 121) rfl) rfl
theorem ml5_192 : Cond.methodLink RX5 192 yX5_single ∈ pWW := pw3 (List.mem_of_getElem? (i := 206) rfl) rfl
theorem ml5_195 : Cond.methodLink RX5 195 yX5_choice ∈ pWW := pw3 (List.mem_of_getElem? (i := 210) rfl) rfl
theorem ml5_198 : Cond.methodLink RX5 198 yX5_ring ∈ pWW := pw3 (List.mem_of_getElem? (i := 222) rfl) rfl
theorem dX5_statement_0 : decode cX5_statement 0 = .ok (.aload_n 0, 1) := by decide +kernel
theorem dX5_statement_1 : decode cX5_statement 1 = .ok (.dup, 1) := by decide +kernel
theorem dX5_statement_2 : decode cX5_statement 2 = .ok (.getfield 64, 3) := by decide +kernel
theorem dX5_statement_5 : decode cX5_statement 5 = .ok (.iconst 1, 1) := by decide +kernel
theorem dX5_statement_6 : decode cX5_statement 6 = .ok (.iadd, 1) := by decide +kernel
theorem dX5_statement_7 : decode cX5_statement 7 = .ok (.putfield 64, 3) := by decide +kernel
theorem dX5_statement_10 : decode cX5_statement 10 = .ok (.aload_n 0, 1) := by decide +kernel
theorem dX5_statement_11 : decode cX5_statement 11 = .ok (.getfield 64, 3) := by decide +kernel
theorem dX5_statement_14 : decode cX5_statement 14 = .ok (.bipush 40, 2) := by decide +kernel
theorem dX5_statement_16 : decode cX5_statement 16 = .ok (.if_icmp .le 15, 3) := by decide +kernel
theorem dX5_statement_31 : decode cX5_statement 31 = .ok (.aload_n 0, 1) := by decide +kernel
theorem dX5_statement_32 : decode cX5_statement 32 = .ok (.getfield 47, 3) := by decide +kernel
theorem dX5_statement_35 : decode cX5_statement 35 = .ok (.getfield 186, 3) := by decide +kernel
theorem dX5_statement_38 : decode cX5_statement 38 = .ok (.ifCond .ne 14, 3) := by decide +kernel
theorem dX5_statement_52 : decode cX5_statement 52 = .ok (.aload_n 0, 1) := by decide +kernel
theorem dX5_statement_53 : decode cX5_statement 53 = .ok (.getfield 12, 3) := by decide +kernel
theorem dX5_statement_56 : decode cX5_statement 56 = .ok (.getfield 71, 3) := by decide +kernel
theorem dX5_statement_59 : decode cX5_statement 59 = .ok (.tableswitch 72 256 262 #[41, 72, 46, 53, 60, 72, 66], 41) := by decide +kernel
theorem dX5_statement_131 : decode cX5_statement 131 = .ok (.aload_n 0, 1) := by decide +kernel
theorem dX5_statement_132 : decode cX5_statement 132 = .ok (.invokevirtual 90, 3) := by decide +kernel
theorem dX5_statement_135 : decode cX5_statement 135 = .ok (.ireturn, 1) := by decide +kernel
theorem dX5_statement_100 : decode cX5_statement 100 = .ok (.aload_n 0, 1) := by decide +kernel
theorem dX5_statement_101 : decode cX5_statement 101 = .ok (.invokevirtual 189, 3) := by decide +kernel
theorem dX5_statement_104 : decode cX5_statement 104 = .ok (.ireturn, 1) := by decide +kernel
theorem dX5_statement_105 : decode cX5_statement 105 = .ok (.aload_n 0, 1) := by decide +kernel
theorem dX5_statement_106 : decode cX5_statement 106 = .ok (.bipush 6, 2) := by decide +kernel
theorem dX5_statement_108 : decode cX5_statement 108 = .ok (.invokevirtual 192, 3) := by decide +kernel
theorem dX5_statement_111 : decode cX5_statement 111 = .ok (.ireturn, 1) := by decide +kernel
theorem dX5_statement_112 : decode cX5_statement 112 = .ok (.aload_n 0, 1) := by decide +kernel
theorem dX5_statement_113 : decode cX5_statement 113 = .ok (.bipush 7, 2) := by decide +kernel
theorem dX5_statement_115 : decode cX5_statement 115 = .ok (.invokevirtual 192, 3) := by decide +kernel
theorem dX5_statement_118 : decode cX5_statement 118 = .ok (.ireturn, 1) := by decide +kernel
theorem dX5_statement_119 : decode cX5_statement 119 = .ok (.aload_n 0, 1) := by decide +kernel
theorem dX5_statement_120 : decode cX5_statement 120 = .ok (.iload_n 1, 1) := by decide +kernel
theorem dX5_statement_121 : decode cX5_statement 121 = .ok (.invokevirtual 195, 3) := by decide +kernel
theorem dX5_statement_124 : decode cX5_statement 124 = .ok (.ireturn, 1) := by decide +kernel
theorem dX5_statement_125 : decode cX5_statement 125 = .ok (.aload_n 0, 1) := by decide +kernel
theorem dX5_statement_126 : decode cX5_statement 126 = .ok (.iload_n 1, 1) := by decide +kernel
theorem dX5_statement_127 : decode cX5_statement 127 = .ok (.invokevirtual 198, 3) := by decide +kernel
theorem dX5_statement_130 : decode cX5_statement 130 = .ok (.ireturn, 1) := by decide +kernel
theorem dX5_statement_41 : decode cX5_statement 41 = .ok (.aload_n 0, 1) := by decide +kernel
theorem dX5_statement_42 : decode cX5_statement 42 = .ok (.getfield 47, 3) := by decide +kernel
theorem dX5_statement_45 : decode cX5_statement 45 = .ok (.aload_n 0, 1) := by decide +kernel
theorem dX5_statement_46 : decode cX5_statement 46 = .ok (.getfield 64, 3) := by decide +kernel
theorem dX5_statement_49 : decode cX5_statement 49 = .ok (.putfield 186, 3) := by decide +kernel
theorem dX5_statement_19 : decode cX5_statement 19 = .ok (.aload_n 0, 1) := by decide +kernel
theorem dX5_statement_20 : decode cX5_statement 20 = .ok (.iconst 5, 1) := by decide +kernel
theorem dX5_statement_21 : decode cX5_statement 21 = .ok (.aload_n 0, 1) := by decide +kernel
theorem dX5_statement_22 : decode cX5_statement 22 = .ok (.getfield 12, 3) := by decide +kernel
theorem dX5_statement_25 : decode cX5_statement 25 = .ok (.getfield 74, 3) := by decide +kernel
theorem dX5_statement_28 : decode cX5_statement 28 = .ok (.invokevirtual 113, 3) := by decide +kernel
end
section
theorem dX5_block_0 : decode cX5_block 0 = .ok (.iload_n 1, 1) := by decide +kernel
theorem dX5_block_1 : decode cX5_block 1 = .ok (.bipush 6, 2) := by decide +kernel
theorem dX5_block_3 : decode cX5_block 3 = .ok (.if_icmp .gt 12, 3) := by decide +kernel
theorem dX5_block_15 : decode cX5_block 15 = .ok (.aload_n 0, 1) := by decide +kernel
theorem dX5_block_16 : decode cX5_block 16 = .ok (.invokevirtual 90, 3) := by decide +kernel
theorem dX5_block_19 : decode cX5_block 19 = .ok (.ireturn, 1) := by decide +kernel
end
section
theorem ml5_183 : Cond.methodLink RX5 183 yX5_statement ∈ pWW := pw3 (List.mem_of_getElem? (i := 117) rfl) rfl
theorem dX5_block_6 : decode cX5_block 6 = .ok (.aload_n 0, 1) := by decide +kernel
theorem dX5_block_7 : decode cX5_block 7 = .ok (.bipush 123, 2) := by decide +kernel
theorem dX5_block_9 : decode cX5_block 9 = .ok (.invokevirtual 102, 3) := by decide +kernel
theorem dX5_block_12 : decode cX5_block 12 = .ok (.ifCond .ne 8, 3) := by decide +kernel
theorem dX5_block_20 : decode cX5_block 20 = .ok (.iconst 0, 1) := by decide +kernel
theorem dX5_block_21 : decode cX5_block 21 = .ok (.istore_n 2, 1) := by decide +kernel
theorem dX5_block_22 : decode cX5_block 22 = .ok (.iload_n 2, 1) := by decide +kernel
theorem dX5_block_23 : decode cX5_block 23 = .ok (.sipush 1200, 3) := by decide +kernel
theorem dX5_block_26 : decode cX5_block 26 = .ok (.if_icmp .ge 31, 3) := by decide +kernel
theorem dX5_block_29 : decode cX5_block 29 = .ok (.aload_n 0, 1) := by decide +kernel
theorem dX5_block_30 : decode cX5_block 30 = .ok (.getfield 12, 3) := by decide +kernel
theorem dX5_block_33 : decode cX5_block 33 = .ok (.getfield 71, 3) := by decide +kernel
theorem dX5_block_36 : decode cX5_block 36 = .ok (.bipush 125, 2) := by decide +kernel
theorem dX5_block_38 : decode cX5_block 38 = .ok (.if_icmp .eq 19, 3) := by decide +kernel
theorem dX5_block_41 : decode cX5_block 41 = .ok (.aload_n 0, 1) := by decide +kernel
theorem dX5_block_42 : decode cX5_block 42 = .ok (.iload_n 1, 1) := by decide +kernel
theorem dX5_block_43 : decode cX5_block 43 = .ok (.invokevirtual 183, 3) := by decide +kernel
theorem dX5_block_46 : decode cX5_block 46 = .ok (.ifCond .ne 5, 3) := by decide +kernel
theorem dX5_block_51 : decode cX5_block 51 = .ok (.iinc 2 1, 3) := by decide +kernel
theorem dX5_block_54 : decode cX5_block 54 = .ok (.goto (-32), 3) := by decide +kernel
theorem dX5_block_49 : decode cX5_block 49 = .ok (.iconst 0, 1) := by decide +kernel
theorem dX5_block_50 : decode cX5_block 50 = .ok (.ireturn, 1) := by decide +kernel
theorem dX5_block_57 : decode cX5_block 57 = .ok (.aload_n 0, 1) := by decide +kernel
theorem dX5_block_58 : decode cX5_block 58 = .ok (.bipush 125, 2) := by decide +kernel
theorem dX5_block_60 : decode cX5_block 60 = .ok (.invokevirtual 102, 3) := by decide +kernel
theorem dX5_block_63 : decode cX5_block 63 = .ok (.ireturn, 1) := by decide +kernel
end
section
def RT (σ : MS) (a : Nat) : Prop := ∀ t : Nat, σ.2.1 33 a = (t : Int) → TKI σ t
section RTS
variable {T : CT} {σ τ : MS} {a t c : Nat} {k : Int} {ks : List Nat}
theorem RT.of (ht : σ.2.1 33 a = (t : Int)) (h : TKI σ t) : RT σ a := fun t2 q => by
  have e : t2 = t := by omega
  rw [e]; exact h
theorem RP.rt (h : RP σ a k) (hw : WT T σ) (ha : OB T a 5) : RT σ a := fun t q => h.tk hw ha q
theorem RT.frc (h : RT σ a) (f : FrC T ks σ τ) (h1 : 33 ∉ ks) (h4 : 84 ∉ ks) (h5 : 85 ∉ ks) : RT τ a := fun t q => by
  rw [f.1 33 (by omega) h1] at q
  have w := h t q
  unfold TKI at *
  rw [f.1 84 (by omega) h4, f.1 85 (by omega) h5]
  exact w
theorem RP.new (ht : RT σ a) (hw : WT T σ) (ha : OB T a 5) (hc : σ.2.1 35 a = (c : Int)) (h6 : σ.2.1 6 c = 0) : RP σ a 4 := fun t c2 q r => by
  have e : c2 = c := by omega
  rw [e, h6]
  refine ⟨ht t q, ?_⟩
  obtain ⟨t2, ht2, hk2⟩ := wf_33 hw ha
  have e2 : t2 = t := by omega
  rw [e2] at hk2
  have ob : OB T t 9 := ⟨by omega, by rw [hk2]; rfl, by omega⟩
  have w := wf_84 hw ob
  omega
end RTS
end
section
theorem cd_X5_numberNew : Cond.code yX5_numberNew cX5_numberNew 3 none ∈ pWW := pw3 (List.mem_of_getElem? (i := 233) rfl) rfl
abbrev m_X5_numberNew : MT := (yX5_numberNew, cX5_numberNew, 3, none)
theorem ok_X5_numberNew : pOk m_X5_numberNew := ⟨⟨cd_X5_numberNew, ini_5⟩, by decide +kernel, ⟨by decide +kernel, by decide +kernel⟩, Nat.le_of_ble_eq_true rfl⟩
theorem np_X5_numberNew : (parseMethodDescriptor yX5_numberNew.desc).map (fun d => d.parameters.length) = some 1 := by decide +kernel
theorem im_X5_numberNew : Cond.instanceMethod yX5_numberNew ∈ pWW := pw3 (List.mem_of_getElem? (i := 232) rfl) rfl
theorem se_X5_numberNew : Cond.selects RX5 yX5_numberNew yX5_numberNew ∈ pWW := pws (List.mem_map.mpr ⟨_, lw_pin 32 rfl, rfl⟩) rfl
theorem ml5_161 : Cond.methodLink RX5 161 yX1_writtenBy ∈ pWW := pw3 (List.mem_of_getElem? (i := 234) rfl) rfl
theorem ml5_164 : Cond.methodLink RX5 164 yX1_get ∈ pWW := pw4 (List.mem_of_getElem? (i := 9) rfl) rfl
theorem ml5_167 : Cond.methodLink RX5 167 yX1_set ∈ pWW := pw4 (List.mem_of_getElem? (i := 10) rfl) rfl
theorem dX5_numberNew_0 : decode cX5_numberNew 0 = .ok (.aload_n 0, 1) := by decide +kernel
theorem dX5_numberNew_1 : decode cX5_numberNew 1 = .ok (.getfield 47, 3) := by decide +kernel
theorem dX5_numberNew_4 : decode cX5_numberNew 4 = .ok (.iload_n 1, 1) := by decide +kernel
theorem dX5_numberNew_5 : decode cX5_numberNew 5 = .ok (.invokevirtual 161, 3) := by decide +kernel
theorem dX5_numberNew_8 : decode cX5_numberNew 8 = .ok (.sipush 1000, 3) := by decide +kernel
theorem dX5_numberNew_11 : decode cX5_numberNew 11 = .ok (.if_icmp .lt 33, 3) := by decide +kernel
theorem dX5_numberNew_44 : decode cX5_numberNew 44 = .ok (.iconst 3, 1) := by decide +kernel
theorem dX5_numberNew_45 : decode cX5_numberNew 45 = .ok (.istore_n 2, 1) := by decide +kernel
theorem dX5_numberNew_46 : decode cX5_numberNew 46 = .ok (.iload_n 2, 1) := by decide +kernel
theorem dX5_numberNew_47 : decode cX5_numberNew 47 = .ok (.bipush 11, 2) := by decide +kernel
theorem dX5_numberNew_49 : decode cX5_numberNew 49 = .ok (.if_icmp .ge 73, 3) := by decide +kernel
theorem dX5_numberNew_52 : decode cX5_numberNew 52 = .ok (.aload_n 0, 1) := by decide +kernel
theorem dX5_numberNew_53 : decode cX5_numberNew 53 = .ok (.getfield 47, 3) := by decide +kernel
theorem dX5_numberNew_56 : decode cX5_numberNew 56 = .ok (.iload_n 1, 1) := by decide +kernel
theorem dX5_numberNew_57 : decode cX5_numberNew 57 = .ok (.iload_n 2, 1) := by decide +kernel
theorem dX5_numberNew_58 : decode cX5_numberNew 58 = .ok (.invokevirtual 164, 3) := by decide +kernel
theorem dX5_numberNew_61 : decode cX5_numberNew 61 = .ok (.iconst 2, 1) := by decide +kernel
theorem dX5_numberNew_62 : decode cX5_numberNew 62 = .ok (.if_icmp .ne 54, 3) := by decide +kernel
theorem dX5_numberNew_116 : decode cX5_numberNew 116 = .ok (.iinc 2 2, 3) := by decide +kernel
theorem dX5_numberNew_119 : decode cX5_numberNew 119 = .ok (.goto (-73), 3) := by decide +kernel
theorem dX5_numberNew_65 : decode cX5_numberNew 65 = .ok (.aload_n 0, 1) := by decide +kernel
theorem dX5_numberNew_66 : decode cX5_numberNew 66 = .ok (.getfield 47, 3) := by decide +kernel
theorem dX5_numberNew_69 : decode cX5_numberNew 69 = .ok (.iload_n 1, 1) := by decide +kernel
theorem dX5_numberNew_70 : decode cX5_numberNew 70 = .ok (.iload_n 2, 1) := by decide +kernel
theorem dX5_numberNew_71 : decode cX5_numberNew 71 = .ok (.iconst 1, 1) := by decide +kernel
theorem dX5_numberNew_72 : decode cX5_numberNew 72 = .ok (.iadd, 1) := by decide +kernel
theorem dX5_numberNew_73 : decode cX5_numberNew 73 = .ok (.invokevirtual 164, 3) := by decide +kernel
theorem dX5_numberNew_76 : decode cX5_numberNew 76 = .ok (.sipush 1000, 3) := by decide +kernel
theorem dX5_numberNew_79 : decode cX5_numberNew 79 = .ok (.if_icmp .lt 37, 3) := by decide +kernel
theorem dX5_numberNew_82 : decode cX5_numberNew 82 = .ok (.aload_n 0, 1) := by decide +kernel
theorem dX5_numberNew_83 : decode cX5_numberNew 83 = .ok (.getfield 47, 3) := by decide +kernel
theorem dX5_numberNew_86 : decode cX5_numberNew 86 = .ok (.iload_n 1, 1) := by decide +kernel
theorem dX5_numberNew_87 : decode cX5_numberNew 87 = .ok (.iload_n 2, 1) := by decide +kernel
theorem dX5_numberNew_88 : decode cX5_numberNew 88 = .ok (.iconst 1, 1) := by decide +kernel
theorem dX5_numberNew_89 : decode cX5_numberNew 89 = .ok (.iadd, 1) := by decide +kernel
theorem dX5_numberNew_90 : decode cX5_numberNew 90 = .ok (.aload_n 0, 1) := by decide +kernel
theorem dX5_numberNew_91 : decode cX5_numberNew 91 = .ok (.getfield 47, 3) := by decide +kernel
theorem dX5_numberNew_94 : decode cX5_numberNew 94 = .ok (.iload_n 1, 1) := by decide +kernel
theorem dX5_numberNew_95 : decode cX5_numberNew 95 = .ok (.iload_n 2, 1) := by decide +kernel
theorem dX5_numberNew_96 : decode cX5_numberNew 96 = .ok (.iconst 1, 1) := by decide +kernel
theorem dX5_numberNew_97 : decode cX5_numberNew 97 = .ok (.iadd, 1) := by decide +kernel
theorem dX5_numberNew_98 : decode cX5_numberNew 98 = .ok (.invokevirtual 164, 3) := by decide +kernel
theorem dX5_numberNew_101 : decode cX5_numberNew 101 = .ok (.sipush 1000, 3) := by decide +kernel
theorem dX5_numberNew_104 : decode cX5_numberNew 104 = .ok (.isub, 1) := by decide +kernel
theorem dX5_numberNew_105 : decode cX5_numberNew 105 = .ok (.aload_n 0, 1) := by decide +kernel
theorem dX5_numberNew_106 : decode cX5_numberNew 106 = .ok (.getfield 47, 3) := by decide +kernel
theorem dX5_numberNew_109 : decode cX5_numberNew 109 = .ok (.getfield 152, 3) := by decide +kernel
theorem dX5_numberNew_112 : decode cX5_numberNew 112 = .ok (.iadd, 1) := by decide +kernel
theorem dX5_numberNew_113 : decode cX5_numberNew 113 = .ok (.invokevirtual 167, 3) := by decide +kernel
set_option maxRecDepth 20000 in
theorem l_X5_numberNew_46 (d : Nat) {T : CT} {σ0 : MS} {a : Nat} {c1 : Int} {post : Option Value → CT → MS → Prop} (h_a : OB T a 5) (r_c1 : -2147483648 ≤ c1 ∧ c1 ≤ 2147483647) (hw0 : WT T σ0) (hx_122 : ∀ (i2 : Int) (σ : MS) , (WT T σ) → (FrC T [] σ0 σ) → (3 ≤ i2 ∧ i2 ≤ 2147483647) → Tn (d + 3) m_X5_numberNew 122 T σ [(0, .ref a), (1, .int (iI c1)), (2, .int (iI i2))] [] post) : ∀ (n : Nat) (i2 : Int) (σ : MS) , (WT T σ) → (FrC T [] σ0 σ) → (3 ≤ i2 ∧ i2 ≤ 2147483647) → (2147483700 - i2).toNat = n → Tn (d + 3) m_X5_numberNew 46 T σ [(0, .ref a), (1, .int (iI c1)), (2, .int (iI i2))] [] post := by
  intro n
  induction n using Nat.strongRecOn with
  | _ n ih =>
    intro i2 σ hw hF r_i2 hm
    refine tn_iload_n dX5_numberNew_46 rfl 2 rfl ?_
    refine tn_bipush dX5_numberNew_47 (by decide) ?_
    refine tn_icmp_ge (tgt := 122) dX5_numberNew_49 (by decide) ⟨by omega, by omega⟩ ⟨by decide, by decide⟩ (fun h1 => ?_) (fun h1 => ?_)
    · exact tn_sub [0, 1, 2] rfl (hx_122 (i2) σ hw (FrC.rfl.trans (FrC.sub hF (by decide))) (by omega))
    · refine tn_aload_n dX5_numberNew_52 rfl 0 rfl ?_
      obtain ⟨x2, hx3, hk4⟩ : ∃ x : Nat, σ0.2.1 35 a = (x : Int) ∧ (T x).1 = 31 := wf_35 hw0 h_a
      have hk4o : OB T x2 1 := ⟨by omega, by rw [hk4]; rfl, by omega⟩
      refine tn_getR (ci := 5) (i := 2) (n := 35) (x := x2) dX5_numberNew_53 rfl lay_5 (by decide) fl5_47 h_a rfl rfl (rc_F hF (Or.inl (by decide)) (by decide) (hx3)) ?_
      refine tn_iload_n dX5_numberNew_56 rfl 1 rfl ?_
      refine tn_iload_n dX5_numberNew_57 rfl 2 rfl ?_
      refine tn_callV (M := m_X5_numberNew) (pc := 58) (ix := 164) (ci := 1) (M' := m_X1_get) (As := [.int (iI c1), .int (iI i2)]) (rest := []) dX5_numberNew_58 ok_X1_get im_X1_get se_X1_get ml5_164 np_X1_get rfl rfl hk4o rfl (Nat.le_of_ble_eq_true rfl) (Nat.le_of_ble_eq_true rfl) rfl (k_X1_get (d + 1) (T := T) (σ := σ) (a := x2) (k := c1) (c := i2) hk4o (by omega) (by omega) hw (by omega)) (fun r6 T8 σ7 gt9 hp => ?_)
      obtain ⟨v11, rfl, rfl, rfl, f10⟩ := hp
      clear gt9
      show Tn _ _ 61 T σ [(0, .ref a), (1, .int (iI c1)), (2, .int (iI i2))] [.int (iI v11)] _
      refine tn_iconst dX5_numberNew_61 ?_
      refine tn_icmp_ne (tgt := 116) dX5_numberNew_62 (by decide) ⟨by omega, by omega⟩ ⟨by decide, by decide⟩ (fun h12 => ?_) (fun h12 => ?_)
      · refine tn_iinc (q0 := 2) (L' := [(2, .int (iI (i2 + 2))), (0, .ref a), (1, .int (iI c1))]) dX5_numberNew_116 rfl (by decide) rfl ?_
        refine tn_goto (tgt := 46) dX5_numberNew_119 (by decide) ?_
        exact tn_sub [1, 2, 0] rfl (ih _ (by omega) (i2 + 2) σ hw (FrC.rfl.trans (FrC.sub hF (by decide))) (by omega) rfl)
      · refine tn_aload_n dX5_numberNew_65 rfl 0 rfl ?_
        refine tn_getR (ci := 5) (i := 2) (n := 35) (x := x2) dX5_numberNew_66 rfl lay_5 (by decide) fl5_47 h_a rfl rfl (rc_F hF (Or.inl (by decide)) (by decide) (hx3)) ?_
        refine tn_iload_n dX5_numberNew_69 rfl 1 rfl ?_
        refine tn_iload_n dX5_numberNew_70 rfl 2 rfl ?_
        refine tn_iconst dX5_numberNew_71 ?_
        refine tn_iadd dX5_numberNew_72 ?_
        refine tn_callV (M := m_X5_numberNew) (pc := 73) (ix := 164) (ci := 1) (M' := m_X1_get) (As := [.int (iI c1), .int (iI (i2 + 1))]) (rest := []) dX5_numberNew_73 ok_X1_get im_X1_get se_X1_get ml5_164 np_X1_get rfl rfl hk4o rfl (Nat.le_of_ble_eq_true rfl) (Nat.le_of_ble_eq_true rfl) rfl (k_X1_get (d + 1) (T := T) (σ := σ) (a := x2) (k := c1) (c := i2 + 1) hk4o (by omega) (by omega) hw (by omega)) (fun r13 T15 σ14 gt16 hp => ?_)
        obtain ⟨v18, rfl, rfl, rfl, f17⟩ := hp
        clear gt16
        show Tn _ _ 76 T σ [(0, .ref a), (1, .int (iI c1)), (2, .int (iI i2))] [.int (iI v18)] _
        refine tn_sipush dX5_numberNew_76 (by decide) ?_
        refine tn_icmp_lt (tgt := 116) dX5_numberNew_79 (by decide) ⟨by omega, by omega⟩ ⟨by decide, by decide⟩ (fun h19 => ?_) (fun h19 => ?_)
        · refine tn_iinc (q0 := 2) (L' := [(2, .int (iI (i2 + 2))), (0, .ref a), (1, .int (iI c1))]) dX5_numberNew_116 rfl (by decide) rfl ?_
          refine tn_goto (tgt := 46) dX5_numberNew_119 (by decide) ?_
          exact tn_sub [1, 2, 0] rfl (ih _ (by omega) (i2 + 2) σ hw (FrC.rfl.trans (FrC.sub hF (by decide))) (by omega) rfl)
        · refine tn_aload_n dX5_numberNew_82 rfl 0 rfl ?_
          refine tn_getR (ci := 5) (i := 2) (n := 35) (x := x2) dX5_numberNew_83 rfl lay_5 (by decide) fl5_47 h_a rfl rfl (rc_F hF (Or.inl (by decide)) (by decide) (hx3)) ?_
          refine tn_iload_n dX5_numberNew_86 rfl 1 rfl ?_
          refine tn_iload_n dX5_numberNew_87 rfl 2 rfl ?_
          refine tn_iconst dX5_numberNew_88 ?_
          refine tn_iadd dX5_numberNew_89 ?_
          refine tn_aload_n dX5_numberNew_90 rfl 0 rfl ?_
          refine tn_getR (ci := 5) (i := 2) (n := 35) (x := x2) dX5_numberNew_91 rfl lay_5 (by decide) fl5_47 h_a rfl rfl (rc_F hF (Or.inl (by decide)) (by decide) (hx3)) ?_
          refine tn_iload_n dX5_numberNew_94 rfl 1 rfl ?_
          refine tn_iload_n dX5_numberNew_95 rfl 2 rfl ?_
          refine tn_iconst dX5_numberNew_96 ?_
          refine tn_iadd dX5_numberNew_97 ?_
          refine tn_callV (M := m_X5_numberNew) (pc := 98) (ix := 164) (ci := 1) (M' := m_X1_get) (As := [.int (iI c1), .int (iI (i2 + 1))]) (rest := [.int (iI (i2 + 1)), .int (iI c1), .ref x2]) dX5_numberNew_98 ok_X1_get im_X1_get se_X1_get ml5_164 np_X1_get rfl rfl hk4o rfl (Nat.le_of_ble_eq_true rfl) (Nat.le_of_ble_eq_true rfl) rfl (k_X1_get (d + 1) (T := T) (σ := σ) (a := x2) (k := c1) (c := i2 + 1) hk4o (by omega) (by omega) hw (by omega)) (fun r20 T22 σ21 gt23 hp => ?_)
          obtain ⟨v25, rfl, rfl, rfl, f24⟩ := hp
          clear gt23
          show Tn _ _ 101 T σ [(0, .ref a), (1, .int (iI c1)), (2, .int (iI i2))] [.int (iI v25), .int (iI (i2 + 1)), .int (iI c1), .ref x2] _
          refine tn_sipush dX5_numberNew_101 (by decide) ?_
          refine tn_isub dX5_numberNew_104 ?_
          refine tn_any (fun z26 g27 => ?_)
          have g27r : -2147483648 ≤ z26 ∧ z26 ≤ 2147483647 := g27
          refine tn_aload_n dX5_numberNew_105 rfl 0 rfl ?_
          refine tn_getR (ci := 5) (i := 2) (n := 35) (x := x2) dX5_numberNew_106 rfl lay_5 (by decide) fl5_47 h_a rfl rfl (rc_F hF (Or.inl (by decide)) (by decide) (hx3)) ?_
          refine tn_getI (ci := 1) (i := 2) (n := 7) (t := σ0.2.1 7 x2) dX5_numberNew_109 rfl lay_1 (by decide) fl5_152 hk4o rfl rfl (rc_F hF (Or.inl (by decide)) (by decide) (rfl)) ?_
          have g28 : ((0 : Int) ≤ σ0.2.1 7 x2 ∧ σ0.2.1 7 x2 ≤ 12) := wf_7 hw0 hk4o
          refine tn_iadd dX5_numberNew_112 ?_
          refine tn_any (fun z29 g30 => ?_)
          have g30r : -2147483648 ≤ z29 ∧ z29 ≤ 2147483647 := g30
          refine tn_callV (M := m_X5_numberNew) (pc := 113) (ix := 167) (ci := 1) (M' := m_X1_set) (As := [.int (iI c1), .int (iI (i2 + 1)), .int (iI z29)]) (rest := []) dX5_numberNew_113 ok_X1_set im_X1_set se_X1_set ml5_167 np_X1_set rfl rfl hk4o rfl (Nat.le_of_ble_eq_true rfl) (Nat.le_of_ble_eq_true rfl) rfl (k_X1_set (d + 1) (T := T) (σ := σ) (a := x2) (k := c1) (c := i2 + 1) (y := z29) hk4o (by omega) (by omega) (by omega) hw (by omega) (by omega)) (fun r31 T33 σ32 gt34 hp => ?_)
          obtain ⟨rfl, rfl, w36, F37⟩ := hp
          clear gt34
          show Tn _ _ 116 T σ32 [(0, .ref a), (1, .int (iI c1)), (2, .int (iI i2))] [] _
          refine tn_iinc (q0 := 2) (L' := [(2, .int (iI (i2 + 2))), (0, .ref a), (1, .int (iI c1))]) dX5_numberNew_116 rfl (by decide) rfl ?_
          refine tn_goto (tgt := 46) dX5_numberNew_119 (by decide) ?_
          exact tn_sub [1, 2, 0] rfl (ih _ (by omega) (i2 + 2) σ32 w36 ((FrC.rfl.trans (FrC.sub hF (by decide))).trans (FrC.sub F37 (by decide))) (by omega) rfl)
theorem dX5_numberNew_122 : decode cX5_numberNew 122 = .ok (.return_, 1) := by decide +kernel
theorem dX5_numberNew_14 : decode cX5_numberNew 14 = .ok (.aload_n 0, 1) := by decide +kernel
theorem dX5_numberNew_15 : decode cX5_numberNew 15 = .ok (.getfield 47, 3) := by decide +kernel
theorem dX5_numberNew_18 : decode cX5_numberNew 18 = .ok (.iload_n 1, 1) := by decide +kernel
theorem dX5_numberNew_19 : decode cX5_numberNew 19 = .ok (.iconst 1, 1) := by decide +kernel
theorem dX5_numberNew_20 : decode cX5_numberNew 20 = .ok (.aload_n 0, 1) := by decide +kernel
theorem dX5_numberNew_21 : decode cX5_numberNew 21 = .ok (.getfield 47, 3) := by decide +kernel
theorem dX5_numberNew_24 : decode cX5_numberNew 24 = .ok (.iload_n 1, 1) := by decide +kernel
theorem dX5_numberNew_25 : decode cX5_numberNew 25 = .ok (.iconst 1, 1) := by decide +kernel
theorem dX5_numberNew_26 : decode cX5_numberNew 26 = .ok (.invokevirtual 164, 3) := by decide +kernel
theorem dX5_numberNew_29 : decode cX5_numberNew 29 = .ok (.sipush 1000, 3) := by decide +kernel
theorem dX5_numberNew_32 : decode cX5_numberNew 32 = .ok (.isub, 1) := by decide +kernel
theorem dX5_numberNew_33 : decode cX5_numberNew 33 = .ok (.aload_n 0, 1) := by decide +kernel
theorem dX5_numberNew_34 : decode cX5_numberNew 34 = .ok (.getfield 47, 3) := by decide +kernel
theorem dX5_numberNew_37 : decode cX5_numberNew 37 = .ok (.getfield 152, 3) := by decide +kernel
theorem dX5_numberNew_40 : decode cX5_numberNew 40 = .ok (.iadd, 1) := by decide +kernel
theorem dX5_numberNew_41 : decode cX5_numberNew 41 = .ok (.invokevirtual 167, 3) := by decide +kernel
set_option maxRecDepth 20000 in
theorem k_X5_numberNew (d : Nat) {T : CT} {σ : MS} {a : Nat} {k : Int} (ha : OB T a 5) (h_k : -2147483648 ≤ k ∧ k ≤ 2147483647) (hw : WT T σ) : Tn (d + 3) m_X5_numberNew 0 T σ [(0, .ref a), (1, .int (iI k))] [] (fun ro T2 σ2 => ro = none ∧ T = T2 ∧ WT T2 σ2 ∧ FrC T [] σ σ2) := by
  refine tn_aload_n dX5_numberNew_0 rfl 0 rfl ?_
  obtain ⟨x1, hx2, hk3⟩ : ∃ x : Nat, σ.2.1 35 a = (x : Int) ∧ (T x).1 = 31 := wf_35 hw ha
  have hk3o : OB T x1 1 := ⟨by omega, by rw [hk3]; rfl, by omega⟩
  refine tn_getR (ci := 5) (i := 2) (n := 35) (x := x1) dX5_numberNew_1 rfl lay_5 (by decide) fl5_47 ha rfl rfl (hx2) ?_
  refine tn_iload_n dX5_numberNew_4 rfl 1 rfl ?_
  refine tn_callV (M := m_X5_numberNew) (pc := 5) (ix := 161) (ci := 1) (M' := m_X1_writtenBy) (As := [.int (iI k)]) (rest := []) dX5_numberNew_5 ok_X1_writtenBy im_X1_writtenBy se_X1_writtenBy ml5_161 np_X1_writtenBy rfl rfl hk3o rfl (Nat.le_of_ble_eq_true rfl) (Nat.le_of_ble_eq_true rfl) rfl (k_X1_writtenBy (d) (T := T) (σ := σ) (a := x1) (k := k) hk3o (by omega) hw ) (fun r5 T7 σ6 gt8 hp => ?_)
  obtain ⟨v10, rfl, rfl, rfl, f9⟩ := hp
  clear gt8
  show Tn _ _ 8 T σ [(0, .ref a), (1, .int (iI k))] [.int (iI v10)] _
  refine tn_sipush dX5_numberNew_8 (by decide) ?_
  refine tn_icmp_lt (tgt := 44) dX5_numberNew_11 (by decide) ⟨by omega, by omega⟩ ⟨by decide, by decide⟩ (fun h11 => ?_) (fun h11 => ?_)
  · refine tn_iconst dX5_numberNew_44 ?_
    refine tn_istore_n (L' := [(2, .int (iI 3)), (0, .ref a), (1, .int (iI k))]) dX5_numberNew_45 rfl (by decide) rfl ?_
    refine tn_sub [1, 2, 0] rfl (l_X5_numberNew_46 (d) (T := T) (σ0 := σ) (a := a) (c1 := k) ha (by omega) hw (fun i212 σ13 w16 F17 r18 => ?_) _ (3) σ hw FrC.rfl (by omega) rfl)
    show Tn _ _ 122 T σ13 [(0, .ref a), (1, .int (iI k)), (2, .int (iI i212))] [] _
    exact tn_vret rfl dX5_numberNew_122 ⟨rfl, rfl, w16, (FrC.rfl.trans (FrC.sub F17 (by decide)))⟩
  · refine tn_aload_n dX5_numberNew_14 rfl 0 rfl ?_
    refine tn_getR (ci := 5) (i := 2) (n := 35) (x := x1) dX5_numberNew_15 rfl lay_5 (by decide) fl5_47 ha rfl rfl (hx2) ?_
    refine tn_iload_n dX5_numberNew_18 rfl 1 rfl ?_
    refine tn_iconst dX5_numberNew_19 ?_
    refine tn_aload_n dX5_numberNew_20 rfl 0 rfl ?_
    refine tn_getR (ci := 5) (i := 2) (n := 35) (x := x1) dX5_numberNew_21 rfl lay_5 (by decide) fl5_47 ha rfl rfl (hx2) ?_
    refine tn_iload_n dX5_numberNew_24 rfl 1 rfl ?_
    refine tn_iconst dX5_numberNew_25 ?_
    refine tn_callV (M := m_X5_numberNew) (pc := 26) (ix := 164) (ci := 1) (M' := m_X1_get) (As := [.int (iI k), .int (iI 1)]) (rest := [.int (iI 1), .int (iI k), .ref x1]) dX5_numberNew_26 ok_X1_get im_X1_get se_X1_get ml5_164 np_X1_get rfl rfl hk3o rfl (Nat.le_of_ble_eq_true rfl) (Nat.le_of_ble_eq_true rfl) rfl (k_X1_get (d + 1) (T := T) (σ := σ) (a := x1) (k := k) (c := 1) hk3o (by omega) (by decide) hw (by omega)) (fun r19 T21 σ20 gt22 hp => ?_)
    obtain ⟨v24, rfl, rfl, rfl, f23⟩ := hp
    clear gt22
    show Tn _ _ 29 T σ [(0, .ref a), (1, .int (iI k))] [.int (iI v24), .int (iI 1), .int (iI k), .ref x1] _
    refine tn_sipush dX5_numberNew_29 (by decide) ?_
    refine tn_isub dX5_numberNew_32 ?_
    refine tn_any (fun z25 g26 => ?_)
    have g26r : -2147483648 ≤ z25 ∧ z25 ≤ 2147483647 := g26
    refine tn_aload_n dX5_numberNew_33 rfl 0 rfl ?_
    refine tn_getR (ci := 5) (i := 2) (n := 35) (x := x1) dX5_numberNew_34 rfl lay_5 (by decide) fl5_47 ha rfl rfl (hx2) ?_
    refine tn_getI (ci := 1) (i := 2) (n := 7) (t := σ.2.1 7 x1) dX5_numberNew_37 rfl lay_1 (by decide) fl5_152 hk3o rfl rfl (rfl) ?_
    have g27 : ((0 : Int) ≤ σ.2.1 7 x1 ∧ σ.2.1 7 x1 ≤ 12) := wf_7 hw hk3o
    refine tn_iadd dX5_numberNew_40 ?_
    refine tn_any (fun z28 g29 => ?_)
    have g29r : -2147483648 ≤ z28 ∧ z28 ≤ 2147483647 := g29
    refine tn_callV (M := m_X5_numberNew) (pc := 41) (ix := 167) (ci := 1) (M' := m_X1_set) (As := [.int (iI k), .int (iI 1), .int (iI z28)]) (rest := []) dX5_numberNew_41 ok_X1_set im_X1_set se_X1_set ml5_167 np_X1_set rfl rfl hk3o rfl (Nat.le_of_ble_eq_true rfl) (Nat.le_of_ble_eq_true rfl) rfl (k_X1_set (d + 1) (T := T) (σ := σ) (a := x1) (k := k) (c := 1) (y := z28) hk3o (by omega) (by decide) (by omega) hw (by omega) (by omega)) (fun r30 T32 σ31 gt33 hp => ?_)
    obtain ⟨rfl, rfl, w35, F36⟩ := hp
    clear gt33
    show Tn _ _ 44 T σ31 [(0, .ref a), (1, .int (iI k))] [] _
    refine tn_iconst dX5_numberNew_44 ?_
    refine tn_istore_n (L' := [(2, .int (iI 3)), (0, .ref a), (1, .int (iI k))]) dX5_numberNew_45 rfl (by decide) rfl ?_
    refine tn_sub [1, 2, 0] rfl (l_X5_numberNew_46 (d) (T := T) (σ0 := σ31) (a := a) (c1 := k) ha (by omega) w35 (fun i237 σ38 w41 F42 r43 => ?_) _ (3) σ31 w35 FrC.rfl (by omega) rfl)
    show Tn _ _ 122 T σ38 [(0, .ref a), (1, .int (iI k)), (2, .int (iI i237))] [] _
    exact tn_vret rfl dX5_numberNew_122 ⟨rfl, rfl, w41, ((FrC.rfl.trans (FrC.sub F36 (by decide))).trans (FrC.sub F42 (by decide)))⟩
end
section
theorem cd_X5_openRoutine : Cond.code yX5_openRoutine cX5_openRoutine 3 none ∈ pWW := pw3 (List.mem_of_getElem? (i := 72) rfl) rfl
abbrev m_X5_openRoutine : MT := (yX5_openRoutine, cX5_openRoutine, 3, none)
theorem ok_X5_openRoutine : pOk m_X5_openRoutine := ⟨⟨cd_X5_openRoutine, ini_5⟩, by decide +kernel, ⟨by decide +kernel, by decide +kernel⟩, Nat.le_of_ble_eq_true rfl⟩
theorem np_X5_openRoutine : (parseMethodDescriptor yX5_openRoutine.desc).map (fun d => d.parameters.length) = some 1 := by decide +kernel
theorem im_X5_openRoutine : Cond.instanceMethod yX5_openRoutine ∈ pWW := pw3 (List.mem_of_getElem? (i := 71) rfl) rfl
theorem se_X5_openRoutine : Cond.selects RX5 yX5_openRoutine yX5_openRoutine ∈ pWW := pws (List.mem_map.mpr ⟨_, lw_pin 6 rfl, rfl⟩) rfl
theorem ml5_109 : Cond.methodLink RX5 109 yX5_routineOf ∈ pWW := pw3 (List.mem_of_getElem? (i := 73) rfl) rfl
theorem mlm5_123 : Cond.methodLink RX5 123 Lib.Math.max.name ∈ pWW := pw3 (List.mem_of_getElem? (i := 85) rfl) rfl
theorem ml5_126 : Cond.methodLink RX5 126 yX1_empty ∈ pWW := pw3 (List.mem_of_getElem? (i := 86) rfl) rfl
theorem fl5_28 : Cond.fieldLink RX5 28 (TX5 4).1 (TX5 4).2.1 (TX5 4).2.2.1 ∈ pWW := pw1 (List.mem_of_getElem? (i := 157) rfl) rfl
theorem dX5_openRoutine_0 : decode cX5_openRoutine 0 = .ok (.aload_n 0, 1) := by decide +kernel
theorem dX5_openRoutine_1 : decode cX5_openRoutine 1 = .ok (.iload_n 1, 1) := by decide +kernel
theorem dX5_openRoutine_2 : decode cX5_openRoutine 2 = .ok (.invokevirtual 109, 3) := by decide +kernel
theorem dX5_openRoutine_5 : decode cX5_openRoutine 5 = .ok (.iconst (-1), 1) := by decide +kernel
theorem dX5_openRoutine_6 : decode cX5_openRoutine 6 = .ok (.if_icmp .eq 15, 3) := by decide +kernel
theorem dX5_openRoutine_21 : decode cX5_openRoutine 21 = .ok (.aload_n 0, 1) := by decide +kernel
theorem dX5_openRoutine_22 : decode cX5_openRoutine 22 = .ok (.getfield 58, 3) := by decide +kernel
theorem dX5_openRoutine_25 : decode cX5_openRoutine 25 = .ok (.bipush 6, 2) := by decide +kernel
theorem dX5_openRoutine_27 : decode cX5_openRoutine 27 = .ok (.if_icmp .lt 15, 3) := by decide +kernel
theorem dX5_openRoutine_42 : decode cX5_openRoutine 42 = .ok (.iconst 0, 1) := by decide +kernel
theorem dX5_openRoutine_43 : decode cX5_openRoutine 43 = .ok (.aload_n 0, 1) := by decide +kernel
theorem dX5_openRoutine_44 : decode cX5_openRoutine 44 = .ok (.getfield 58, 3) := by decide +kernel
theorem dX5_openRoutine_47 : decode cX5_openRoutine 47 = .ok (.aload_n 0, 1) := by decide +kernel
theorem dX5_openRoutine_48 : decode cX5_openRoutine 48 = .ok (.getfield 20, 3) := by decide +kernel
theorem dX5_openRoutine_51 : decode cX5_openRoutine 51 = .ok (.arraylength, 1) := by decide +kernel
theorem dX5_openRoutine_52 : decode cX5_openRoutine 52 = .ok (.iconst 1, 1) := by decide +kernel
theorem dX5_openRoutine_53 : decode cX5_openRoutine 53 = .ok (.isub, 1) := by decide +kernel
theorem dX5_openRoutine_54 : decode cX5_openRoutine 54 = .ok (.invokestatic 117, 3) := by decide +kernel
theorem dX5_openRoutine_57 : decode cX5_openRoutine 57 = .ok (.invokestatic 123, 3) := by decide +kernel
theorem dX5_openRoutine_60 : decode cX5_openRoutine 60 = .ok (.istore_n 2, 1) := by decide +kernel
theorem dX5_openRoutine_61 : decode cX5_openRoutine 61 = .ok (.aload_n 0, 1) := by decide +kernel
theorem dX5_openRoutine_62 : decode cX5_openRoutine 62 = .ok (.aload_n 0, 1) := by decide +kernel
theorem dX5_openRoutine_63 : decode cX5_openRoutine 63 = .ok (.getfield 20, 3) := by decide +kernel
theorem dX5_openRoutine_66 : decode cX5_openRoutine 66 = .ok (.iload_n 2, 1) := by decide +kernel
theorem dX5_openRoutine_67 : decode cX5_openRoutine 67 = .ok (.aaload, 1) := by decide +kernel
theorem dX5_openRoutine_68 : decode cX5_openRoutine 68 = .ok (.putfield 47, 3) := by decide +kernel
theorem dX5_openRoutine_71 : decode cX5_openRoutine 71 = .ok (.aload_n 0, 1) := by decide +kernel
theorem dX5_openRoutine_72 : decode cX5_openRoutine 72 = .ok (.getfield 47, 3) := by decide +kernel
theorem dX5_openRoutine_75 : decode cX5_openRoutine 75 = .ok (.iload_n 2, 1) := by decide +kernel
theorem dX5_openRoutine_76 : decode cX5_openRoutine 76 = .ok (.invokevirtual 126, 3) := by decide +kernel
theorem dX5_openRoutine_79 : decode cX5_openRoutine 79 = .ok (.aload_n 0, 1) := by decide +kernel
theorem dX5_openRoutine_80 : decode cX5_openRoutine 80 = .ok (.getfield 24, 3) := by decide +kernel
theorem dX5_openRoutine_83 : decode cX5_openRoutine 83 = .ok (.aload_n 0, 1) := by decide +kernel
theorem dX5_openRoutine_84 : decode cX5_openRoutine 84 = .ok (.getfield 58, 3) := by decide +kernel
theorem dX5_openRoutine_87 : decode cX5_openRoutine 87 = .ok (.iload_n 1, 1) := by decide +kernel
theorem dX5_openRoutine_88 : decode cX5_openRoutine 88 = .ok (.invokestatic 129, 3) := by decide +kernel
theorem dX5_openRoutine_91 : decode cX5_openRoutine 91 = .ok (.aload_n 0, 1) := by decide +kernel
theorem dX5_openRoutine_92 : decode cX5_openRoutine 92 = .ok (.getfield 28, 3) := by decide +kernel
theorem dX5_openRoutine_95 : decode cX5_openRoutine 95 = .ok (.aload_n 0, 1) := by decide +kernel
theorem dX5_openRoutine_96 : decode cX5_openRoutine 96 = .ok (.getfield 58, 3) := by decide +kernel
theorem dX5_openRoutine_99 : decode cX5_openRoutine 99 = .ok (.iconst 0, 1) := by decide +kernel
theorem dX5_openRoutine_100 : decode cX5_openRoutine 100 = .ok (.invokestatic 129, 3) := by decide +kernel
theorem dX5_openRoutine_103 : decode cX5_openRoutine 103 = .ok (.aload_n 0, 1) := by decide +kernel
theorem dX5_openRoutine_104 : decode cX5_openRoutine 104 = .ok (.aload_n 0, 1) := by decide +kernel
theorem dX5_openRoutine_105 : decode cX5_openRoutine 105 = .ok (.getfield 58, 3) := by decide +kernel
theorem dX5_openRoutine_108 : decode cX5_openRoutine 108 = .ok (.iconst 1, 1) := by decide +kernel
theorem dX5_openRoutine_109 : decode cX5_openRoutine 109 = .ok (.iadd, 1) := by decide +kernel
theorem dX5_openRoutine_110 : decode cX5_openRoutine 110 = .ok (.sipush 256, 3) := by decide +kernel
theorem dX5_openRoutine_113 : decode cX5_openRoutine 113 = .ok (.invokestatic 117, 3) := by decide +kernel
theorem dX5_openRoutine_116 : decode cX5_openRoutine 116 = .ok (.putfield 58, 3) := by decide +kernel
theorem dX5_openRoutine_119 : decode cX5_openRoutine 119 = .ok (.aload_n 0, 1) := by decide +kernel
theorem dX5_openRoutine_120 : decode cX5_openRoutine 120 = .ok (.iconst 0, 1) := by decide +kernel
theorem dX5_openRoutine_121 : decode cX5_openRoutine 121 = .ok (.putfield 133, 3) := by decide +kernel
theorem dX5_openRoutine_124 : decode cX5_openRoutine 124 = .ok (.aload_n 0, 1) := by decide +kernel
theorem dX5_openRoutine_125 : decode cX5_openRoutine 125 = .ok (.iconst 0, 1) := by decide +kernel
theorem dX5_openRoutine_126 : decode cX5_openRoutine 126 = .ok (.putfield 136, 3) := by decide +kernel
theorem dX5_openRoutine_129 : decode cX5_openRoutine 129 = .ok (.return_, 1) := by decide +kernel
theorem dX5_openRoutine_30 : decode cX5_openRoutine 30 = .ok (.aload_n 0, 1) := by decide +kernel
theorem dX5_openRoutine_31 : decode cX5_openRoutine 31 = .ok (.iconst 5, 1) := by decide +kernel
theorem dX5_openRoutine_32 : decode cX5_openRoutine 32 = .ok (.aload_n 0, 1) := by decide +kernel
theorem dX5_openRoutine_33 : decode cX5_openRoutine 33 = .ok (.getfield 12, 3) := by decide +kernel
theorem dX5_openRoutine_36 : decode cX5_openRoutine 36 = .ok (.getfield 74, 3) := by decide +kernel
theorem dX5_openRoutine_39 : decode cX5_openRoutine 39 = .ok (.invokevirtual 113, 3) := by decide +kernel
theorem dX5_openRoutine_9 : decode cX5_openRoutine 9 = .ok (.aload_n 0, 1) := by decide +kernel
theorem dX5_openRoutine_10 : decode cX5_openRoutine 10 = .ok (.iconst 2, 1) := by decide +kernel
theorem dX5_openRoutine_11 : decode cX5_openRoutine 11 = .ok (.aload_n 0, 1) := by decide +kernel
theorem dX5_openRoutine_12 : decode cX5_openRoutine 12 = .ok (.getfield 12, 3) := by decide +kernel
theorem dX5_openRoutine_15 : decode cX5_openRoutine 15 = .ok (.getfield 74, 3) := by decide +kernel
theorem dX5_openRoutine_18 : decode cX5_openRoutine 18 = .ok (.invokevirtual 113, 3) := by decide +kernel
end
section
theorem cd_X5_parameter : Cond.code yX5_parameter cX5_parameter 2 none ∈ pWW := pw3 (List.mem_of_getElem? (i := 104) rfl) rfl
abbrev m_X5_parameter : MT := (yX5_parameter, cX5_parameter, 2, none)
theorem ok_X5_parameter : pOk m_X5_parameter := ⟨⟨cd_X5_parameter, ini_5⟩, by decide +kernel, ⟨by decide +kernel, by decide +kernel⟩, Nat.le_of_ble_eq_true rfl⟩
theorem np_X5_parameter : (parseMethodDescriptor yX5_parameter.desc).map (fun d => d.parameters.length) = some 1 := by decide +kernel
theorem im_X5_parameter : Cond.instanceMethod yX5_parameter ∈ pWW := pw3 (List.mem_of_getElem? (i := 103) rfl) rfl
theorem se_X5_parameter : Cond.selects RX5 yX5_parameter yX5_parameter ∈ pWW := pws (List.mem_map.mpr ⟨_, lw_pin 11 rfl, rfl⟩) rfl
theorem fl5_180 : Cond.fieldLink RX5 180 (TX1 3).1 (TX1 3).2.1 (TX1 3).2.2.1 ∈ pWW := pw1 (List.mem_of_getElem? (i := 98) rfl) rfl
theorem dX5_parameter_0 : decode cX5_parameter 0 = .ok (.aload_n 0, 1) := by decide +kernel
theorem dX5_parameter_1 : decode cX5_parameter 1 = .ok (.aload_n 0, 1) := by decide +kernel
theorem dX5_parameter_2 : decode cX5_parameter 2 = .ok (.getfield 12, 3) := by decide +kernel
theorem dX5_parameter_5 : decode cX5_parameter 5 = .ok (.getfield 96, 3) := by decide +kernel
theorem dX5_parameter_8 : decode cX5_parameter 8 = .ok (.invokevirtual 173, 3) := by decide +kernel
theorem dX5_parameter_11 : decode cX5_parameter 11 = .ok (.iconst (-1), 1) := by decide +kernel
theorem dX5_parameter_12 : decode cX5_parameter 12 = .ok (.if_icmp .eq 15, 3) := by decide +kernel
theorem dX5_parameter_27 : decode cX5_parameter 27 = .ok (.iload_n 1, 1) := by decide +kernel
theorem dX5_parameter_28 : decode cX5_parameter 28 = .ok (.iconst 4, 1) := by decide +kernel
theorem dX5_parameter_29 : decode cX5_parameter 29 = .ok (.if_icmp .le 15, 3) := by decide +kernel
theorem dX5_parameter_44 : decode cX5_parameter 44 = .ok (.aload_n 0, 1) := by decide +kernel
theorem dX5_parameter_45 : decode cX5_parameter 45 = .ok (.invokevirtual 176, 3) := by decide +kernel
theorem dX5_parameter_48 : decode cX5_parameter 48 = .ok (.pop, 1) := by decide +kernel
theorem dX5_parameter_49 : decode cX5_parameter 49 = .ok (.aload_n 0, 1) := by decide +kernel
theorem dX5_parameter_50 : decode cX5_parameter 50 = .ok (.getfield 28, 3) := by decide +kernel
theorem dX5_parameter_53 : decode cX5_parameter 53 = .ok (.aload_n 0, 1) := by decide +kernel
theorem dX5_parameter_54 : decode cX5_parameter 54 = .ok (.getfield 58, 3) := by decide +kernel
theorem dX5_parameter_57 : decode cX5_parameter 57 = .ok (.iconst 1, 1) := by decide +kernel
theorem dX5_parameter_58 : decode cX5_parameter 58 = .ok (.isub, 1) := by decide +kernel
theorem dX5_parameter_59 : decode cX5_parameter 59 = .ok (.iload_n 1, 1) := by decide +kernel
theorem dX5_parameter_60 : decode cX5_parameter 60 = .ok (.invokestatic 129, 3) := by decide +kernel
theorem dX5_parameter_63 : decode cX5_parameter 63 = .ok (.aload_n 0, 1) := by decide +kernel
theorem dX5_parameter_64 : decode cX5_parameter 64 = .ok (.getfield 47, 3) := by decide +kernel
theorem dX5_parameter_67 : decode cX5_parameter 67 = .ok (.iload_n 1, 1) := by decide +kernel
theorem dX5_parameter_68 : decode cX5_parameter 68 = .ok (.iconst 4, 1) := by decide +kernel
theorem dX5_parameter_69 : decode cX5_parameter 69 = .ok (.invokestatic 117, 3) := by decide +kernel
theorem dX5_parameter_72 : decode cX5_parameter 72 = .ok (.putfield 180, 3) := by decide +kernel
theorem dX5_parameter_75 : decode cX5_parameter 75 = .ok (.return_, 1) := by decide +kernel
theorem dX5_parameter_32 : decode cX5_parameter 32 = .ok (.aload_n 0, 1) := by decide +kernel
theorem dX5_parameter_33 : decode cX5_parameter 33 = .ok (.iconst 5, 1) := by decide +kernel
theorem dX5_parameter_34 : decode cX5_parameter 34 = .ok (.aload_n 0, 1) := by decide +kernel
theorem dX5_parameter_35 : decode cX5_parameter 35 = .ok (.getfield 12, 3) := by decide +kernel
theorem dX5_parameter_38 : decode cX5_parameter 38 = .ok (.getfield 74, 3) := by decide +kernel
theorem dX5_parameter_41 : decode cX5_parameter 41 = .ok (.invokevirtual 113, 3) := by decide +kernel
theorem dX5_parameter_15 : decode cX5_parameter 15 = .ok (.aload_n 0, 1) := by decide +kernel
theorem dX5_parameter_16 : decode cX5_parameter 16 = .ok (.iconst 2, 1) := by decide +kernel
theorem dX5_parameter_17 : decode cX5_parameter 17 = .ok (.aload_n 0, 1) := by decide +kernel
theorem dX5_parameter_18 : decode cX5_parameter 18 = .ok (.getfield 12, 3) := by decide +kernel
theorem dX5_parameter_21 : decode cX5_parameter 21 = .ok (.getfield 74, 3) := by decide +kernel
theorem dX5_parameter_24 : decode cX5_parameter 24 = .ok (.invokevirtual 113, 3) := by decide +kernel
end
section
theorem cd_X5_parameters : Cond.code yX5_parameters cX5_parameters 2 (some .boolean) ∈ pWW := pw3 (List.mem_of_getElem? (i := 100) rfl) rfl
abbrev m_X5_parameters : MT := (yX5_parameters, cX5_parameters, 2, (some .boolean))
theorem ok_X5_parameters : pOk m_X5_parameters := ⟨⟨cd_X5_parameters, ini_5⟩, by decide +kernel, ⟨by decide +kernel, by decide +kernel⟩, Nat.le_of_ble_eq_true rfl⟩
theorem np_X5_parameters : (parseMethodDescriptor yX5_parameters.desc).map (fun d => d.parameters.length) = some 0 := by decide +kernel
theorem im_X5_parameters : Cond.instanceMethod yX5_parameters ∈ pWW := pw3 (List.mem_of_getElem? (i := 99) rfl) rfl
theorem se_X5_parameters : Cond.selects RX5 yX5_parameters yX5_parameters ∈ pWW := pws (List.mem_map.mpr ⟨_, lw_pin 10 rfl, rfl⟩) rfl
theorem ml5_170 : Cond.methodLink RX5 170 yX5_parameter ∈ pWW := pw3 (List.mem_of_getElem? (i := 101) rfl) rfl
theorem dX5_parameters_0 : decode cX5_parameters 0 = .ok (.aload_n 0, 1) := by decide +kernel
theorem dX5_parameters_1 : decode cX5_parameters 1 = .ok (.getfield 12, 3) := by decide +kernel
theorem dX5_parameters_4 : decode cX5_parameters 4 = .ok (.getfield 71, 3) := by decide +kernel
theorem dX5_parameters_7 : decode cX5_parameters 7 = .ok (.bipush 41, 2) := by decide +kernel
theorem dX5_parameters_9 : decode cX5_parameters 9 = .ok (.if_icmp .ne 5, 3) := by decide +kernel
theorem dX5_parameters_14 : decode cX5_parameters 14 = .ok (.iconst 0, 1) := by decide +kernel
theorem dX5_parameters_15 : decode cX5_parameters 15 = .ok (.istore_n 1, 1) := by decide +kernel
theorem dX5_parameters_16 : decode cX5_parameters 16 = .ok (.iload_n 1, 1) := by decide +kernel
theorem dX5_parameters_17 : decode cX5_parameters 17 = .ok (.sipush 1200, 3) := by decide +kernel
theorem dX5_parameters_20 : decode cX5_parameters 20 = .ok (.if_icmp .ge 62, 3) := by decide +kernel
theorem dX5_parameters_23 : decode cX5_parameters 23 = .ok (.aload_n 0, 1) := by decide +kernel
theorem dX5_parameters_24 : decode cX5_parameters 24 = .ok (.getfield 12, 3) := by decide +kernel
theorem dX5_parameters_27 : decode cX5_parameters 27 = .ok (.getfield 71, 3) := by decide +kernel
theorem dX5_parameters_30 : decode cX5_parameters 30 = .ok (.sipush 256, 3) := by decide +kernel
theorem dX5_parameters_33 : decode cX5_parameters 33 = .ok (.if_icmp .eq 8, 3) := by decide +kernel
theorem dX5_parameters_41 : decode cX5_parameters 41 = .ok (.aload_n 0, 1) := by decide +kernel
theorem dX5_parameters_42 : decode cX5_parameters 42 = .ok (.iload_n 1, 1) := by decide +kernel
theorem dX5_parameters_43 : decode cX5_parameters 43 = .ok (.iconst 1, 1) := by decide +kernel
theorem dX5_parameters_44 : decode cX5_parameters 44 = .ok (.iadd, 1) := by decide +kernel
theorem dX5_parameters_45 : decode cX5_parameters 45 = .ok (.invokevirtual 170, 3) := by decide +kernel
theorem dX5_parameters_48 : decode cX5_parameters 48 = .ok (.aload_n 0, 1) := by decide +kernel
theorem dX5_parameters_49 : decode cX5_parameters 49 = .ok (.getfield 12, 3) := by decide +kernel
theorem dX5_parameters_52 : decode cX5_parameters 52 = .ok (.invokevirtual 93, 3) := by decide +kernel
theorem dX5_parameters_55 : decode cX5_parameters 55 = .ok (.aload_n 0, 1) := by decide +kernel
theorem dX5_parameters_56 : decode cX5_parameters 56 = .ok (.getfield 12, 3) := by decide +kernel
theorem dX5_parameters_59 : decode cX5_parameters 59 = .ok (.getfield 71, 3) := by decide +kernel
theorem dX5_parameters_62 : decode cX5_parameters 62 = .ok (.bipush 44, 2) := by decide +kernel
theorem dX5_parameters_64 : decode cX5_parameters 64 = .ok (.if_icmp .eq 5, 3) := by decide +kernel
theorem dX5_parameters_69 : decode cX5_parameters 69 = .ok (.aload_n 0, 1) := by decide +kernel
theorem dX5_parameters_70 : decode cX5_parameters 70 = .ok (.getfield 12, 3) := by decide +kernel
theorem dX5_parameters_73 : decode cX5_parameters 73 = .ok (.invokevirtual 93, 3) := by decide +kernel
theorem dX5_parameters_76 : decode cX5_parameters 76 = .ok (.iinc 1 1, 3) := by decide +kernel
theorem dX5_parameters_79 : decode cX5_parameters 79 = .ok (.goto (-63), 3) := by decide +kernel
theorem dX5_parameters_36 : decode cX5_parameters 36 = .ok (.aload_n 0, 1) := by decide +kernel
theorem dX5_parameters_37 : decode cX5_parameters 37 = .ok (.invokevirtual 90, 3) := by decide +kernel
theorem dX5_parameters_40 : decode cX5_parameters 40 = .ok (.ireturn, 1) := by decide +kernel
theorem dX5_parameters_67 : decode cX5_parameters 67 = .ok (.iconst 1, 1) := by decide +kernel
theorem dX5_parameters_68 : decode cX5_parameters 68 = .ok (.ireturn, 1) := by decide +kernel
theorem dX5_parameters_12 : decode cX5_parameters 12 = .ok (.iconst 1, 1) := by decide +kernel
theorem dX5_parameters_13 : decode cX5_parameters 13 = .ok (.ireturn, 1) := by decide +kernel
end
section
theorem cd_X5_header : Cond.code yX5_header cX5_header 1 (some .boolean) ∈ pWW := pw3 (List.mem_of_getElem? (i := 64) rfl) rfl
abbrev m_X5_header : MT := (yX5_header, cX5_header, 1, (some .boolean))
theorem ok_X5_header : pOk m_X5_header := ⟨⟨cd_X5_header, ini_5⟩, by decide +kernel, ⟨by decide +kernel, by decide +kernel⟩, Nat.le_of_ble_eq_true rfl⟩
theorem np_X5_header : (parseMethodDescriptor yX5_header.desc).map (fun d => d.parameters.length) = some 0 := by decide +kernel
theorem im_X5_header : Cond.instanceMethod yX5_header ∈ pWW := pw3 (List.mem_of_getElem? (i := 63) rfl) rfl
theorem se_X5_header : Cond.selects RX5 yX5_header yX5_header ∈ pWW := pws (List.mem_map.mpr ⟨_, lw_pin 4 rfl, rfl⟩) rfl
theorem ml5_99 : Cond.methodLink RX5 99 yX5_openRoutine ∈ pWW := pw3 (List.mem_of_getElem? (i := 69) rfl) rfl
theorem ml5_106 : Cond.methodLink RX5 106 yX5_parameters ∈ pWW := pw3 (List.mem_of_getElem? (i := 97) rfl) rfl
theorem dX5_header_0 : decode cX5_header 0 = .ok (.aload_n 0, 1) := by decide +kernel
theorem dX5_header_1 : decode cX5_header 1 = .ok (.getfield 12, 3) := by decide +kernel
theorem dX5_header_4 : decode cX5_header 4 = .ok (.getfield 71, 3) := by decide +kernel
theorem dX5_header_7 : decode cX5_header 7 = .ok (.sipush 256, 3) := by decide +kernel
theorem dX5_header_10 : decode cX5_header 10 = .ok (.if_icmp .eq 8, 3) := by decide +kernel
theorem dX5_header_18 : decode cX5_header 18 = .ok (.aload_n 0, 1) := by decide +kernel
theorem dX5_header_19 : decode cX5_header 19 = .ok (.aload_n 0, 1) := by decide +kernel
theorem dX5_header_20 : decode cX5_header 20 = .ok (.getfield 12, 3) := by decide +kernel
theorem dX5_header_23 : decode cX5_header 23 = .ok (.getfield 96, 3) := by decide +kernel
theorem dX5_header_26 : decode cX5_header 26 = .ok (.invokevirtual 99, 3) := by decide +kernel
theorem dX5_header_29 : decode cX5_header 29 = .ok (.aload_n 0, 1) := by decide +kernel
theorem dX5_header_30 : decode cX5_header 30 = .ok (.getfield 12, 3) := by decide +kernel
theorem dX5_header_33 : decode cX5_header 33 = .ok (.invokevirtual 93, 3) := by decide +kernel
theorem dX5_header_36 : decode cX5_header 36 = .ok (.aload_n 0, 1) := by decide +kernel
theorem dX5_header_37 : decode cX5_header 37 = .ok (.bipush 40, 2) := by decide +kernel
theorem dX5_header_39 : decode cX5_header 39 = .ok (.invokevirtual 102, 3) := by decide +kernel
theorem dX5_header_42 : decode cX5_header 42 = .ok (.ifCond .eq 23, 3) := by decide +kernel
theorem dX5_header_65 : decode cX5_header 65 = .ok (.iconst 0, 1) := by decide +kernel
theorem dX5_header_66 : decode cX5_header 66 = .ok (.ireturn, 1) := by decide +kernel
theorem dX5_header_45 : decode cX5_header 45 = .ok (.aload_n 0, 1) := by decide +kernel
theorem dX5_header_46 : decode cX5_header 46 = .ok (.invokevirtual 106, 3) := by decide +kernel
theorem dX5_header_49 : decode cX5_header 49 = .ok (.ifCond .eq 16, 3) := by decide +kernel
theorem dX5_header_52 : decode cX5_header 52 = .ok (.aload_n 0, 1) := by decide +kernel
theorem dX5_header_53 : decode cX5_header 53 = .ok (.bipush 41, 2) := by decide +kernel
theorem dX5_header_55 : decode cX5_header 55 = .ok (.invokevirtual 102, 3) := by decide +kernel
theorem dX5_header_58 : decode cX5_header 58 = .ok (.ifCond .eq 7, 3) := by decide +kernel
theorem dX5_header_61 : decode cX5_header 61 = .ok (.iconst 1, 1) := by decide +kernel
theorem dX5_header_62 : decode cX5_header 62 = .ok (.goto 4, 3) := by decide +kernel
theorem dX5_header_13 : decode cX5_header 13 = .ok (.aload_n 0, 1) := by decide +kernel
theorem dX5_header_14 : decode cX5_header 14 = .ok (.invokevirtual 90, 3) := by decide +kernel
theorem dX5_header_17 : decode cX5_header 17 = .ok (.ireturn, 1) := by decide +kernel
end
section
theorem cd_X5_closeRoutine : Cond.code yX5_closeRoutine cX5_closeRoutine 3 none ∈ pWW := pw3 (List.mem_of_getElem? (i := 229) rfl) rfl
abbrev m_X5_closeRoutine : MT := (yX5_closeRoutine, cX5_closeRoutine, 3, none)
theorem ok_X5_closeRoutine : pOk m_X5_closeRoutine := ⟨⟨cd_X5_closeRoutine, ini_5⟩, by decide +kernel, ⟨by decide +kernel, by decide +kernel⟩, Nat.le_of_ble_eq_true rfl⟩
theorem np_X5_closeRoutine : (parseMethodDescriptor yX5_closeRoutine.desc).map (fun d => d.parameters.length) = some 1 := by decide +kernel
theorem im_X5_closeRoutine : Cond.instanceMethod yX5_closeRoutine ∈ pWW := pw3 (List.mem_of_getElem? (i := 228) rfl) rfl
theorem se_X5_closeRoutine : Cond.selects RX5 yX5_closeRoutine yX5_closeRoutine ∈ pWW := pws (List.mem_map.mpr ⟨_, lw_pin 31 rfl, rfl⟩) rfl
theorem fl5_149 : Cond.fieldLink RX5 149 (TX1 9).1 (TX1 9).2.1 (TX1 9).2.2.1 ∈ pWW := pw1 (List.mem_of_getElem? (i := 120) rfl) rfl
theorem fl5_155 : Cond.fieldLink RX5 155 (TX1 10).1 (TX1 10).2.1 (TX1 10).2.2.1 ∈ pWW := pw1 (List.mem_of_getElem? (i := 125) rfl) rfl
theorem dX5_closeRoutine_0 : decode cX5_closeRoutine 0 = .ok (.aload_n 0, 1) := by decide +kernel
theorem dX5_closeRoutine_1 : decode cX5_closeRoutine 1 = .ok (.getfield 47, 3) := by decide +kernel
theorem dX5_closeRoutine_4 : decode cX5_closeRoutine 4 = .ok (.bipush 7, 2) := by decide +kernel
theorem dX5_closeRoutine_6 : decode cX5_closeRoutine 6 = .ok (.iconst 0, 1) := by decide +kernel
theorem dX5_closeRoutine_7 : decode cX5_closeRoutine 7 = .ok (.iconst 0, 1) := by decide +kernel
theorem dX5_closeRoutine_8 : decode cX5_closeRoutine 8 = .ok (.invokevirtual 139, 3) := by decide +kernel
theorem dX5_closeRoutine_11 : decode cX5_closeRoutine 11 = .ok (.aload_n 0, 1) := by decide +kernel
theorem dX5_closeRoutine_12 : decode cX5_closeRoutine 12 = .ok (.getfield 47, 3) := by decide +kernel
theorem dX5_closeRoutine_15 : decode cX5_closeRoutine 15 = .ok (.iconst 0, 1) := by decide +kernel
theorem dX5_closeRoutine_16 : decode cX5_closeRoutine 16 = .ok (.iconst 1, 1) := by decide +kernel
theorem dX5_closeRoutine_17 : decode cX5_closeRoutine 17 = .ok (.iconst 0, 1) := by decide +kernel
theorem dX5_closeRoutine_18 : decode cX5_closeRoutine 18 = .ok (.invokevirtual 143, 3) := by decide +kernel
theorem dX5_closeRoutine_21 : decode cX5_closeRoutine 21 = .ok (.aload_n 0, 1) := by decide +kernel
theorem dX5_closeRoutine_22 : decode cX5_closeRoutine 22 = .ok (.getfield 47, 3) := by decide +kernel
theorem dX5_closeRoutine_25 : decode cX5_closeRoutine 25 = .ok (.getfield 146, 3) := by decide +kernel
theorem dX5_closeRoutine_28 : decode cX5_closeRoutine 28 = .ok (.bipush 120, 2) := by decide +kernel
theorem dX5_closeRoutine_30 : decode cX5_closeRoutine 30 = .ok (.if_icmp .le 9, 3) := by decide +kernel
theorem dX5_closeRoutine_39 : decode cX5_closeRoutine 39 = .ok (.aload_n 0, 1) := by decide +kernel
theorem dX5_closeRoutine_40 : decode cX5_closeRoutine 40 = .ok (.getfield 47, 3) := by decide +kernel
theorem dX5_closeRoutine_43 : decode cX5_closeRoutine 43 = .ok (.getfield 149, 3) := by decide +kernel
theorem dX5_closeRoutine_46 : decode cX5_closeRoutine 46 = .ok (.iconst 0, 1) := by decide +kernel
theorem dX5_closeRoutine_47 : decode cX5_closeRoutine 47 = .ok (.aload_n 0, 1) := by decide +kernel
theorem dX5_closeRoutine_48 : decode cX5_closeRoutine 48 = .ok (.getfield 47, 3) := by decide +kernel
theorem dX5_closeRoutine_51 : decode cX5_closeRoutine 51 = .ok (.getfield 152, 3) := by decide +kernel
theorem dX5_closeRoutine_54 : decode cX5_closeRoutine 54 = .ok (.invokestatic 129, 3) := by decide +kernel
theorem dX5_closeRoutine_57 : decode cX5_closeRoutine 57 = .ok (.iconst 0, 1) := by decide +kernel
theorem dX5_closeRoutine_58 : decode cX5_closeRoutine 58 = .ok (.istore_n 2, 1) := by decide +kernel
theorem dX5_closeRoutine_59 : decode cX5_closeRoutine 59 = .ok (.iload_n 2, 1) := by decide +kernel
theorem dX5_closeRoutine_60 : decode cX5_closeRoutine 60 = .ok (.aload_n 0, 1) := by decide +kernel
theorem dX5_closeRoutine_61 : decode cX5_closeRoutine 61 = .ok (.getfield 47, 3) := by decide +kernel
theorem dX5_closeRoutine_64 : decode cX5_closeRoutine 64 = .ok (.getfield 152, 3) := by decide +kernel
theorem dX5_closeRoutine_67 : decode cX5_closeRoutine 67 = .ok (.if_icmp .ge 21, 3) := by decide +kernel
theorem dX5_closeRoutine_70 : decode cX5_closeRoutine 70 = .ok (.aload_n 0, 1) := by decide +kernel
theorem dX5_closeRoutine_71 : decode cX5_closeRoutine 71 = .ok (.getfield 47, 3) := by decide +kernel
theorem dX5_closeRoutine_74 : decode cX5_closeRoutine 74 = .ok (.getfield 155, 3) := by decide +kernel
theorem dX5_closeRoutine_77 : decode cX5_closeRoutine 77 = .ok (.iload_n 2, 1) := by decide +kernel
theorem dX5_closeRoutine_78 : decode cX5_closeRoutine 78 = .ok (.iload_n 2, 1) := by decide +kernel
theorem dX5_closeRoutine_79 : decode cX5_closeRoutine 79 = .ok (.invokestatic 129, 3) := by decide +kernel
theorem dX5_closeRoutine_82 : decode cX5_closeRoutine 82 = .ok (.iinc 2 1, 3) := by decide +kernel
theorem dX5_closeRoutine_85 : decode cX5_closeRoutine 85 = .ok (.goto (-26), 3) := by decide +kernel
theorem ml5_158 : Cond.methodLink RX5 158 yX5_numberNew ∈ pWW := pw3 (List.mem_of_getElem? (i := 230) rfl) rfl
theorem dX5_closeRoutine_88 : decode cX5_closeRoutine 88 = .ok (.iconst 0, 1) := by decide +kernel
theorem dX5_closeRoutine_89 : decode cX5_closeRoutine 89 = .ok (.istore_n 2, 1) := by decide +kernel
theorem dX5_closeRoutine_90 : decode cX5_closeRoutine 90 = .ok (.iload_n 2, 1) := by decide +kernel
theorem dX5_closeRoutine_91 : decode cX5_closeRoutine 91 = .ok (.aload_n 0, 1) := by decide +kernel
theorem dX5_closeRoutine_92 : decode cX5_closeRoutine 92 = .ok (.getfield 47, 3) := by decide +kernel
theorem dX5_closeRoutine_95 : decode cX5_closeRoutine 95 = .ok (.getfield 146, 3) := by decide +kernel
theorem dX5_closeRoutine_98 : decode cX5_closeRoutine 98 = .ok (.if_icmp .ge 20, 3) := by decide +kernel
theorem dX5_closeRoutine_101 : decode cX5_closeRoutine 101 = .ok (.iload_n 2, 1) := by decide +kernel
theorem dX5_closeRoutine_102 : decode cX5_closeRoutine 102 = .ok (.bipush 120, 2) := by decide +kernel
theorem dX5_closeRoutine_104 : decode cX5_closeRoutine 104 = .ok (.if_icmp .ge 14, 3) := by decide +kernel
theorem dX5_closeRoutine_107 : decode cX5_closeRoutine 107 = .ok (.aload_n 0, 1) := by decide +kernel
theorem dX5_closeRoutine_108 : decode cX5_closeRoutine 108 = .ok (.iload_n 2, 1) := by decide +kernel
theorem dX5_closeRoutine_109 : decode cX5_closeRoutine 109 = .ok (.invokevirtual 158, 3) := by decide +kernel
theorem dX5_closeRoutine_112 : decode cX5_closeRoutine 112 = .ok (.iinc 2 1, 3) := by decide +kernel
theorem dX5_closeRoutine_115 : decode cX5_closeRoutine 115 = .ok (.goto (-25), 3) := by decide +kernel
theorem dX5_closeRoutine_118 : decode cX5_closeRoutine 118 = .ok (.return_, 1) := by decide +kernel
theorem dX5_closeRoutine_33 : decode cX5_closeRoutine 33 = .ok (.aload_n 0, 1) := by decide +kernel
theorem dX5_closeRoutine_34 : decode cX5_closeRoutine 34 = .ok (.iconst 5, 1) := by decide +kernel
theorem dX5_closeRoutine_35 : decode cX5_closeRoutine 35 = .ok (.iload_n 1, 1) := by decide +kernel
theorem dX5_closeRoutine_36 : decode cX5_closeRoutine 36 = .ok (.invokevirtual 113, 3) := by decide +kernel
end
