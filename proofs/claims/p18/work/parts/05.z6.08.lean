section
theorem cd_X11_frame : Cond.code yX11_frame cX11_frame 5 (some .int) ∈ pWW := pw4 (List.mem_of_getElem? (i := 95) rfl) rfl
abbrev m_X11_frame : MT := (yX11_frame, cX11_frame, 5, (some .int))
theorem ok_X11_frame : pOk m_X11_frame := ⟨⟨cd_X11_frame, ini_11⟩, by decide +kernel, ⟨by decide +kernel, by decide +kernel⟩, Nat.le_of_ble_eq_true rfl⟩
theorem np_X11_frame : (parseMethodDescriptor yX11_frame.desc).map (fun d => d.parameters.length) = some 3 := by decide +kernel
theorem im_X11_frame : Cond.instanceMethod yX11_frame ∈ pWW := pw4 (List.mem_of_getElem? (i := 93) rfl) rfl
theorem se_X11_frame : Cond.selects RX11 yX11_frame yX11_frame ∈ pWW := pw4 (List.mem_of_getElem? (i := 94) rfl) rfl
theorem fl11_159 : Cond.fieldLink RX11 159 (TX1 6).1 (TX1 6).2.1 (TX1 6).2.2.1 ∈ pWW := pw1 (List.mem_of_getElem? (i := 109) rfl) rfl
theorem ml11_162 : Cond.methodLink RX11 162 yX11_at ∈ pWW := pw4 (List.mem_of_getElem? (i := 96) rfl) rfl
theorem fl11_166 : Cond.fieldLink RX11 166 (TX1 7).1 (TX1 7).2.1 (TX1 7).2.2.1 ∈ pWW := pw1 (List.mem_of_getElem? (i := 113) rfl) rfl
theorem fl11_169 : Cond.fieldLink RX11 169 (TX1 8).1 (TX1 8).2.1 (TX1 8).2.2.1 ∈ pWW := pw1 (List.mem_of_getElem? (i := 117) rfl) rfl
theorem dX11_frame_0 : decode cX11_frame 0 = .ok (.aload_n 0, 1) := by decide +kernel
theorem dX11_frame_1 : decode cX11_frame 1 = .ok (.iload_n 1, 1) := by decide +kernel
theorem dX11_frame_2 : decode cX11_frame 2 = .ok (.invokevirtual 123, 3) := by decide +kernel
theorem dX11_frame_5 : decode cX11_frame 5 = .ok (.astore 4, 2) := by decide +kernel
theorem dX11_frame_7 : decode cX11_frame 7 = .ok (.aload 4, 2) := by decide +kernel
theorem dX11_frame_9 : decode cX11_frame 9 = .ok (.ifnull 16, 3) := by decide +kernel
theorem dX11_frame_25 : decode cX11_frame 25 = .ok (.iconst (-1), 1) := by decide +kernel
theorem dX11_frame_26 : decode cX11_frame 26 = .ok (.ireturn, 1) := by decide +kernel
theorem dX11_frame_12 : decode cX11_frame 12 = .ok (.iload_n 2, 1) := by decide +kernel
theorem dX11_frame_13 : decode cX11_frame 13 = .ok (.ifCond .lt 12, 3) := by decide +kernel
theorem dX11_frame_16 : decode cX11_frame 16 = .ok (.iload_n 2, 1) := by decide +kernel
theorem dX11_frame_17 : decode cX11_frame 17 = .ok (.aload 4, 2) := by decide +kernel
theorem dX11_frame_19 : decode cX11_frame 19 = .ok (.getfield 143, 3) := by decide +kernel
theorem dX11_frame_22 : decode cX11_frame 22 = .ok (.if_icmp .lt 5, 3) := by decide +kernel
theorem dX11_frame_27 : decode cX11_frame 27 = .ok (.iload_n 3, 1) := by decide +kernel
theorem dX11_frame_28 : decode cX11_frame 28 = .ok (.tableswitch 66 0 2 #[28, 38, 56], 28) := by decide +kernel
theorem dX11_frame_94 : decode cX11_frame 94 = .ok (.iconst (-1), 1) := by decide +kernel
theorem dX11_frame_95 : decode cX11_frame 95 = .ok (.ireturn, 1) := by decide +kernel
theorem dX11_frame_56 : decode cX11_frame 56 = .ok (.aload 4, 2) := by decide +kernel
theorem dX11_frame_58 : decode cX11_frame 58 = .ok (.getfield 159, 3) := by decide +kernel
theorem dX11_frame_61 : decode cX11_frame 61 = .ok (.iload_n 2, 1) := by decide +kernel
theorem dX11_frame_62 : decode cX11_frame 62 = .ok (.invokestatic 162, 3) := by decide +kernel
theorem dX11_frame_65 : decode cX11_frame 65 = .ok (.ireturn, 1) := by decide +kernel
theorem dX11_frame_66 : decode cX11_frame 66 = .ok (.iload_n 2, 1) := by decide +kernel
theorem dX11_frame_67 : decode cX11_frame 67 = .ok (.ifCond .ne 7, 3) := by decide +kernel
theorem dX11_frame_74 : decode cX11_frame 74 = .ok (.aload 4, 2) := by decide +kernel
theorem dX11_frame_76 : decode cX11_frame 76 = .ok (.getfield 166, 3) := by decide +kernel
theorem dX11_frame_79 : decode cX11_frame 79 = .ok (.iload_n 2, 1) := by decide +kernel
theorem dX11_frame_80 : decode cX11_frame 80 = .ok (.invokestatic 162, 3) := by decide +kernel
theorem dX11_frame_83 : decode cX11_frame 83 = .ok (.ireturn, 1) := by decide +kernel
theorem dX11_frame_70 : decode cX11_frame 70 = .ok (.iconst (-1), 1) := by decide +kernel
theorem dX11_frame_71 : decode cX11_frame 71 = .ok (.goto 12, 3) := by decide +kernel
theorem dX11_frame_84 : decode cX11_frame 84 = .ok (.aload 4, 2) := by decide +kernel
theorem dX11_frame_86 : decode cX11_frame 86 = .ok (.getfield 169, 3) := by decide +kernel
theorem dX11_frame_89 : decode cX11_frame 89 = .ok (.iload_n 2, 1) := by decide +kernel
theorem dX11_frame_90 : decode cX11_frame 90 = .ok (.invokestatic 162, 3) := by decide +kernel
theorem dX11_frame_93 : decode cX11_frame 93 = .ok (.ireturn, 1) := by decide +kernel
end
section
theorem cd_X11_told : Cond.code yX11_told cX11_told 8 (some .int) ∈ pWW := pw4 (List.mem_of_getElem? (i := 100) rfl) rfl
abbrev m_X11_told : MT := (yX11_told, cX11_told, 8, (some .int))
theorem ok_X11_told : pOk m_X11_told := ⟨⟨cd_X11_told, ini_11⟩, by decide +kernel, ⟨by decide +kernel, by decide +kernel⟩, Nat.le_of_ble_eq_true rfl⟩
theorem np_X11_told : (parseMethodDescriptor yX11_told.desc).map (fun d => d.parameters.length) = some 5 := by decide +kernel
theorem im_X11_told : Cond.instanceMethod yX11_told ∈ pWW := pw4 (List.mem_of_getElem? (i := 98) rfl) rfl
theorem se_X11_told : Cond.selects RX11 yX11_told yX11_told ∈ pWW := pw4 (List.mem_of_getElem? (i := 99) rfl) rfl
theorem ml11_172 : Cond.methodLink RX11 172 yX1_hasName ∈ pWW := pw4 (List.mem_of_getElem? (i := 101) rfl) rfl
theorem fl11_39 : Cond.fieldLink RX11 39 (TX11 7).1 (TX11 7).2.1 (TX11 7).2.2.1 ∈ pWW := pw2 (List.mem_of_getElem? (i := 203) rfl) rfl
theorem ml11_176 : Cond.methodLink RX11 176 yX10_refresh ∈ pWW := pw4 (List.mem_of_getElem? (i := 105) rfl) rfl
theorem ml11_180 : Cond.methodLink RX11 180 yX10_slotAt ∈ pWW := pw4 (List.mem_of_getElem? (i := 160) rfl) rfl
theorem ml11_184 : Cond.methodLink RX11 184 yX10_idIn ∈ pWW := pw4 (List.mem_of_getElem? (i := 164) rfl) rfl
theorem ml11_191 : Cond.methodLink RX11 191 yX10_part ∈ pWW := pw4 (List.mem_of_getElem? (i := 172) rfl) rfl
theorem ml11_187 : Cond.methodLink RX11 187 yX10_whereOf ∈ pWW := pw4 (List.mem_of_getElem? (i := 168) rfl) rfl
theorem dX11_told_0 : decode cX11_told 0 = .ok (.aload_n 0, 1) := by decide +kernel
theorem dX11_told_1 : decode cX11_told 1 = .ok (.iload_n 1, 1) := by decide +kernel
theorem dX11_told_2 : decode cX11_told 2 = .ok (.invokevirtual 123, 3) := by decide +kernel
theorem dX11_told_5 : decode cX11_told 5 = .ok (.astore 6, 2) := by decide +kernel
theorem dX11_told_7 : decode cX11_told 7 = .ok (.aload 6, 2) := by decide +kernel
theorem dX11_told_9 : decode cX11_told 9 = .ok (.ifnull 38, 3) := by decide +kernel
theorem dX11_told_47 : decode cX11_told 47 = .ok (.iconst (-1), 1) := by decide +kernel
theorem dX11_told_48 : decode cX11_told 48 = .ok (.ireturn, 1) := by decide +kernel
theorem dX11_told_12 : decode cX11_told 12 = .ok (.iload_n 2, 1) := by decide +kernel
theorem dX11_told_13 : decode cX11_told 13 = .ok (.ifCond .lt 34, 3) := by decide +kernel
theorem dX11_told_16 : decode cX11_told 16 = .ok (.iload_n 2, 1) := by decide +kernel
theorem dX11_told_17 : decode cX11_told 17 = .ok (.aload 6, 2) := by decide +kernel
theorem dX11_told_19 : decode cX11_told 19 = .ok (.getfield 127, 3) := by decide +kernel
theorem dX11_told_22 : decode cX11_told 22 = .ok (.if_icmp .gt 25, 3) := by decide +kernel
theorem dX11_told_25 : decode cX11_told 25 = .ok (.aload 6, 2) := by decide +kernel
theorem dX11_told_27 : decode cX11_told 27 = .ok (.iload_n 3, 1) := by decide +kernel
theorem dX11_told_28 : decode cX11_told 28 = .ok (.iload 4, 2) := by decide +kernel
theorem dX11_told_30 : decode cX11_told 30 = .ok (.invokevirtual 172, 3) := by decide +kernel
theorem dX11_told_33 : decode cX11_told 33 = .ok (.ifCond .eq 14, 3) := by decide +kernel
theorem dX11_told_36 : decode cX11_told 36 = .ok (.iload 5, 2) := by decide +kernel
theorem dX11_told_38 : decode cX11_told 38 = .ok (.ifCond .lt 9, 3) := by decide +kernel
theorem dX11_told_41 : decode cX11_told 41 = .ok (.iload 5, 2) := by decide +kernel
theorem dX11_told_43 : decode cX11_told 43 = .ok (.iconst 4, 1) := by decide +kernel
theorem dX11_told_44 : decode cX11_told 44 = .ok (.if_icmp .le 5, 3) := by decide +kernel
theorem dX11_told_49 : decode cX11_told 49 = .ok (.aload_n 0, 1) := by decide +kernel
theorem dX11_told_50 : decode cX11_told 50 = .ok (.getfield 39, 3) := by decide +kernel
theorem dX11_told_53 : decode cX11_told 53 = .ok (.iload_n 1, 1) := by decide +kernel
theorem dX11_told_54 : decode cX11_told 54 = .ok (.aload 6, 2) := by decide +kernel
theorem dX11_told_56 : decode cX11_told 56 = .ok (.invokevirtual 176, 3) := by decide +kernel
theorem dX11_told_59 : decode cX11_told 59 = .ok (.aload_n 0, 1) := by decide +kernel
theorem dX11_told_60 : decode cX11_told 60 = .ok (.getfield 39, 3) := by decide +kernel
theorem dX11_told_63 : decode cX11_told 63 = .ok (.iload_n 1, 1) := by decide +kernel
theorem dX11_told_64 : decode cX11_told 64 = .ok (.aload_n 0, 1) := by decide +kernel
theorem dX11_told_65 : decode cX11_told 65 = .ok (.getfield 39, 3) := by decide +kernel
theorem dX11_told_68 : decode cX11_told 68 = .ok (.aload 6, 2) := by decide +kernel
theorem dX11_told_70 : decode cX11_told 70 = .ok (.iload_n 2, 1) := by decide +kernel
theorem dX11_told_71 : decode cX11_told 71 = .ok (.iload_n 3, 1) := by decide +kernel
theorem dX11_told_72 : decode cX11_told 72 = .ok (.invokevirtual 180, 3) := by decide +kernel
theorem dX11_told_75 : decode cX11_told 75 = .ok (.iload 4, 2) := by decide +kernel
theorem dX11_told_77 : decode cX11_told 77 = .ok (.iadd, 1) := by decide +kernel
theorem dX11_told_78 : decode cX11_told 78 = .ok (.invokevirtual 184, 3) := by decide +kernel
theorem dX11_told_81 : decode cX11_told 81 = .ok (.istore 7, 2) := by decide +kernel
theorem dX11_told_83 : decode cX11_told 83 = .ok (.iload 5, 2) := by decide +kernel
theorem dX11_told_85 : decode cX11_told 85 = .ok (.tableswitch 82 0 3 #[31, 43, 56, 69], 31) := by decide +kernel
theorem dX11_told_167 : decode cX11_told 167 = .ok (.aload_n 0, 1) := by decide +kernel
theorem dX11_told_168 : decode cX11_told 168 = .ok (.getfield 39, 3) := by decide +kernel
theorem dX11_told_171 : decode cX11_told 171 = .ok (.aload 6, 2) := by decide +kernel
theorem dX11_told_173 : decode cX11_told 173 = .ok (.iload 7, 2) := by decide +kernel
theorem dX11_told_175 : decode cX11_told 175 = .ok (.bipush 6, 2) := by decide +kernel
theorem dX11_told_177 : decode cX11_told 177 = .ok (.invokevirtual 191, 3) := by decide +kernel
theorem dX11_told_180 : decode cX11_told 180 = .ok (.ireturn, 1) := by decide +kernel
theorem dX11_told_116 : decode cX11_told 116 = .ok (.aload_n 0, 1) := by decide +kernel
theorem dX11_told_117 : decode cX11_told 117 = .ok (.getfield 39, 3) := by decide +kernel
theorem dX11_told_120 : decode cX11_told 120 = .ok (.aload 6, 2) := by decide +kernel
theorem dX11_told_122 : decode cX11_told 122 = .ok (.iload 7, 2) := by decide +kernel
theorem dX11_told_124 : decode cX11_told 124 = .ok (.invokevirtual 187, 3) := by decide +kernel
theorem dX11_told_127 : decode cX11_told 127 = .ok (.ireturn, 1) := by decide +kernel
theorem dX11_told_128 : decode cX11_told 128 = .ok (.aload_n 0, 1) := by decide +kernel
theorem dX11_told_129 : decode cX11_told 129 = .ok (.getfield 39, 3) := by decide +kernel
theorem dX11_told_132 : decode cX11_told 132 = .ok (.aload 6, 2) := by decide +kernel
theorem dX11_told_134 : decode cX11_told 134 = .ok (.iload 7, 2) := by decide +kernel
theorem dX11_told_136 : decode cX11_told 136 = .ok (.iconst 3, 1) := by decide +kernel
theorem dX11_told_137 : decode cX11_told 137 = .ok (.invokevirtual 191, 3) := by decide +kernel
theorem dX11_told_140 : decode cX11_told 140 = .ok (.ireturn, 1) := by decide +kernel
theorem dX11_told_141 : decode cX11_told 141 = .ok (.aload_n 0, 1) := by decide +kernel
theorem dX11_told_142 : decode cX11_told 142 = .ok (.getfield 39, 3) := by decide +kernel
theorem dX11_told_145 : decode cX11_told 145 = .ok (.aload 6, 2) := by decide +kernel
theorem dX11_told_147 : decode cX11_told 147 = .ok (.iload 7, 2) := by decide +kernel
theorem dX11_told_149 : decode cX11_told 149 = .ok (.iconst 5, 1) := by decide +kernel
theorem dX11_told_150 : decode cX11_told 150 = .ok (.invokevirtual 191, 3) := by decide +kernel
theorem dX11_told_153 : decode cX11_told 153 = .ok (.ireturn, 1) := by decide +kernel
theorem dX11_told_154 : decode cX11_told 154 = .ok (.aload_n 0, 1) := by decide +kernel
theorem dX11_told_155 : decode cX11_told 155 = .ok (.getfield 39, 3) := by decide +kernel
theorem dX11_told_158 : decode cX11_told 158 = .ok (.aload 6, 2) := by decide +kernel
theorem dX11_told_160 : decode cX11_told 160 = .ok (.iload 7, 2) := by decide +kernel
theorem dX11_told_162 : decode cX11_told 162 = .ok (.iconst 4, 1) := by decide +kernel
theorem dX11_told_163 : decode cX11_told 163 = .ok (.invokevirtual 191, 3) := by decide +kernel
theorem dX11_told_166 : decode cX11_told 166 = .ok (.ireturn, 1) := by decide +kernel
end
section
theorem cd_X11_tear : Cond.code yX11_tear cX11_tear 4 (some .int) ∈ pWW := pw4 (List.mem_of_getElem? (i := 183) rfl) rfl
abbrev m_X11_tear : MT := (yX11_tear, cX11_tear, 4, (some .int))
theorem ok_X11_tear : pOk m_X11_tear := ⟨⟨cd_X11_tear, ini_11⟩, by decide +kernel, ⟨by decide +kernel, by decide +kernel⟩, Nat.le_of_ble_eq_true rfl⟩
theorem np_X11_tear : (parseMethodDescriptor yX11_tear.desc).map (fun d => d.parameters.length) = some 3 := by decide +kernel
theorem im_X11_tear : Cond.instanceMethod yX11_tear ∈ pWW := pw4 (List.mem_of_getElem? (i := 182) rfl) rfl
theorem se_X11_tear : Cond.selects RX11 yX11_tear yX11_tear ∈ pWW := pws (List.mem_map.mpr ⟨_, lw_pin 44 rfl, rfl⟩) rfl
theorem fl11_73 : Cond.fieldLink RX11 73 (TX11 14).1 (TX11 14).2.1 (TX11 14).2.2.1 ∈ pWW := pw2 (List.mem_of_getElem? (i := 210) rfl) rfl
theorem ml11_310 : Cond.methodLink RX11 310 yX8_share ∈ pWW := pw5 (List.mem_of_getElem? (i := 199) rfl) rfl
theorem fl11_50 : Cond.fieldLink RX11 50 (TX11 11).1 (TX11 11).2.1 (TX11 11).2.2.1 ∈ pWW := pw2 (List.mem_of_getElem? (i := 207) rfl) rfl
theorem ml11_293 : Cond.methodLink RX11 293 yX6_fold ∈ pWW := pw4 (List.mem_of_getElem? (i := 184) rfl) rfl
theorem fl11_59 : Cond.fieldLink RX11 59 (TX11 12).1 (TX11 12).2.1 (TX11 12).2.2.1 ∈ pWW := pw2 (List.mem_of_getElem? (i := 208) rfl) rfl
theorem ml11_297 : Cond.methodLink RX11 297 yX2_drop ∈ pWW := pw4 (List.mem_of_getElem? (i := 230) rfl) rfl
theorem ml11_300 : Cond.methodLink RX11 300 yX6_move ∈ pWW := pw5 (List.mem_of_getElem? (i := 82) rfl) rfl
theorem ml11_303 : Cond.methodLink RX11 303 yX6_alike ∈ pWW := pw5 (List.mem_of_getElem? (i := 122) rfl) rfl
theorem fl11_66 : Cond.fieldLink RX11 66 (TX11 13).1 (TX11 13).2.1 (TX11 13).2.2.1 ∈ pWW := pw2 (List.mem_of_getElem? (i := 209) rfl) rfl
theorem ml11_306 : Cond.methodLink RX11 306 yX4_melt ∈ pWW := pw5 (List.mem_of_getElem? (i := 131) rfl) rfl
theorem dX11_tear_0 : decode cX11_tear 0 = .ok (.iload_n 1, 1) := by decide +kernel
theorem dX11_tear_1 : decode cX11_tear 1 = .ok (.tableswitch 89 0 4 #[35, 44, 53, 62, 71], 35) := by decide +kernel
theorem dX11_tear_90 : decode cX11_tear 90 = .ok (.aload_n 0, 1) := by decide +kernel
theorem dX11_tear_91 : decode cX11_tear 91 = .ok (.getfield 73, 3) := by decide +kernel
theorem dX11_tear_94 : decode cX11_tear 94 = .ok (.aload_n 3, 1) := by decide +kernel
theorem dX11_tear_95 : decode cX11_tear 95 = .ok (.invokevirtual 310, 3) := by decide +kernel
theorem dX11_tear_98 : decode cX11_tear 98 = .ok (.ireturn, 1) := by decide +kernel
theorem dX11_tear_36 : decode cX11_tear 36 = .ok (.aload_n 0, 1) := by decide +kernel
theorem dX11_tear_37 : decode cX11_tear 37 = .ok (.getfield 50, 3) := by decide +kernel
theorem dX11_tear_40 : decode cX11_tear 40 = .ok (.aload_n 3, 1) := by decide +kernel
theorem dX11_tear_41 : decode cX11_tear 41 = .ok (.invokevirtual 293, 3) := by decide +kernel
theorem dX11_tear_44 : decode cX11_tear 44 = .ok (.ireturn, 1) := by decide +kernel
theorem dX11_tear_45 : decode cX11_tear 45 = .ok (.aload_n 0, 1) := by decide +kernel
theorem dX11_tear_46 : decode cX11_tear 46 = .ok (.getfield 59, 3) := by decide +kernel
theorem dX11_tear_49 : decode cX11_tear 49 = .ok (.aload_n 3, 1) := by decide +kernel
theorem dX11_tear_50 : decode cX11_tear 50 = .ok (.invokevirtual 297, 3) := by decide +kernel
theorem dX11_tear_53 : decode cX11_tear 53 = .ok (.ireturn, 1) := by decide +kernel
theorem dX11_tear_54 : decode cX11_tear 54 = .ok (.aload_n 0, 1) := by decide +kernel
theorem dX11_tear_55 : decode cX11_tear 55 = .ok (.getfield 50, 3) := by decide +kernel
theorem dX11_tear_58 : decode cX11_tear 58 = .ok (.aload_n 3, 1) := by decide +kernel
theorem dX11_tear_59 : decode cX11_tear 59 = .ok (.invokevirtual 300, 3) := by decide +kernel
theorem dX11_tear_62 : decode cX11_tear 62 = .ok (.ireturn, 1) := by decide +kernel
theorem dX11_tear_63 : decode cX11_tear 63 = .ok (.aload_n 0, 1) := by decide +kernel
theorem dX11_tear_64 : decode cX11_tear 64 = .ok (.getfield 50, 3) := by decide +kernel
theorem dX11_tear_67 : decode cX11_tear 67 = .ok (.aload_n 3, 1) := by decide +kernel
theorem dX11_tear_68 : decode cX11_tear 68 = .ok (.invokevirtual 303, 3) := by decide +kernel
theorem dX11_tear_71 : decode cX11_tear 71 = .ok (.ireturn, 1) := by decide +kernel
theorem dX11_tear_72 : decode cX11_tear 72 = .ok (.aload_n 0, 1) := by decide +kernel
theorem dX11_tear_73 : decode cX11_tear 73 = .ok (.getfield 66, 3) := by decide +kernel
theorem dX11_tear_76 : decode cX11_tear 76 = .ok (.aload_n 0, 1) := by decide +kernel
theorem dX11_tear_77 : decode cX11_tear 77 = .ok (.getfield 19, 3) := by decide +kernel
theorem dX11_tear_80 : decode cX11_tear 80 = .ok (.aload_n 0, 1) := by decide +kernel
theorem dX11_tear_81 : decode cX11_tear 81 = .ok (.getfield 116, 3) := by decide +kernel
theorem dX11_tear_84 : decode cX11_tear 84 = .ok (.iload_n 2, 1) := by decide +kernel
theorem dX11_tear_85 : decode cX11_tear 85 = .ok (.aload_n 3, 1) := by decide +kernel
theorem dX11_tear_86 : decode cX11_tear 86 = .ok (.invokevirtual 306, 3) := by decide +kernel
theorem dX11_tear_89 : decode cX11_tear 89 = .ok (.ireturn, 1) := by decide +kernel
end
section
theorem cd_X11_pass : Cond.code yX11_pass cX11_pass 5 (some .int) ∈ pWW := pw4 (List.mem_of_getElem? (i := 179) rfl) rfl
abbrev m_X11_pass : MT := (yX11_pass, cX11_pass, 5, (some .int))
theorem ok_X11_pass : pOk m_X11_pass := ⟨⟨cd_X11_pass, ini_11⟩, by decide +kernel, ⟨by decide +kernel, by decide +kernel⟩, Nat.le_of_ble_eq_true rfl⟩
theorem np_X11_pass : (parseMethodDescriptor yX11_pass.desc).map (fun d => d.parameters.length) = some 2 := by decide +kernel
theorem im_X11_pass : Cond.instanceMethod yX11_pass ∈ pWW := pw4 (List.mem_of_getElem? (i := 177) rfl) rfl
theorem se_X11_pass : Cond.selects RX11 yX11_pass yX11_pass ∈ pWW := pw4 (List.mem_of_getElem? (i := 178) rfl) rfl
theorem ml11_194 : Cond.methodLink RX11 194 yX11_tear ∈ pWW := pw4 (List.mem_of_getElem? (i := 180) rfl) rfl
theorem ml11_198 : Cond.methodLink RX11 198 yX1_link ∈ pWW := pw4 (List.mem_of_getElem? (i := 24) rfl) rfl
theorem ml11_201 : Cond.methodLink RX11 201 yX10_spoil ∈ pWW := pw4 (List.mem_of_getElem? (i := 42) rfl) rfl
theorem fl11_83 : Cond.fieldLink RX11 83 (TX11 8).1 (TX11 8).2.1 (TX11 8).2.2.1 ∈ pWW := pw2 (List.mem_of_getElem? (i := 204) rfl) rfl
theorem ml11_120 : Cond.methodLink RX11 120 yX7_forget ∈ pWW := pw4 (List.mem_of_getElem? (i := 47) rfl) rfl
theorem dX11_pass_0 : decode cX11_pass 0 = .ok (.aload_n 0, 1) := by decide +kernel
theorem dX11_pass_1 : decode cX11_pass 1 = .ok (.iload_n 2, 1) := by decide +kernel
theorem dX11_pass_2 : decode cX11_pass 2 = .ok (.invokevirtual 123, 3) := by decide +kernel
theorem dX11_pass_5 : decode cX11_pass 5 = .ok (.astore_n 3, 1) := by decide +kernel
theorem dX11_pass_6 : decode cX11_pass 6 = .ok (.aload_n 3, 1) := by decide +kernel
theorem dX11_pass_7 : decode cX11_pass 7 = .ok (.ifnull 12, 3) := by decide +kernel
theorem dX11_pass_19 : decode cX11_pass 19 = .ok (.iconst (-1), 1) := by decide +kernel
theorem dX11_pass_20 : decode cX11_pass 20 = .ok (.ireturn, 1) := by decide +kernel
theorem dX11_pass_10 : decode cX11_pass 10 = .ok (.iload_n 1, 1) := by decide +kernel
theorem dX11_pass_11 : decode cX11_pass 11 = .ok (.ifCond .lt 8, 3) := by decide +kernel
theorem dX11_pass_14 : decode cX11_pass 14 = .ok (.iload_n 1, 1) := by decide +kernel
theorem dX11_pass_15 : decode cX11_pass 15 = .ok (.iconst 5, 1) := by decide +kernel
theorem dX11_pass_16 : decode cX11_pass 16 = .ok (.if_icmp .le 5, 3) := by decide +kernel
theorem dX11_pass_21 : decode cX11_pass 21 = .ok (.aload_n 0, 1) := by decide +kernel
theorem dX11_pass_22 : decode cX11_pass 22 = .ok (.iload_n 1, 1) := by decide +kernel
theorem dX11_pass_23 : decode cX11_pass 23 = .ok (.iload_n 2, 1) := by decide +kernel
theorem dX11_pass_24 : decode cX11_pass 24 = .ok (.aload_n 3, 1) := by decide +kernel
theorem dX11_pass_25 : decode cX11_pass 25 = .ok (.invokevirtual 194, 3) := by decide +kernel
theorem dX11_pass_28 : decode cX11_pass 28 = .ok (.istore 4, 2) := by decide +kernel
theorem dX11_pass_30 : decode cX11_pass 30 = .ok (.aload_n 3, 1) := by decide +kernel
theorem dX11_pass_31 : decode cX11_pass 31 = .ok (.invokevirtual 198, 3) := by decide +kernel
theorem dX11_pass_34 : decode cX11_pass 34 = .ok (.aload_n 0, 1) := by decide +kernel
theorem dX11_pass_35 : decode cX11_pass 35 = .ok (.getfield 39, 3) := by decide +kernel
theorem dX11_pass_38 : decode cX11_pass 38 = .ok (.iload_n 2, 1) := by decide +kernel
theorem dX11_pass_39 : decode cX11_pass 39 = .ok (.invokevirtual 201, 3) := by decide +kernel
theorem dX11_pass_42 : decode cX11_pass 42 = .ok (.aload_n 0, 1) := by decide +kernel
theorem dX11_pass_43 : decode cX11_pass 43 = .ok (.getfield 83, 3) := by decide +kernel
theorem dX11_pass_46 : decode cX11_pass 46 = .ok (.invokevirtual 120, 3) := by decide +kernel
theorem dX11_pass_49 : decode cX11_pass 49 = .ok (.iload 4, 2) := by decide +kernel
theorem dX11_pass_51 : decode cX11_pass 51 = .ok (.ireturn, 1) := by decide +kernel
end
section
theorem cd_X11_takeMade : Cond.code yX11_takeMade cX11_takeMade 2 none ∈ pWW := pw4 (List.mem_of_getElem? (i := 19) rfl) rfl
abbrev m_X11_takeMade : MT := (yX11_takeMade, cX11_takeMade, 2, none)
theorem ok_X11_takeMade : pOk m_X11_takeMade := ⟨⟨cd_X11_takeMade, ini_11⟩, by decide +kernel, ⟨by decide +kernel, by decide +kernel⟩, Nat.le_of_ble_eq_true rfl⟩
theorem np_X11_takeMade : (parseMethodDescriptor yX11_takeMade.desc).map (fun d => d.parameters.length) = some 1 := by decide +kernel
theorem im_X11_takeMade : Cond.instanceMethod yX11_takeMade ∈ pWW := pw4 (List.mem_of_getElem? (i := 18) rfl) rfl
theorem se_X11_takeMade : Cond.selects RX11 yX11_takeMade yX11_takeMade ∈ pWW := pws (List.mem_map.mpr ⟨_, lw_pin 34 rfl, rfl⟩) rfl
theorem fl11_15 : Cond.fieldLink RX11 15 (TX11 3).1 (TX11 3).2.1 (TX11 3).2.2.1 ∈ pWW := pw2 (List.mem_of_getElem? (i := 199) rfl) rfl
theorem fl11_25 : Cond.fieldLink RX11 25 (TX11 5).1 (TX11 5).2.1 (TX11 5).2.2.1 ∈ pWW := pw2 (List.mem_of_getElem? (i := 201) rfl) rfl
theorem ml11_285 : Cond.methodLink RX11 285 yX5_exchange ∈ pWW := pw4 (List.mem_of_getElem? (i := 20) rfl) rfl
theorem ml11_289 : Cond.methodLink RX11 289 yX1_copyFrom ∈ pWW := pw4 (List.mem_of_getElem? (i := 32) rfl) rfl
theorem dX11_takeMade_0 : decode cX11_takeMade 0 = .ok (.iload_n 1, 1) := by decide +kernel
theorem dX11_takeMade_1 : decode cX11_takeMade 1 = .ok (.ifCond .lt 39, 3) := by decide +kernel
theorem dX11_takeMade_40 : decode cX11_takeMade 40 = .ok (.return_, 1) := by decide +kernel
theorem dX11_takeMade_4 : decode cX11_takeMade 4 = .ok (.iload_n 1, 1) := by decide +kernel
theorem dX11_takeMade_5 : decode cX11_takeMade 5 = .ok (.aload_n 0, 1) := by decide +kernel
theorem dX11_takeMade_6 : decode cX11_takeMade 6 = .ok (.getfield 15, 3) := by decide +kernel
theorem dX11_takeMade_9 : decode cX11_takeMade 9 = .ok (.arraylength, 1) := by decide +kernel
theorem dX11_takeMade_10 : decode cX11_takeMade 10 = .ok (.if_icmp .ge 30, 3) := by decide +kernel
theorem dX11_takeMade_13 : decode cX11_takeMade 13 = .ok (.iload_n 1, 1) := by decide +kernel
theorem dX11_takeMade_14 : decode cX11_takeMade 14 = .ok (.aload_n 0, 1) := by decide +kernel
theorem dX11_takeMade_15 : decode cX11_takeMade 15 = .ok (.getfield 19, 3) := by decide +kernel
theorem dX11_takeMade_18 : decode cX11_takeMade 18 = .ok (.arraylength, 1) := by decide +kernel
theorem dX11_takeMade_19 : decode cX11_takeMade 19 = .ok (.if_icmp .ge 21, 3) := by decide +kernel
theorem dX11_takeMade_22 : decode cX11_takeMade 22 = .ok (.aload_n 0, 1) := by decide +kernel
theorem dX11_takeMade_23 : decode cX11_takeMade 23 = .ok (.getfield 19, 3) := by decide +kernel
theorem dX11_takeMade_26 : decode cX11_takeMade 26 = .ok (.iload_n 1, 1) := by decide +kernel
theorem dX11_takeMade_27 : decode cX11_takeMade 27 = .ok (.aaload, 1) := by decide +kernel
theorem dX11_takeMade_28 : decode cX11_takeMade 28 = .ok (.ifnull 12, 3) := by decide +kernel
theorem dX11_takeMade_31 : decode cX11_takeMade 31 = .ok (.aload_n 0, 1) := by decide +kernel
theorem dX11_takeMade_32 : decode cX11_takeMade 32 = .ok (.getfield 15, 3) := by decide +kernel
theorem dX11_takeMade_35 : decode cX11_takeMade 35 = .ok (.iload_n 1, 1) := by decide +kernel
theorem dX11_takeMade_36 : decode cX11_takeMade 36 = .ok (.aaload, 1) := by decide +kernel
theorem dX11_takeMade_37 : decode cX11_takeMade 37 = .ok (.ifnonnull 4, 3) := by decide +kernel
theorem dX11_takeMade_41 : decode cX11_takeMade 41 = .ok (.aload_n 0, 1) := by decide +kernel
theorem dX11_takeMade_42 : decode cX11_takeMade 42 = .ok (.getfield 15, 3) := by decide +kernel
theorem dX11_takeMade_45 : decode cX11_takeMade 45 = .ok (.iload_n 1, 1) := by decide +kernel
theorem dX11_takeMade_46 : decode cX11_takeMade 46 = .ok (.aload_n 0, 1) := by decide +kernel
theorem dX11_takeMade_47 : decode cX11_takeMade 47 = .ok (.getfield 25, 3) := by decide +kernel
theorem dX11_takeMade_50 : decode cX11_takeMade 50 = .ok (.iload_n 1, 1) := by decide +kernel
theorem dX11_takeMade_51 : decode cX11_takeMade 51 = .ok (.aload_n 0, 1) := by decide +kernel
theorem dX11_takeMade_52 : decode cX11_takeMade 52 = .ok (.getfield 15, 3) := by decide +kernel
theorem dX11_takeMade_55 : decode cX11_takeMade 55 = .ok (.iload_n 1, 1) := by decide +kernel
theorem dX11_takeMade_56 : decode cX11_takeMade 56 = .ok (.aaload, 1) := by decide +kernel
theorem dX11_takeMade_57 : decode cX11_takeMade 57 = .ok (.invokevirtual 285, 3) := by decide +kernel
theorem dX11_takeMade_60 : decode cX11_takeMade 60 = .ok (.aastore, 1) := by decide +kernel
theorem dX11_takeMade_61 : decode cX11_takeMade 61 = .ok (.aload_n 0, 1) := by decide +kernel
theorem dX11_takeMade_62 : decode cX11_takeMade 62 = .ok (.getfield 15, 3) := by decide +kernel
theorem dX11_takeMade_65 : decode cX11_takeMade 65 = .ok (.iload_n 1, 1) := by decide +kernel
theorem dX11_takeMade_66 : decode cX11_takeMade 66 = .ok (.aaload, 1) := by decide +kernel
theorem dX11_takeMade_67 : decode cX11_takeMade 67 = .ok (.invokevirtual 198, 3) := by decide +kernel
theorem dX11_takeMade_70 : decode cX11_takeMade 70 = .ok (.aload_n 0, 1) := by decide +kernel
theorem dX11_takeMade_71 : decode cX11_takeMade 71 = .ok (.getfield 19, 3) := by decide +kernel
theorem dX11_takeMade_74 : decode cX11_takeMade 74 = .ok (.iload_n 1, 1) := by decide +kernel
theorem dX11_takeMade_75 : decode cX11_takeMade 75 = .ok (.aaload, 1) := by decide +kernel
theorem dX11_takeMade_76 : decode cX11_takeMade 76 = .ok (.aload_n 0, 1) := by decide +kernel
theorem dX11_takeMade_77 : decode cX11_takeMade 77 = .ok (.getfield 15, 3) := by decide +kernel
theorem dX11_takeMade_80 : decode cX11_takeMade 80 = .ok (.iload_n 1, 1) := by decide +kernel
theorem dX11_takeMade_81 : decode cX11_takeMade 81 = .ok (.aaload, 1) := by decide +kernel
theorem dX11_takeMade_82 : decode cX11_takeMade 82 = .ok (.invokevirtual 289, 3) := by decide +kernel
theorem dX11_takeMade_85 : decode cX11_takeMade 85 = .ok (.aload_n 0, 1) := by decide +kernel
theorem dX11_takeMade_86 : decode cX11_takeMade 86 = .ok (.getfield 39, 3) := by decide +kernel
theorem dX11_takeMade_89 : decode cX11_takeMade 89 = .ok (.iload_n 1, 1) := by decide +kernel
theorem dX11_takeMade_90 : decode cX11_takeMade 90 = .ok (.invokevirtual 201, 3) := by decide +kernel
theorem dX11_takeMade_93 : decode cX11_takeMade 93 = .ok (.return_, 1) := by decide +kernel
set_option maxRecDepth 20000 in
theorem k_X11_takeMade (d : Nat) {T : CT} {σ : MS} {a : Nat} {r : Int} (ha : OB T a 11) (h_r : -2147483648 ≤ r ∧ r ≤ 2147483647) (hw : WT T σ) : Tn (d + 4) m_X11_takeMade 0 T σ [(0, .ref a), (1, .int (iI r))] [] (fun ro T2 σ2 => ro = none ∧ WT T2 σ2 ∧ FrC T [5, 6, 7, 8, 9, 10] σ σ2) := by
  refine tn_iload_n dX11_takeMade_0 rfl 1 rfl ?_
  refine tn_if_lt (tgt := 40) dX11_takeMade_1 (by decide) ⟨by omega, by omega⟩ (fun h1 => ?_) (fun h1 => ?_)
  · exact tn_vret rfl dX11_takeMade_40 ⟨rfl, hw, FrC.rfl⟩
  · refine tn_iload_n dX11_takeMade_4 rfl 1 rfl ?_
    refine tn_aload_n dX11_takeMade_5 rfl 0 rfl ?_
    obtain ⟨x2, hx3, hk4, hl5⟩ : ∃ x : Nat, σ.2.1 98 a = (x : Int) ∧ AR T x 4 6 6 := wf_98 hw ha
    have hk4i : (T x2).1 = 4 ∨ (T x2).1 = 5 := by omega
    refine tn_getR (ci := 11) (i := 3) (n := 98) (x := x2) dX11_takeMade_6 rfl lay_11 (by decide) fl11_15 ha rfl rfl (hx3) ?_
    refine tn_alenX dX11_takeMade_9 (by have q9 := hk4i; omega) ?_
    refine tn_icmp_ge (tgt := 40) dX11_takeMade_10 (by decide) ⟨by omega, by omega⟩ ⟨by omega, by omega⟩ (fun h6 => ?_) (fun h6 => ?_)
    · exact tn_vret rfl dX11_takeMade_40 ⟨rfl, hw, FrC.rfl⟩
    · refine tn_iload_n dX11_takeMade_13 rfl 1 rfl ?_
      refine tn_aload_n dX11_takeMade_14 rfl 0 rfl ?_
      obtain ⟨x7, hx8, hk9, hl10⟩ : ∃ x : Nat, σ.2.1 99 a = (x : Int) ∧ AR T x 5 6 6 := wf_99 hw ha
      have hk9i : (T x7).1 = 4 ∨ (T x7).1 = 5 := by omega
      refine tn_getR (ci := 11) (i := 4) (n := 99) (x := x7) dX11_takeMade_15 rfl lay_11 (by decide) fl11_19 ha rfl rfl (hx8) ?_
      refine tn_alenX dX11_takeMade_18 (by have q9 := hk9i; omega) ?_
      refine tn_icmp_ge (tgt := 40) dX11_takeMade_19 (by decide) ⟨by omega, by omega⟩ ⟨by omega, by omega⟩ (fun h11 => absurd h11 (by omega)) (fun h11 => ?_)
      refine tn_aload_n dX11_takeMade_22 rfl 0 rfl ?_
      refine tn_getR (ci := 11) (i := 4) (n := 99) (x := x7) dX11_takeMade_23 rfl lay_11 (by decide) fl11_19 ha rfl rfl (hx8) ?_
      refine tn_iload_n dX11_takeMade_26 rfl 1 rfl ?_
      obtain ⟨x12, hx13, hk14⟩ := (hw).2.2.2.1.2 x7 hk9 (r) (by omega) (by omega)
      refine tn_aald (z := r) (x := x12) dX11_takeMade_27 hk9i (by omega) (by omega) (by omega) hx13 ?_
      have hk14o : OB T x12 1 := ⟨by omega, by rw [hk14]; rfl, by omega⟩
      refine tn_ifnull dX11_takeMade_28 ?_
      refine tn_aload_n dX11_takeMade_31 rfl 0 rfl ?_
      refine tn_getR (ci := 11) (i := 3) (n := 98) (x := x2) dX11_takeMade_32 rfl lay_11 (by decide) fl11_15 ha rfl rfl (hx3) ?_
      refine tn_iload_n dX11_takeMade_35 rfl 1 rfl ?_
      obtain ⟨x15, hx16, hk17⟩ := (hw).2.2.2.1.1 x2 hk4 (r) (by omega) (by omega)
      refine tn_aald (z := r) (x := x15) dX11_takeMade_36 hk4i (by omega) (by omega) (by omega) hx16 ?_
      have hk17o : OB T x15 1 := ⟨by omega, by rw [hk17]; rfl, by omega⟩
      refine tn_ifnonnull (tgt := 41) dX11_takeMade_37 (by decide) ?_
      refine tn_aload_n dX11_takeMade_41 rfl 0 rfl ?_
      refine tn_getR (ci := 11) (i := 3) (n := 98) (x := x2) dX11_takeMade_42 rfl lay_11 (by decide) fl11_15 ha rfl rfl (hx3) ?_
      refine tn_iload_n dX11_takeMade_45 rfl 1 rfl ?_
      refine tn_aload_n dX11_takeMade_46 rfl 0 rfl ?_
      obtain ⟨x18, hx19, hk20⟩ : ∃ x : Nat, σ.2.1 100 a = (x : Int) ∧ (T x).1 = 35 := wf_100 hw ha
      have hk20o : OB T x18 5 := ⟨by omega, by rw [hk20]; rfl, by omega⟩
      refine tn_getR (ci := 11) (i := 5) (n := 100) (x := x18) dX11_takeMade_47 rfl lay_11 (by decide) fl11_25 ha rfl rfl (hx19) ?_
      refine tn_iload_n dX11_takeMade_50 rfl 1 rfl ?_
      refine tn_aload_n dX11_takeMade_51 rfl 0 rfl ?_
      refine tn_getR (ci := 11) (i := 3) (n := 98) (x := x2) dX11_takeMade_52 rfl lay_11 (by decide) fl11_15 ha rfl rfl (hx3) ?_
      refine tn_iload_n dX11_takeMade_55 rfl 1 rfl ?_
      obtain ⟨x22, hx23, hk24⟩ := (hw).2.2.2.1.1 x2 hk4 (r) (by omega) (by omega)
      refine tn_aald (z := r) (x := x22) dX11_takeMade_56 hk4i (by omega) (by omega) (by omega) hx23 ?_
      have hk24o : OB T x22 1 := ⟨by omega, by rw [hk24]; rfl, by omega⟩
      refine tn_callV (M := m_X11_takeMade) (pc := 57) (ix := 285) (ci := 5) (M' := m_X5_exchange) (As := [.int (iI r), .ref x22]) (rest := [.int (iI r), .ref x2]) dX11_takeMade_57 ok_X5_exchange im_X5_exchange se_X5_exchange ml11_285 np_X5_exchange rfl rfl hk20o rfl (Nat.le_of_ble_eq_true rfl) (Nat.le_of_ble_eq_true rfl) rfl (k_X5_exchange (d + 2) (T := T) (σ := σ) (a := x18) (p1 := r) (p2 := x22) hk20o (by omega) hk24o hk24 hw ) (fun r25 T27 σ26 gt28 hp => ?_)
      obtain ⟨v29, rfl, rfl, w30, F31, rv32⟩ := hp
      clear gt28
      obtain ⟨x33, rfl, hk34⟩ := rv32
      show Tn _ _ 60 T σ26 [(0, .ref a), (1, .int (iI r))] (vl true (x33 : Int) :: [.int (iI r), .ref x2]) _
      rw [vl_ref rfl]
      have hk34o : OB T x33 1 := ⟨by omega, by rw [hk34]; rfl, by omega⟩
      refine tn_aastQ (z := r) (v := x33) dX11_takeMade_60 (by have q9 := hk4i; omega) hk34o.r (by omega) (by omega) (by omega) ?_
      refine tn_aload_n dX11_takeMade_61 rfl 0 rfl ?_
      refine tn_getR (ci := 11) (i := 3) (n := 98) (x := x2) dX11_takeMade_62 rfl lay_11 (by decide) fl11_15 ha rfl rfl (rc_a (Or.inl (by decide)) (rc_F F31 (Or.inl (by decide)) (by decide) (hx3))) ?_
      refine tn_iload_n dX11_takeMade_65 rfl 1 rfl ?_
      obtain ⟨x35, hx36, hk37⟩ := ((show WT T (sA (1000 + x2) (r) (x33 : Int) σ26) from (w30.rq (by have h1 := hk4; have h2 := hk34; omega)))).2.2.2.1.1 x2 hk4 (r) (by omega) (by omega)
      refine tn_aald (z := r) (x := x35) dX11_takeMade_66 hk4i (by omega) (by omega) (by omega) hx36 ?_
      have hk37o : OB T x35 1 := ⟨by omega, by rw [hk37]; rfl, by omega⟩
      refine tn_callV (M := m_X11_takeMade) (pc := 67) (ix := 198) (ci := 1) (M' := m_X1_link) (As := []) (rest := []) dX11_takeMade_67 ok_X1_link im_X1_link se_X1_link ml11_198 np_X1_link rfl rfl hk37o rfl (Nat.le_of_ble_eq_true rfl) (Nat.le_of_ble_eq_true rfl) rfl (k_X1_link (d) (T := T) (σ := (sA (1000 + x2) (r) (x33 : Int) σ26)) (a := x35) hk37o (w30.rq (by have h1 := hk4; have h2 := hk34; omega)) ) (fun r38 T40 σ39 gt41 hp => ?_)
      obtain ⟨rfl, rfl, w43, F44⟩ := hp
      clear gt41
      show Tn _ _ 70 T σ39 [(0, .ref a), (1, .int (iI r))] [] _
      refine tn_aload_n dX11_takeMade_70 rfl 0 rfl ?_
      refine tn_getR (ci := 11) (i := 4) (n := 99) (x := x7) dX11_takeMade_71 rfl lay_11 (by decide) fl11_19 ha rfl rfl (rc_F F44 (Or.inl (by decide)) (by decide) (rc_a (Or.inl (by decide)) (rc_F F31 (Or.inl (by decide)) (by decide) (hx8)))) ?_
      refine tn_iload_n dX11_takeMade_74 rfl 1 rfl ?_
      obtain ⟨x45, hx46, hk47⟩ := (w43).2.2.2.1.2 x7 hk9 (r) (by omega) (by omega)
      refine tn_aald (z := r) (x := x45) dX11_takeMade_75 hk9i (by omega) (by omega) (by omega) hx46 ?_
      have hk47o : OB T x45 1 := ⟨by omega, by rw [hk47]; rfl, by omega⟩
      refine tn_aload_n dX11_takeMade_76 rfl 0 rfl ?_
      refine tn_getR (ci := 11) (i := 3) (n := 98) (x := x2) dX11_takeMade_77 rfl lay_11 (by decide) fl11_15 ha rfl rfl (rc_F F44 (Or.inl (by decide)) (by decide) (rc_a (Or.inl (by decide)) (rc_F F31 (Or.inl (by decide)) (by decide) (hx3)))) ?_
      refine tn_iload_n dX11_takeMade_80 rfl 1 rfl ?_
      obtain ⟨x48, hx49, hk50⟩ := (w43).2.2.2.1.1 x2 hk4 (r) (by omega) (by omega)
      refine tn_aald (z := r) (x := x48) dX11_takeMade_81 hk4i (by omega) (by omega) (by omega) hx49 ?_
      have hk50o : OB T x48 1 := ⟨by omega, by rw [hk50]; rfl, by omega⟩
      refine tn_callV (M := m_X11_takeMade) (pc := 82) (ix := 289) (ci := 1) (M' := m_X1_copyFrom) (As := [.ref x48]) (rest := []) dX11_takeMade_82 ok_X1_copyFrom im_X1_copyFrom se_X1_copyFrom ml11_289 np_X1_copyFrom rfl rfl hk47o rfl (Nat.le_of_ble_eq_true rfl) (Nat.le_of_ble_eq_true rfl) rfl (k_X1_copyFrom (d) (T := T) (σ := σ39) (a := x45) (p1 := x48) hk47o hk47 hk50o hk50 w43 ) (fun r51 T53 σ52 gt54 hp => ?_)
      obtain ⟨rfl, w56, F57⟩ := hp
      replace ha : OB T53 a 11 := gt54.ob ha
      show Tn _ _ 85 T53 σ52 [(0, .ref a), (1, .int (iI r))] [] _
      refine tn_aload_n dX11_takeMade_85 rfl 0 rfl ?_
      obtain ⟨x58, hx59, hk60⟩ : ∃ x : Nat, σ52.2.1 102 a = (x : Int) ∧ (T53 x).1 = 40 := wf_102 w56 ha
      have hk60o : OB T53 x58 10 := ⟨by omega, by rw [hk60]; rfl, by omega⟩
      refine tn_getR (ci := 11) (i := 7) (n := 102) (x := x58) dX11_takeMade_86 rfl lay_11 (by decide) fl11_39 ha rfl rfl (hx59) ?_
      refine tn_iload_n dX11_takeMade_89 rfl 1 rfl ?_
      refine tn_callV (M := m_X11_takeMade) (pc := 90) (ix := 201) (ci := 10) (M' := m_X10_spoil) (As := [.int (iI r)]) (rest := []) dX11_takeMade_90 ok_X10_spoil im_X10_spoil se_X10_spoil ml11_201 np_X10_spoil rfl rfl hk60o rfl (Nat.le_of_ble_eq_true rfl) (Nat.le_of_ble_eq_true rfl) rfl (k_X10_spoil (d + 1) (T := T53) (σ := σ52) (a := x58) (p1 := r) hk60o (by omega) w56 ) (fun r62 T64 σ63 gt65 hp => ?_)
      obtain ⟨rfl, rfl, w67, F68⟩ := hp
      clear gt65
      show Tn _ _ 93 T53 σ63 [(0, .ref a), (1, .int (iI r))] [] _
      exact tn_vret rfl dX11_takeMade_93 ⟨rfl, w67, (((((FrC.rfl.trans (FrC.sub F31 (by decide))).arr (hk_no (nh_k hk4 (by unfold HT; omega)))).trans (FrC.sub F44 (by decide))).trans (FrC.sub F57 (by decide))).trans (FrC.sub (FrC.old F68 gt54) (by decide)))⟩
end
section
theorem cd_X11_read : Cond.code yX11_read cX11_read 3 (some .int) ∈ pWW := pw3 (List.mem_of_getElem? (i := 20) rfl) rfl
abbrev m_X11_read : MT := (yX11_read, cX11_read, 3, (some .int))
theorem ok_X11_read : pOk m_X11_read := ⟨⟨cd_X11_read, ini_11⟩, by decide +kernel, ⟨by decide +kernel, by decide +kernel⟩, Nat.le_of_ble_eq_true rfl⟩
theorem np_X11_read : (parseMethodDescriptor yX11_read.desc).map (fun d => d.parameters.length) = some 0 := by decide +kernel
theorem im_X11_read : Cond.instanceMethod yX11_read ∈ pWW := pw3 (List.mem_of_getElem? (i := 18) rfl) rfl
theorem se_X11_read : Cond.selects RX11 yX11_read yX11_read ∈ pWW := pw3 (List.mem_of_getElem? (i := 19) rfl) rfl
theorem ml11_94 : Cond.methodLink RX11 94 yX5_take ∈ pWW := pw3 (List.mem_of_getElem? (i := 21) rfl) rfl
theorem fl11_98 : Cond.fieldLink RX11 98 (TX5 10).1 (TX5 10).2.1 (TX5 10).2.2.1 ∈ pWW := pw1 (List.mem_of_getElem? (i := 165) rfl) rfl
theorem fl11_104 : Cond.fieldLink RX11 104 (TX5 11).1 (TX5 11).2.1 (TX5 11).2.2.1 ∈ pWW := pw1 (List.mem_of_getElem? (i := 167) rfl) rfl
theorem fl11_107 : Cond.fieldLink RX11 107 (TX5 5).1 (TX5 5).2.1 (TX5 5).2.2.1 ∈ pWW := pw1 (List.mem_of_getElem? (i := 159) rfl) rfl
theorem ml11_117 : Cond.methodLink RX11 117 yX11_takeMade ∈ pWW := pw4 (List.mem_of_getElem? (i := 16) rfl) rfl
theorem dX11_read_0 : decode cX11_read 0 = .ok (.aload_n 0, 1) := by decide +kernel
theorem dX11_read_1 : decode cX11_read 1 = .ok (.getfield 25, 3) := by decide +kernel
theorem dX11_read_4 : decode cX11_read 4 = .ok (.aload_n 0, 1) := by decide +kernel
theorem dX11_read_5 : decode cX11_read 5 = .ok (.getfield 9, 3) := by decide +kernel
theorem dX11_read_8 : decode cX11_read 8 = .ok (.aload_n 0, 1) := by decide +kernel
theorem dX11_read_9 : decode cX11_read 9 = .ok (.getfield 87, 3) := by decide +kernel
theorem dX11_read_12 : decode cX11_read 12 = .ok (.invokevirtual 94, 3) := by decide +kernel
theorem dX11_read_15 : decode cX11_read 15 = .ok (.istore_n 1, 1) := by decide +kernel
theorem dX11_read_16 : decode cX11_read 16 = .ok (.aload_n 0, 1) := by decide +kernel
theorem dX11_read_17 : decode cX11_read 17 = .ok (.iconst 0, 1) := by decide +kernel
theorem dX11_read_18 : decode cX11_read 18 = .ok (.putfield 87, 3) := by decide +kernel
theorem dX11_read_21 : decode cX11_read 21 = .ok (.aload_n 0, 1) := by decide +kernel
theorem dX11_read_22 : decode cX11_read 22 = .ok (.aload_n 0, 1) := by decide +kernel
theorem dX11_read_23 : decode cX11_read 23 = .ok (.getfield 25, 3) := by decide +kernel
theorem dX11_read_26 : decode cX11_read 26 = .ok (.getfield 98, 3) := by decide +kernel
theorem dX11_read_29 : decode cX11_read 29 = .ok (.putfield 101, 3) := by decide +kernel
theorem dX11_read_32 : decode cX11_read 32 = .ok (.aload_n 0, 1) := by decide +kernel
theorem dX11_read_33 : decode cX11_read 33 = .ok (.iload_n 1, 1) := by decide +kernel
theorem dX11_read_34 : decode cX11_read 34 = .ok (.ifCond .eq 7, 3) := by decide +kernel
theorem dX11_read_41 : decode cX11_read 41 = .ok (.aload_n 0, 1) := by decide +kernel
theorem dX11_read_42 : decode cX11_read 42 = .ok (.getfield 25, 3) := by decide +kernel
theorem dX11_read_45 : decode cX11_read 45 = .ok (.getfield 104, 3) := by decide +kernel
theorem dX11_read_48 : decode cX11_read 48 = .ok (.putfield 43, 3) := by decide +kernel
theorem dX11_read_51 : decode cX11_read 51 = .ok (.iload_n 1, 1) := by decide +kernel
theorem dX11_read_52 : decode cX11_read 52 = .ok (.ifCond .ne 5, 3) := by decide +kernel
theorem dX11_read_55 : decode cX11_read 55 = .ok (.iconst (-1), 1) := by decide +kernel
theorem dX11_read_56 : decode cX11_read 56 = .ok (.ireturn, 1) := by decide +kernel
theorem dX11_read_37 : decode cX11_read 37 = .ok (.iconst (-1), 1) := by decide +kernel
theorem dX11_read_38 : decode cX11_read 38 = .ok (.goto 10, 3) := by decide +kernel
theorem dX11_read_57 : decode cX11_read 57 = .ok (.aload_n 0, 1) := by decide +kernel
theorem dX11_read_58 : decode cX11_read 58 = .ok (.aload_n 0, 1) := by decide +kernel
theorem dX11_read_59 : decode cX11_read 59 = .ok (.getfield 25, 3) := by decide +kernel
theorem dX11_read_62 : decode cX11_read 62 = .ok (.getfield 107, 3) := by decide +kernel
theorem dX11_read_65 : decode cX11_read 65 = .ok (.bipush 6, 2) := by decide +kernel
theorem dX11_read_67 : decode cX11_read 67 = .ok (.invokestatic 110, 3) := by decide +kernel
theorem dX11_read_70 : decode cX11_read 70 = .ok (.putfield 116, 3) := by decide +kernel
theorem dX11_read_73 : decode cX11_read 73 = .ok (.iconst 0, 1) := by decide +kernel
theorem dX11_read_74 : decode cX11_read 74 = .ok (.istore_n 2, 1) := by decide +kernel
theorem dX11_read_75 : decode cX11_read 75 = .ok (.iload_n 2, 1) := by decide +kernel
theorem dX11_read_76 : decode cX11_read 76 = .ok (.aload_n 0, 1) := by decide +kernel
theorem dX11_read_77 : decode cX11_read 77 = .ok (.getfield 116, 3) := by decide +kernel
theorem dX11_read_80 : decode cX11_read 80 = .ok (.if_icmp .ge 14, 3) := by decide +kernel
theorem dX11_read_83 : decode cX11_read 83 = .ok (.aload_n 0, 1) := by decide +kernel
theorem dX11_read_84 : decode cX11_read 84 = .ok (.iload_n 2, 1) := by decide +kernel
theorem dX11_read_85 : decode cX11_read 85 = .ok (.invokevirtual 117, 3) := by decide +kernel
theorem dX11_read_88 : decode cX11_read 88 = .ok (.iinc 2 1, 3) := by decide +kernel
theorem dX11_read_91 : decode cX11_read 91 = .ok (.goto (-16), 3) := by decide +kernel
theorem dX11_read_94 : decode cX11_read 94 = .ok (.aload_n 0, 1) := by decide +kernel
theorem dX11_read_95 : decode cX11_read 95 = .ok (.getfield 83, 3) := by decide +kernel
theorem dX11_read_98 : decode cX11_read 98 = .ok (.invokevirtual 120, 3) := by decide +kernel
theorem dX11_read_101 : decode cX11_read 101 = .ok (.aload_n 0, 1) := by decide +kernel
theorem dX11_read_102 : decode cX11_read 102 = .ok (.getfield 116, 3) := by decide +kernel
theorem dX11_read_105 : decode cX11_read 105 = .ok (.ireturn, 1) := by decide +kernel
end
section
theorem cd_X11_start : Cond.code yX11_start cX11_start 6 (some .boolean) ∈ pWW := pw6 (List.mem_of_getElem? (i := 28) rfl) rfl
abbrev m_X11_start : MT := (yX11_start, cX11_start, 6, (some .boolean))
theorem ok_X11_start : pOk m_X11_start := ⟨⟨cd_X11_start, ini_11⟩, by decide +kernel, ⟨by decide +kernel, by decide +kernel⟩, Nat.le_of_ble_eq_true rfl⟩
theorem np_X11_start : (parseMethodDescriptor yX11_start.desc).map (fun d => d.parameters.length) = some 5 := by decide +kernel
theorem im_X11_start : Cond.instanceMethod yX11_start ∈ pWW := pw6 (List.mem_of_getElem? (i := 26) rfl) rfl
theorem se_X11_start : Cond.selects RX11 yX11_start yX11_start ∈ pWW := pw6 (List.mem_of_getElem? (i := 27) rfl) rfl
theorem ml11_204 : Cond.methodLink RX11 204 yX7_begin ∈ pWW := pw6 (List.mem_of_getElem? (i := 29) rfl) rfl
theorem dX11_start_0 : decode cX11_start 0 = .ok (.aload_n 0, 1) := by decide +kernel
theorem dX11_start_1 : decode cX11_start 1 = .ok (.iload_n 1, 1) := by decide +kernel
theorem dX11_start_2 : decode cX11_start 2 = .ok (.invokevirtual 123, 3) := by decide +kernel
theorem dX11_start_5 : decode cX11_start 5 = .ok (.ifnonnull 5, 3) := by decide +kernel
theorem dX11_start_8 : decode cX11_start 8 = .ok (.iconst 0, 1) := by decide +kernel
theorem dX11_start_9 : decode cX11_start 9 = .ok (.ireturn, 1) := by decide +kernel
theorem dX11_start_10 : decode cX11_start 10 = .ok (.aload_n 0, 1) := by decide +kernel
theorem dX11_start_11 : decode cX11_start 11 = .ok (.getfield 83, 3) := by decide +kernel
theorem dX11_start_14 : decode cX11_start 14 = .ok (.iload_n 1, 1) := by decide +kernel
theorem dX11_start_15 : decode cX11_start 15 = .ok (.iload_n 2, 1) := by decide +kernel
theorem dX11_start_16 : decode cX11_start 16 = .ok (.iload_n 3, 1) := by decide +kernel
theorem dX11_start_17 : decode cX11_start 17 = .ok (.iload 4, 2) := by decide +kernel
theorem dX11_start_19 : decode cX11_start 19 = .ok (.iload 5, 2) := by decide +kernel
theorem dX11_start_21 : decode cX11_start 21 = .ok (.invokevirtual 204, 3) := by decide +kernel
theorem dX11_start_24 : decode cX11_start 24 = .ok (.iconst 1, 1) := by decide +kernel
theorem dX11_start_25 : decode cX11_start 25 = .ok (.ireturn, 1) := by decide +kernel
end
section
theorem cd_X11_go : Cond.code yX11_go cX11_go 3 (some .int) ∈ pWW := pw6 (List.mem_of_getElem? (i := 51) rfl) rfl
abbrev m_X11_go : MT := (yX11_go, cX11_go, 3, (some .int))
theorem ok_X11_go : pOk m_X11_go := ⟨⟨cd_X11_go, ini_11⟩, by decide +kernel, ⟨by decide +kernel, by decide +kernel⟩, Nat.le_of_ble_eq_true rfl⟩
theorem np_X11_go : (parseMethodDescriptor yX11_go.desc).map (fun d => d.parameters.length) = some 2 := by decide +kernel
theorem im_X11_go : Cond.instanceMethod yX11_go ∈ pWW := pw6 (List.mem_of_getElem? (i := 49) rfl) rfl
theorem se_X11_go : Cond.selects RX11 yX11_go yX11_go ∈ pWW := pw6 (List.mem_of_getElem? (i := 50) rfl) rfl
theorem fl11_208 : Cond.fieldLink RX11 208 (TX7 1).1 (TX7 1).2.1 (TX7 1).2.2.1 ∈ pWW := pw2 (List.mem_of_getElem? (i := 136) rfl) rfl
theorem ml11_211 : Cond.methodLink RX11 211 yX7_advance ∈ pWW := pw6 (List.mem_of_getElem? (i := 52) rfl) rfl
theorem dX11_go_0 : decode cX11_go 0 = .ok (.iload_n 1, 1) := by decide +kernel
theorem dX11_go_1 : decode cX11_go 1 = .ok (.ifCond .lt 30, 3) := by decide +kernel
theorem dX11_go_31 : decode cX11_go 31 = .ok (.iconst (-1), 1) := by decide +kernel
theorem dX11_go_32 : decode cX11_go 32 = .ok (.ireturn, 1) := by decide +kernel
theorem dX11_go_4 : decode cX11_go 4 = .ok (.iload_n 1, 1) := by decide +kernel
theorem dX11_go_5 : decode cX11_go 5 = .ok (.iconst 2, 1) := by decide +kernel
theorem dX11_go_6 : decode cX11_go 6 = .ok (.if_icmp .gt 25, 3) := by decide +kernel
theorem dX11_go_9 : decode cX11_go 9 = .ok (.iload_n 2, 1) := by decide +kernel
theorem dX11_go_10 : decode cX11_go 10 = .ok (.iconst 1, 1) := by decide +kernel
theorem dX11_go_11 : decode cX11_go 11 = .ok (.if_icmp .lt 20, 3) := by decide +kernel
theorem dX11_go_14 : decode cX11_go 14 = .ok (.iload_n 2, 1) := by decide +kernel
theorem dX11_go_15 : decode cX11_go 15 = .ok (.sipush 20000, 3) := by decide +kernel
theorem dX11_go_18 : decode cX11_go 18 = .ok (.if_icmp .gt 13, 3) := by decide +kernel
theorem dX11_go_21 : decode cX11_go 21 = .ok (.aload_n 0, 1) := by decide +kernel
theorem dX11_go_22 : decode cX11_go 22 = .ok (.getfield 83, 3) := by decide +kernel
theorem dX11_go_25 : decode cX11_go 25 = .ok (.getfield 208, 3) := by decide +kernel
theorem dX11_go_28 : decode cX11_go 28 = .ok (.ifCond .ne 5, 3) := by decide +kernel
theorem dX11_go_33 : decode cX11_go 33 = .ok (.aload_n 0, 1) := by decide +kernel
theorem dX11_go_34 : decode cX11_go 34 = .ok (.getfield 83, 3) := by decide +kernel
theorem dX11_go_37 : decode cX11_go 37 = .ok (.iload_n 1, 1) := by decide +kernel
theorem dX11_go_38 : decode cX11_go 38 = .ok (.iload_n 2, 1) := by decide +kernel
theorem dX11_go_39 : decode cX11_go 39 = .ok (.invokevirtual 211, 3) := by decide +kernel
theorem dX11_go_42 : decode cX11_go 42 = .ok (.ireturn, 1) := by decide +kernel
end
section
theorem cd_X11_stack : Cond.code yX11_stack cX11_stack 3 (some .int) ∈ pWW := pw6 (List.mem_of_getElem? (i := 100) rfl) rfl
abbrev m_X11_stack : MT := (yX11_stack, cX11_stack, 3, (some .int))
theorem ok_X11_stack : pOk m_X11_stack := ⟨⟨cd_X11_stack, ini_11⟩, by decide +kernel, ⟨by decide +kernel, by decide +kernel⟩, Nat.le_of_ble_eq_true rfl⟩
theorem np_X11_stack : (parseMethodDescriptor yX11_stack.desc).map (fun d => d.parameters.length) = some 2 := by decide +kernel
theorem im_X11_stack : Cond.instanceMethod yX11_stack ∈ pWW := pw6 (List.mem_of_getElem? (i := 98) rfl) rfl
theorem se_X11_stack : Cond.selects RX11 yX11_stack yX11_stack ∈ pWW := pw6 (List.mem_of_getElem? (i := 99) rfl) rfl
theorem ml11_214 : Cond.methodLink RX11 214 yX7_find ∈ pWW := pw6 (List.mem_of_getElem? (i := 101) rfl) rfl
theorem ml11_224 : Cond.methodLink RX11 224 yX7_foundNames ∈ pWW := pw6 (List.mem_of_getElem? (i := 121) rfl) rfl
theorem ml11_221 : Cond.methodLink RX11 221 yX7_foundRoutine ∈ pWW := pw6 (List.mem_of_getElem? (i := 117) rfl) rfl
theorem ml11_218 : Cond.methodLink RX11 218 yX7_foundLine ∈ pWW := pw6 (List.mem_of_getElem? (i := 113) rfl) rfl
theorem dX11_stack_0 : decode cX11_stack 0 = .ok (.iload_n 2, 1) := by decide +kernel
theorem dX11_stack_1 : decode cX11_stack 1 = .ok (.ifCond .lt 19, 3) := by decide +kernel
theorem dX11_stack_20 : decode cX11_stack 20 = .ok (.iconst (-1), 1) := by decide +kernel
theorem dX11_stack_21 : decode cX11_stack 21 = .ok (.ireturn, 1) := by decide +kernel
theorem dX11_stack_4 : decode cX11_stack 4 = .ok (.iload_n 2, 1) := by decide +kernel
theorem dX11_stack_5 : decode cX11_stack 5 = .ok (.iconst 2, 1) := by decide +kernel
theorem dX11_stack_6 : decode cX11_stack 6 = .ok (.if_icmp .gt 14, 3) := by decide +kernel
theorem dX11_stack_9 : decode cX11_stack 9 = .ok (.aload_n 0, 1) := by decide +kernel
theorem dX11_stack_10 : decode cX11_stack 10 = .ok (.getfield 83, 3) := by decide +kernel
theorem dX11_stack_13 : decode cX11_stack 13 = .ok (.iload_n 1, 1) := by decide +kernel
theorem dX11_stack_14 : decode cX11_stack 14 = .ok (.invokevirtual 214, 3) := by decide +kernel
theorem dX11_stack_17 : decode cX11_stack 17 = .ok (.ifCond .ne 5, 3) := by decide +kernel
theorem dX11_stack_22 : decode cX11_stack 22 = .ok (.iload_n 2, 1) := by decide +kernel
theorem dX11_stack_23 : decode cX11_stack 23 = .ok (.iconst 1, 1) := by decide +kernel
theorem dX11_stack_24 : decode cX11_stack 24 = .ok (.if_icmp .ne 11, 3) := by decide +kernel
theorem dX11_stack_35 : decode cX11_stack 35 = .ok (.iload_n 2, 1) := by decide +kernel
theorem dX11_stack_36 : decode cX11_stack 36 = .ok (.ifCond .ne 13, 3) := by decide +kernel
theorem dX11_stack_49 : decode cX11_stack 49 = .ok (.aload_n 0, 1) := by decide +kernel
theorem dX11_stack_50 : decode cX11_stack 50 = .ok (.getfield 83, 3) := by decide +kernel
theorem dX11_stack_53 : decode cX11_stack 53 = .ok (.invokevirtual 224, 3) := by decide +kernel
theorem dX11_stack_56 : decode cX11_stack 56 = .ok (.ireturn, 1) := by decide +kernel
theorem dX11_stack_39 : decode cX11_stack 39 = .ok (.aload_n 0, 1) := by decide +kernel
theorem dX11_stack_40 : decode cX11_stack 40 = .ok (.getfield 83, 3) := by decide +kernel
theorem dX11_stack_43 : decode cX11_stack 43 = .ok (.invokevirtual 221, 3) := by decide +kernel
theorem dX11_stack_46 : decode cX11_stack 46 = .ok (.goto 10, 3) := by decide +kernel
theorem dX11_stack_27 : decode cX11_stack 27 = .ok (.aload_n 0, 1) := by decide +kernel
theorem dX11_stack_28 : decode cX11_stack 28 = .ok (.getfield 83, 3) := by decide +kernel
theorem dX11_stack_31 : decode cX11_stack 31 = .ok (.invokevirtual 218, 3) := by decide +kernel
theorem dX11_stack_34 : decode cX11_stack 34 = .ok (.ireturn, 1) := by decide +kernel
end
section
theorem cd_X11_value : Cond.code yX11_value cX11_value 3 (some .int) ∈ pWW := pw6 (List.mem_of_getElem? (i := 148) rfl) rfl
abbrev m_X11_value : MT := (yX11_value, cX11_value, 3, (some .int))
theorem ok_X11_value : pOk m_X11_value := ⟨⟨cd_X11_value, ini_11⟩, by decide +kernel, ⟨by decide +kernel, by decide +kernel⟩, Nat.le_of_ble_eq_true rfl⟩
theorem np_X11_value : (parseMethodDescriptor yX11_value.desc).map (fun d => d.parameters.length) = some 2 := by decide +kernel
theorem im_X11_value : Cond.instanceMethod yX11_value ∈ pWW := pw6 (List.mem_of_getElem? (i := 146) rfl) rfl
theorem se_X11_value : Cond.selects RX11 yX11_value yX11_value ∈ pWW := pw6 (List.mem_of_getElem? (i := 147) rfl) rfl
theorem ml11_227 : Cond.methodLink RX11 227 yX7_foundSource ∈ pWW := pw6 (List.mem_of_getElem? (i := 129) rfl) rfl
theorem ml11_230 : Cond.methodLink RX11 230 yX7_foundCode ∈ pWW := pw6 (List.mem_of_getElem? (i := 133) rfl) rfl
theorem ml11_234 : Cond.methodLink RX11 234 yX7_foundId ∈ pWW := pw6 (List.mem_of_getElem? (i := 134) rfl) rfl
theorem ml11_238 : Cond.methodLink RX11 238 yX7_foundValue ∈ pWW := pw6 (List.mem_of_getElem? (i := 149) rfl) rfl
theorem dX11_value_0 : decode cX11_value 0 = .ok (.aload_n 0, 1) := by decide +kernel
theorem dX11_value_1 : decode cX11_value 1 = .ok (.getfield 83, 3) := by decide +kernel
theorem dX11_value_4 : decode cX11_value 4 = .ok (.iload_n 1, 1) := by decide +kernel
theorem dX11_value_5 : decode cX11_value 5 = .ok (.invokevirtual 214, 3) := by decide +kernel
theorem dX11_value_8 : decode cX11_value 8 = .ok (.ifCond .eq 18, 3) := by decide +kernel
theorem dX11_value_26 : decode cX11_value 26 = .ok (.iconst 0, 1) := by decide +kernel
theorem dX11_value_27 : decode cX11_value 27 = .ok (.ireturn, 1) := by decide +kernel
theorem dX11_value_11 : decode cX11_value 11 = .ok (.iload_n 2, 1) := by decide +kernel
theorem dX11_value_12 : decode cX11_value 12 = .ok (.ifCond .lt 14, 3) := by decide +kernel
theorem dX11_value_15 : decode cX11_value 15 = .ok (.iload_n 2, 1) := by decide +kernel
theorem dX11_value_16 : decode cX11_value 16 = .ok (.aload_n 0, 1) := by decide +kernel
theorem dX11_value_17 : decode cX11_value 17 = .ok (.getfield 83, 3) := by decide +kernel
theorem dX11_value_20 : decode cX11_value 20 = .ok (.invokevirtual 224, 3) := by decide +kernel
theorem dX11_value_23 : decode cX11_value 23 = .ok (.if_icmp .lt 5, 3) := by decide +kernel
theorem dX11_value_28 : decode cX11_value 28 = .ok (.aload_n 0, 1) := by decide +kernel
theorem dX11_value_29 : decode cX11_value 29 = .ok (.getfield 39, 3) := by decide +kernel
theorem dX11_value_32 : decode cX11_value 32 = .ok (.aload_n 0, 1) := by decide +kernel
theorem dX11_value_33 : decode cX11_value 33 = .ok (.getfield 83, 3) := by decide +kernel
theorem dX11_value_36 : decode cX11_value 36 = .ok (.invokevirtual 227, 3) := by decide +kernel
theorem dX11_value_39 : decode cX11_value 39 = .ok (.aload_n 0, 1) := by decide +kernel
theorem dX11_value_40 : decode cX11_value 40 = .ok (.getfield 83, 3) := by decide +kernel
theorem dX11_value_43 : decode cX11_value 43 = .ok (.invokevirtual 230, 3) := by decide +kernel
theorem dX11_value_46 : decode cX11_value 46 = .ok (.invokevirtual 176, 3) := by decide +kernel
theorem dX11_value_49 : decode cX11_value 49 = .ok (.aload_n 0, 1) := by decide +kernel
theorem dX11_value_50 : decode cX11_value 50 = .ok (.getfield 83, 3) := by decide +kernel
theorem dX11_value_53 : decode cX11_value 53 = .ok (.aload_n 0, 1) := by decide +kernel
theorem dX11_value_54 : decode cX11_value 54 = .ok (.getfield 39, 3) := by decide +kernel
theorem dX11_value_57 : decode cX11_value 57 = .ok (.aload_n 0, 1) := by decide +kernel
theorem dX11_value_58 : decode cX11_value 58 = .ok (.getfield 83, 3) := by decide +kernel
theorem dX11_value_61 : decode cX11_value 61 = .ok (.aload_n 0, 1) := by decide +kernel
theorem dX11_value_62 : decode cX11_value 62 = .ok (.getfield 39, 3) := by decide +kernel
theorem dX11_value_65 : decode cX11_value 65 = .ok (.iload_n 2, 1) := by decide +kernel
theorem dX11_value_66 : decode cX11_value 66 = .ok (.invokevirtual 234, 3) := by decide +kernel
theorem dX11_value_69 : decode cX11_value 69 = .ok (.invokevirtual 238, 3) := by decide +kernel
theorem dX11_value_72 : decode cX11_value 72 = .ok (.ireturn, 1) := by decide +kernel
end
section
theorem cd_X11_run : Cond.code yX11_run cX11_run 2 (some .int) ∈ pWW := pw6 (List.mem_of_getElem? (i := 162) rfl) rfl
abbrev m_X11_run : MT := (yX11_run, cX11_run, 2, (some .int))
theorem ok_X11_run : pOk m_X11_run := ⟨⟨cd_X11_run, ini_11⟩, by decide +kernel, ⟨by decide +kernel, by decide +kernel⟩, Nat.le_of_ble_eq_true rfl⟩
theorem np_X11_run : (parseMethodDescriptor yX11_run.desc).map (fun d => d.parameters.length) = some 1 := by decide +kernel
theorem im_X11_run : Cond.instanceMethod yX11_run ∈ pWW := pw6 (List.mem_of_getElem? (i := 160) rfl) rfl
theorem se_X11_run : Cond.selects RX11 yX11_run yX11_run ∈ pWW := pw6 (List.mem_of_getElem? (i := 161) rfl) rfl
theorem ml11_241 : Cond.methodLink RX11 241 yX7_place ∈ pWW := pw6 (List.mem_of_getElem? (i := 163) rfl) rfl
theorem fl11_243 : Cond.fieldLink RX11 243 (TX7 10).1 (TX7 10).2.1 (TX7 10).2.2.1 ∈ pWW := pw2 (List.mem_of_getElem? (i := 150) rfl) rfl
theorem fl11_246 : Cond.fieldLink RX11 246 (TX7 12).1 (TX7 12).2.1 (TX7 12).2.2.1 ∈ pWW := pw2 (List.mem_of_getElem? (i := 154) rfl) rfl
theorem fl11_249 : Cond.fieldLink RX11 249 (TX7 13).1 (TX7 13).2.1 (TX7 13).2.2.1 ∈ pWW := pw2 (List.mem_of_getElem? (i := 157) rfl) rfl
theorem fl11_252 : Cond.fieldLink RX11 252 (TX7 3).1 (TX7 3).2.1 (TX7 3).2.2.1 ∈ pWW := pw2 (List.mem_of_getElem? (i := 140) rfl) rfl
theorem dX11_run_0 : decode cX11_run 0 = .ok (.aload_n 0, 1) := by decide +kernel
theorem dX11_run_1 : decode cX11_run 1 = .ok (.getfield 83, 3) := by decide +kernel
theorem dX11_run_4 : decode cX11_run 4 = .ok (.getfield 208, 3) := by decide +kernel
theorem dX11_run_7 : decode cX11_run 7 = .ok (.ifCond .ne 5, 3) := by decide +kernel
theorem dX11_run_12 : decode cX11_run 12 = .ok (.iload_n 1, 1) := by decide +kernel
theorem dX11_run_13 : decode cX11_run 13 = .ok (.tableswitch 111 0 5 #[39, 62, 70, 78, 86, 94], 39) := by decide +kernel
theorem dX11_run_124 : decode cX11_run 124 = .ok (.iconst (-1), 1) := by decide +kernel
theorem dX11_run_125 : decode cX11_run 125 = .ok (.ireturn, 1) := by decide +kernel
theorem dX11_run_52 : decode cX11_run 52 = .ok (.aload_n 0, 1) := by decide +kernel
theorem dX11_run_53 : decode cX11_run 53 = .ok (.getfield 83, 3) := by decide +kernel
theorem dX11_run_56 : decode cX11_run 56 = .ok (.getfield 208, 3) := by decide +kernel
theorem dX11_run_59 : decode cX11_run 59 = .ok (.iconst 2, 1) := by decide +kernel
theorem dX11_run_60 : decode cX11_run 60 = .ok (.if_icmp .ne 7, 3) := by decide +kernel
theorem dX11_run_67 : decode cX11_run 67 = .ok (.aload_n 0, 1) := by decide +kernel
theorem dX11_run_68 : decode cX11_run 68 = .ok (.getfield 83, 3) := by decide +kernel
theorem dX11_run_71 : decode cX11_run 71 = .ok (.invokevirtual 241, 3) := by decide +kernel
theorem dX11_run_74 : decode cX11_run 74 = .ok (.ireturn, 1) := by decide +kernel
theorem dX11_run_63 : decode cX11_run 63 = .ok (.iconst (-1), 1) := by decide +kernel
theorem dX11_run_64 : decode cX11_run 64 = .ok (.goto 10, 3) := by decide +kernel
theorem dX11_run_75 : decode cX11_run 75 = .ok (.aload_n 0, 1) := by decide +kernel
theorem dX11_run_76 : decode cX11_run 76 = .ok (.getfield 83, 3) := by decide +kernel
theorem dX11_run_79 : decode cX11_run 79 = .ok (.getfield 243, 3) := by decide +kernel
theorem dX11_run_82 : decode cX11_run 82 = .ok (.ireturn, 1) := by decide +kernel
theorem dX11_run_83 : decode cX11_run 83 = .ok (.aload_n 0, 1) := by decide +kernel
theorem dX11_run_84 : decode cX11_run 84 = .ok (.getfield 83, 3) := by decide +kernel
theorem dX11_run_87 : decode cX11_run 87 = .ok (.getfield 246, 3) := by decide +kernel
theorem dX11_run_90 : decode cX11_run 90 = .ok (.ireturn, 1) := by decide +kernel
theorem dX11_run_91 : decode cX11_run 91 = .ok (.aload_n 0, 1) := by decide +kernel
theorem dX11_run_92 : decode cX11_run 92 = .ok (.getfield 83, 3) := by decide +kernel
theorem dX11_run_95 : decode cX11_run 95 = .ok (.getfield 249, 3) := by decide +kernel
theorem dX11_run_98 : decode cX11_run 98 = .ok (.ireturn, 1) := by decide +kernel
theorem dX11_run_99 : decode cX11_run 99 = .ok (.aload_n 0, 1) := by decide +kernel
theorem dX11_run_100 : decode cX11_run 100 = .ok (.getfield 83, 3) := by decide +kernel
theorem dX11_run_103 : decode cX11_run 103 = .ok (.getfield 252, 3) := by decide +kernel
theorem dX11_run_106 : decode cX11_run 106 = .ok (.ireturn, 1) := by decide +kernel
theorem dX11_run_107 : decode cX11_run 107 = .ok (.aload_n 0, 1) := by decide +kernel
theorem dX11_run_108 : decode cX11_run 108 = .ok (.getfield 83, 3) := by decide +kernel
theorem dX11_run_111 : decode cX11_run 111 = .ok (.getfield 208, 3) := by decide +kernel
theorem dX11_run_114 : decode cX11_run 114 = .ok (.iconst 3, 1) := by decide +kernel
theorem dX11_run_115 : decode cX11_run 115 = .ok (.if_icmp .ne 7, 3) := by decide +kernel
theorem dX11_run_122 : decode cX11_run 122 = .ok (.iconst 0, 1) := by decide +kernel
theorem dX11_run_123 : decode cX11_run 123 = .ok (.ireturn, 1) := by decide +kernel
theorem dX11_run_118 : decode cX11_run 118 = .ok (.iconst 1, 1) := by decide +kernel
theorem dX11_run_119 : decode cX11_run 119 = .ok (.goto 4, 3) := by decide +kernel
theorem dX11_run_10 : decode cX11_run 10 = .ok (.iconst (-1), 1) := by decide +kernel
theorem dX11_run_11 : decode cX11_run 11 = .ok (.ireturn, 1) := by decide +kernel
end
section
theorem cd_X11_printed : Cond.code yX11_printed cX11_printed 2 (some .int) ∈ pWW := pw6 (List.mem_of_getElem? (i := 167) rfl) rfl
abbrev m_X11_printed : MT := (yX11_printed, cX11_printed, 2, (some .int))
theorem ok_X11_printed : pOk m_X11_printed := ⟨⟨cd_X11_printed, ini_11⟩, by decide +kernel, ⟨by decide +kernel, by decide +kernel⟩, Nat.le_of_ble_eq_true rfl⟩
theorem np_X11_printed : (parseMethodDescriptor yX11_printed.desc).map (fun d => d.parameters.length) = some 1 := by decide +kernel
theorem im_X11_printed : Cond.instanceMethod yX11_printed ∈ pWW := pw6 (List.mem_of_getElem? (i := 165) rfl) rfl
theorem se_X11_printed : Cond.selects RX11 yX11_printed yX11_printed ∈ pWW := pw6 (List.mem_of_getElem? (i := 166) rfl) rfl
theorem fl11_255 : Cond.fieldLink RX11 255 (TX7 9).1 (TX7 9).2.1 (TX7 9).2.2.1 ∈ pWW := pw2 (List.mem_of_getElem? (i := 147) rfl) rfl
theorem dX11_printed_0 : decode cX11_printed 0 = .ok (.aload_n 0, 1) := by decide +kernel
theorem dX11_printed_1 : decode cX11_printed 1 = .ok (.getfield 83, 3) := by decide +kernel
theorem dX11_printed_4 : decode cX11_printed 4 = .ok (.getfield 208, 3) := by decide +kernel
theorem dX11_printed_7 : decode cX11_printed 7 = .ok (.ifCond .eq 18, 3) := by decide +kernel
theorem dX11_printed_25 : decode cX11_printed 25 = .ok (.iconst 0, 1) := by decide +kernel
theorem dX11_printed_26 : decode cX11_printed 26 = .ok (.ireturn, 1) := by decide +kernel
theorem dX11_printed_10 : decode cX11_printed 10 = .ok (.iload_n 1, 1) := by decide +kernel
theorem dX11_printed_11 : decode cX11_printed 11 = .ok (.ifCond .lt 14, 3) := by decide +kernel
theorem dX11_printed_14 : decode cX11_printed 14 = .ok (.iload_n 1, 1) := by decide +kernel
theorem dX11_printed_15 : decode cX11_printed 15 = .ok (.aload_n 0, 1) := by decide +kernel
theorem dX11_printed_16 : decode cX11_printed 16 = .ok (.getfield 83, 3) := by decide +kernel
theorem dX11_printed_19 : decode cX11_printed 19 = .ok (.getfield 243, 3) := by decide +kernel
theorem dX11_printed_22 : decode cX11_printed 22 = .ok (.if_icmp .lt 5, 3) := by decide +kernel
theorem dX11_printed_27 : decode cX11_printed 27 = .ok (.aload_n 0, 1) := by decide +kernel
theorem dX11_printed_28 : decode cX11_printed 28 = .ok (.getfield 83, 3) := by decide +kernel
theorem dX11_printed_31 : decode cX11_printed 31 = .ok (.getfield 255, 3) := by decide +kernel
theorem dX11_printed_34 : decode cX11_printed 34 = .ok (.iload_n 1, 1) := by decide +kernel
theorem dX11_printed_35 : decode cX11_printed 35 = .ok (.invokestatic 162, 3) := by decide +kernel
theorem dX11_printed_38 : decode cX11_printed 38 = .ok (.ireturn, 1) := by decide +kernel
end
section
theorem cd_X11_compared : Cond.code yX11_compared cX11_compared 2 (some .int) ∈ pWW := pw6 (List.mem_of_getElem? (i := 237) rfl) rfl
abbrev m_X11_compared : MT := (yX11_compared, cX11_compared, 2, (some .int))
theorem ok_X11_compared : pOk m_X11_compared := ⟨⟨cd_X11_compared, ini_11⟩, by decide +kernel, ⟨by decide +kernel, by decide +kernel⟩, Nat.le_of_ble_eq_true rfl⟩
theorem np_X11_compared : (parseMethodDescriptor yX11_compared.desc).map (fun d => d.parameters.length) = some 1 := by decide +kernel
theorem im_X11_compared : Cond.instanceMethod yX11_compared ∈ pWW := pw6 (List.mem_of_getElem? (i := 235) rfl) rfl
theorem se_X11_compared : Cond.selects RX11 yX11_compared yX11_compared ∈ pWW := pw6 (List.mem_of_getElem? (i := 236) rfl) rfl
theorem fl11_258 : Cond.fieldLink RX11 258 (TX11 15).1 (TX11 15).2.1 (TX11 15).2.2.1 ∈ pWW := pw2 (List.mem_of_getElem? (i := 211) rfl) rfl
theorem fl11_276 : Cond.fieldLink RX11 276 (TX0 2).1 (TX0 2).2.1 (TX0 2).2.2.1 ∈ pWW := pw6 (List.mem_of_getElem? (i := 185) rfl) rfl
theorem fl11_279 : Cond.fieldLink RX11 279 (TX0 3).1 (TX0 3).2.1 (TX0 3).2.2.1 ∈ pWW := pw6 (List.mem_of_getElem? (i := 187) rfl) rfl
theorem fl11_282 : Cond.fieldLink RX11 282 (TX0 4).1 (TX0 4).2.1 (TX0 4).2.2.1 ∈ pWW := pw6 (List.mem_of_getElem? (i := 189) rfl) rfl
theorem dX11_compared_0 : decode cX11_compared 0 = .ok (.aload_n 0, 1) := by decide +kernel
theorem dX11_compared_1 : decode cX11_compared 1 = .ok (.getfield 258, 3) := by decide +kernel
theorem dX11_compared_4 : decode cX11_compared 4 = .ok (.ifnonnull 5, 3) := by decide +kernel
theorem dX11_compared_7 : decode cX11_compared 7 = .ok (.iconst (-1), 1) := by decide +kernel
theorem dX11_compared_8 : decode cX11_compared 8 = .ok (.ireturn, 1) := by decide +kernel
theorem dX11_compared_9 : decode cX11_compared 9 = .ok (.iload_n 1, 1) := by decide +kernel
theorem dX11_compared_10 : decode cX11_compared 10 = .ok (.tableswitch 50 0 2 #[26, 34, 42], 26) := by decide +kernel
theorem dX11_compared_60 : decode cX11_compared 60 = .ok (.iconst (-1), 1) := by decide +kernel
theorem dX11_compared_61 : decode cX11_compared 61 = .ok (.ireturn, 1) := by decide +kernel
theorem dX11_compared_36 : decode cX11_compared 36 = .ok (.aload_n 0, 1) := by decide +kernel
theorem dX11_compared_37 : decode cX11_compared 37 = .ok (.getfield 258, 3) := by decide +kernel
theorem dX11_compared_40 : decode cX11_compared 40 = .ok (.getfield 276, 3) := by decide +kernel
theorem dX11_compared_43 : decode cX11_compared 43 = .ok (.ireturn, 1) := by decide +kernel
theorem dX11_compared_44 : decode cX11_compared 44 = .ok (.aload_n 0, 1) := by decide +kernel
theorem dX11_compared_45 : decode cX11_compared 45 = .ok (.getfield 258, 3) := by decide +kernel
theorem dX11_compared_48 : decode cX11_compared 48 = .ok (.getfield 279, 3) := by decide +kernel
theorem dX11_compared_51 : decode cX11_compared 51 = .ok (.ireturn, 1) := by decide +kernel
theorem dX11_compared_52 : decode cX11_compared 52 = .ok (.aload_n 0, 1) := by decide +kernel
theorem dX11_compared_53 : decode cX11_compared 53 = .ok (.getfield 258, 3) := by decide +kernel
theorem dX11_compared_56 : decode cX11_compared 56 = .ok (.getfield 282, 3) := by decide +kernel
theorem dX11_compared_59 : decode cX11_compared 59 = .ok (.ireturn, 1) := by decide +kernel
set_option maxRecDepth 20000 in
theorem k_X11_compared (d : Nat) {T : CT} {σ : MS} {a : Nat} {w : Int} (ha : OB T a 11) (h_w : -2147483648 ≤ w ∧ w ≤ 2147483647) (hw : WT T σ) : Tn (d + 1) m_X11_compared 0 T σ [(0, .ref a), (1, .int (iI w))] [] (fun ro T2 σ2 => ∃ v : Int, ro = some (.int (iI v)) ∧ T = T2 ∧ σ = σ2 ∧ (-2147483648 ≤ v ∧ v ≤ 2147483647)) := by
  refine tn_aload_n dX11_compared_0 rfl 0 rfl ?_
  rcases wf_110 hw ha with hx1 | ⟨x2, hx1, hk3⟩
  · refine tn_getN (ci := 11) (i := 15) (n := 110) dX11_compared_1 rfl lay_11 (by decide) fl11_258 ha rfl rfl (Int.lt_of_le_of_lt (Int.le_of_eq (Eq.refl _)) hx1) ?_
    refine tn_ifnonnullN dX11_compared_4 ?_
    refine tn_iconst dX11_compared_7 ?_
    exact tn_iret rfl dX11_compared_8 ⟨_, rfl, rfl, rfl, by omega⟩
  · have hk3o : OB T x2 0 := ⟨by omega, by rw [hk3]; rfl, by omega⟩
    refine tn_getR (ci := 11) (i := 15) (n := 110) (x := x2) dX11_compared_1 rfl lay_11 (by decide) fl11_258 ha rfl rfl (hx1) ?_
    refine tn_ifnonnull (tgt := 9) dX11_compared_4 (by decide) ?_
    refine tn_iload_n dX11_compared_9 rfl 1 rfl ?_
    by_cases h5 : w < 0 ∨ 2 < w
    · refine tn_tableOut (tgt := 60) dX11_compared_10 (x := w) ⟨by omega, by omega⟩ h5 (by decide) ?_
      refine tn_iconst dX11_compared_60 ?_
      exact tn_iret rfl dX11_compared_61 ⟨_, rfl, rfl, rfl, by omega⟩
    · have h6 : w = 0 ∨ w = 1 ∨ w = 2 := by omega
      rcases h6 with h6 | h6 | h6
      · refine tn_tableIn (tgt := 36) (off := 26) dX11_compared_10 (x := w) ⟨by omega, by omega⟩ (by omega) (by omega) (by rw [h6]; rfl) (by decide) ?_
        refine tn_aload_n dX11_compared_36 rfl 0 rfl ?_
        refine tn_getR (ci := 11) (i := 15) (n := 110) (x := x2) dX11_compared_37 rfl lay_11 (by decide) fl11_258 ha rfl rfl (hx1) ?_
        refine tn_getI (ci := 0) (i := 2) (n := 2) (t := σ.2.1 2 x2) dX11_compared_40 rfl lay_0 (by decide) fl11_276 hk3o rfl rfl (rfl) ?_
        have g7 : ((-2147483648 : Int) ≤ σ.2.1 2 x2 ∧ σ.2.1 2 x2 ≤ 2147483647) := wf_2 hw hk3o
        exact tn_iret rfl dX11_compared_43 ⟨_, rfl, rfl, rfl, by omega⟩
      · refine tn_tableIn (tgt := 44) (off := 34) dX11_compared_10 (x := w) ⟨by omega, by omega⟩ (by omega) (by omega) (by rw [h6]; rfl) (by decide) ?_
        refine tn_aload_n dX11_compared_44 rfl 0 rfl ?_
        refine tn_getR (ci := 11) (i := 15) (n := 110) (x := x2) dX11_compared_45 rfl lay_11 (by decide) fl11_258 ha rfl rfl (hx1) ?_
        refine tn_getI (ci := 0) (i := 3) (n := 3) (t := σ.2.1 3 x2) dX11_compared_48 rfl lay_0 (by decide) fl11_279 hk3o rfl rfl (rfl) ?_
        have g8 : ((-2147483648 : Int) ≤ σ.2.1 3 x2 ∧ σ.2.1 3 x2 ≤ 2147483647) := wf_3 hw hk3o
        exact tn_iret rfl dX11_compared_51 ⟨_, rfl, rfl, rfl, by omega⟩
      · refine tn_tableIn (tgt := 52) (off := 42) dX11_compared_10 (x := w) ⟨by omega, by omega⟩ (by omega) (by omega) (by rw [h6]; rfl) (by decide) ?_
        refine tn_aload_n dX11_compared_52 rfl 0 rfl ?_
        refine tn_getR (ci := 11) (i := 15) (n := 110) (x := x2) dX11_compared_53 rfl lay_11 (by decide) fl11_258 ha rfl rfl (hx1) ?_
        refine tn_getI (ci := 0) (i := 4) (n := 4) (t := σ.2.1 4 x2) dX11_compared_56 rfl lay_0 (by decide) fl11_282 hk3o rfl rfl (rfl) ?_
        have g9 : ((-2147483648 : Int) ≤ σ.2.1 4 x2 ∧ σ.2.1 4 x2 ≤ 2147483647) := wf_4 hw hk3o
        exact tn_iret rfl dX11_compared_59 ⟨_, rfl, rfl, rfl, by omega⟩
end
section
theorem cd_X11_known : Cond.code yX11_known cX11_known 4 (some .int) ∈ pWW := pw6 (List.mem_of_getElem? (i := 128) rfl) rfl
abbrev m_X11_known : MT := (yX11_known, cX11_known, 4, (some .int))
theorem ok_X11_known : pOk m_X11_known := ⟨⟨cd_X11_known, ini_11⟩, by decide +kernel, ⟨by decide +kernel, by decide +kernel⟩, Nat.le_of_ble_eq_true rfl⟩
theorem np_X11_known : (parseMethodDescriptor yX11_known.desc).map (fun d => d.parameters.length) = some 2 := by decide +kernel
theorem im_X11_known : Cond.instanceMethod yX11_known ∈ pWW := pw6 (List.mem_of_getElem? (i := 126) rfl) rfl
theorem se_X11_known : Cond.selects RX11 yX11_known yX11_known ∈ pWW := pw6 (List.mem_of_getElem? (i := 127) rfl) rfl
theorem dX11_known_0 : decode cX11_known 0 = .ok (.aload_n 0, 1) := by decide +kernel
theorem dX11_known_1 : decode cX11_known 1 = .ok (.getfield 83, 3) := by decide +kernel
theorem dX11_known_4 : decode cX11_known 4 = .ok (.iload_n 1, 1) := by decide +kernel
theorem dX11_known_5 : decode cX11_known 5 = .ok (.invokevirtual 214, 3) := by decide +kernel
theorem dX11_known_8 : decode cX11_known 8 = .ok (.ifCond .eq 18, 3) := by decide +kernel
theorem dX11_known_26 : decode cX11_known 26 = .ok (.iconst (-1), 1) := by decide +kernel
theorem dX11_known_27 : decode cX11_known 27 = .ok (.ireturn, 1) := by decide +kernel
theorem dX11_known_11 : decode cX11_known 11 = .ok (.iload_n 2, 1) := by decide +kernel
theorem dX11_known_12 : decode cX11_known 12 = .ok (.ifCond .lt 14, 3) := by decide +kernel
theorem dX11_known_15 : decode cX11_known 15 = .ok (.iload_n 2, 1) := by decide +kernel
theorem dX11_known_16 : decode cX11_known 16 = .ok (.aload_n 0, 1) := by decide +kernel
theorem dX11_known_17 : decode cX11_known 17 = .ok (.getfield 83, 3) := by decide +kernel
theorem dX11_known_20 : decode cX11_known 20 = .ok (.invokevirtual 224, 3) := by decide +kernel
theorem dX11_known_23 : decode cX11_known 23 = .ok (.if_icmp .lt 5, 3) := by decide +kernel
theorem dX11_known_28 : decode cX11_known 28 = .ok (.aload_n 0, 1) := by decide +kernel
theorem dX11_known_29 : decode cX11_known 29 = .ok (.getfield 39, 3) := by decide +kernel
theorem dX11_known_32 : decode cX11_known 32 = .ok (.aload_n 0, 1) := by decide +kernel
theorem dX11_known_33 : decode cX11_known 33 = .ok (.getfield 83, 3) := by decide +kernel
theorem dX11_known_36 : decode cX11_known 36 = .ok (.invokevirtual 227, 3) := by decide +kernel
theorem dX11_known_39 : decode cX11_known 39 = .ok (.aload_n 0, 1) := by decide +kernel
theorem dX11_known_40 : decode cX11_known 40 = .ok (.getfield 83, 3) := by decide +kernel
theorem dX11_known_43 : decode cX11_known 43 = .ok (.invokevirtual 230, 3) := by decide +kernel
theorem dX11_known_46 : decode cX11_known 46 = .ok (.invokevirtual 176, 3) := by decide +kernel
theorem dX11_known_49 : decode cX11_known 49 = .ok (.aload_n 0, 1) := by decide +kernel
theorem dX11_known_50 : decode cX11_known 50 = .ok (.getfield 39, 3) := by decide +kernel
theorem dX11_known_53 : decode cX11_known 53 = .ok (.aload_n 0, 1) := by decide +kernel
theorem dX11_known_54 : decode cX11_known 54 = .ok (.getfield 83, 3) := by decide +kernel
theorem dX11_known_57 : decode cX11_known 57 = .ok (.invokevirtual 230, 3) := by decide +kernel
theorem dX11_known_60 : decode cX11_known 60 = .ok (.aload_n 0, 1) := by decide +kernel
theorem dX11_known_61 : decode cX11_known 61 = .ok (.getfield 83, 3) := by decide +kernel
theorem dX11_known_64 : decode cX11_known 64 = .ok (.aload_n 0, 1) := by decide +kernel
theorem dX11_known_65 : decode cX11_known 65 = .ok (.getfield 39, 3) := by decide +kernel
theorem dX11_known_68 : decode cX11_known 68 = .ok (.iload_n 2, 1) := by decide +kernel
theorem dX11_known_69 : decode cX11_known 69 = .ok (.invokevirtual 234, 3) := by decide +kernel
theorem dX11_known_72 : decode cX11_known 72 = .ok (.invokevirtual 187, 3) := by decide +kernel
theorem dX11_known_75 : decode cX11_known 75 = .ok (.istore_n 3, 1) := by decide +kernel
theorem dX11_known_76 : decode cX11_known 76 = .ok (.iload_n 3, 1) := by decide +kernel
theorem dX11_known_77 : decode cX11_known 77 = .ok (.bipush 10, 2) := by decide +kernel
theorem dX11_known_79 : decode cX11_known 79 = .ok (.if_icmp .lt 7, 3) := by decide +kernel
theorem dX11_known_86 : decode cX11_known 86 = .ok (.iconst 1, 1) := by decide +kernel
theorem dX11_known_87 : decode cX11_known 87 = .ok (.ireturn, 1) := by decide +kernel
theorem dX11_known_82 : decode cX11_known 82 = .ok (.iload_n 3, 1) := by decide +kernel
theorem dX11_known_83 : decode cX11_known 83 = .ok (.goto 4, 3) := by decide +kernel
end
section
theorem FA.to {x : Nat} {z : Int} {σ τ : MS} (h : z = (x : Int)) (f : FA z.toNat σ τ) : FA x σ τ := by
  rw [h] at f; exact f
def F57 (a : Nat) (σ τ : MS) : Prop := ∀ b t p : Nat, σ.2.1 0 a = (t : Int) → σ.2.1 1 a = (p : Int) → b ≠ t → b ≠ p → τ.2.1 57 b = σ.2.1 57 b
section F57S
variable {T : CT} {a x n : Nat} {σ τ υ : MS} {ks : List Nat} {z v : Int}
theorem F57.rfl : F57 a σ σ := fun _ _ _ _ _ _ _ => Eq.refl _
theorem F57.frc (h : F57 a σ τ) (f : FrC T ks τ υ) (h1 : 57 ∉ ks) : F57 a σ υ := fun b t p q r s u => by rw [f.1 57 (by omega) h1]; exact h b t p q r s u
theorem F57.put (h : F57 a σ τ) (hn : n ≠ 57) : F57 a σ (sA n z v τ) := fun b t p q r s u => by rw [sA_k (by omega)]; exact h b t p q r s u
theorem F57.fa (h : F57 a σ τ) (hx : σ.2.1 0 a = (x : Int) ∨ σ.2.1 1 a = (x : Int)) (f : FA x τ υ) : F57 a σ υ := fun b t p q r s u => by
  rw [f 57 b (by decide) (fun e => by rw [e] at s u; omega)]; exact h b t p q r s u
theorem F57.pre (f : FrC T ks σ τ) (h0 : 0 ∉ ks) (h1 : 1 ∉ ks) (h2 : 57 ∉ ks) (h : F57 a τ υ) : F57 a σ υ := fun b t p q r s u => by
  rw [h b t p (by rw [f.1 0 (by omega) h0]; exact q) (by rw [f.1 1 (by omega) h1]; exact r) s u, f.1 57 (by omega) h2]
end F57S
end
section
def WTn (T : CT) (σ : MS) : Prop := (∀ n a, n < 111 → OB T a (cls n) → FO n (T a).1 T (σ.2.1 n a)) ∧ WTC T σ ∧ WTA T σ ∧ WTQ T σ ∧ WTM T σ
theorem WT.n {T : CT} {σ : MS} (h : WT T σ) : WTn T σ := ⟨h.1, h.2.1, h.2.2.1, h.2.2.2.1, h.2.2.2.2.1⟩
def KPx (a : Nat) (T : CT) (σ : MS) (T2 : CT) (σ2 : MS) : Prop := (∀ c, (T c).1 ≠ 0 → c ≠ a → T2 c = T c ∧ (∀ n, n < 200 → σ2.2.1 n (c : Int) = σ.2.1 n c) ∧ σ2.2.1 (1000 + c) = σ.2.1 (1000 + c)) ∧ σ2.2.1 900 = σ.2.1 900
def CD (K : List Nat) (T : CT) : Prop := ∀ c, OB T c 1 ↔ c ∈ K
section CON
variable {T T2 T3 : CT} {σ σ2 σ3 : MS} {a x y k N n ci : Nat} {v z : Int} {K : List Nat}
theorem KPx.rfl : KPx a T σ T σ := ⟨fun _ _ _ => ⟨Eq.refl _, fun _ _ => Eq.refl _, Eq.refl _⟩, Eq.refl _⟩
theorem KPx.trans (h : KPx a T σ T2 σ2) (g : KPx a T2 σ2 T3 σ3) : KPx a T σ T3 σ3 := ⟨fun c p q => by
  obtain ⟨h1, h2, h3⟩ := h.1 c p q
  obtain ⟨g1, g2, g3⟩ := g.1 c (by rw [h1]; exact p) q
  exact ⟨g1.trans h1, fun n hn => (g2 n hn).trans (h2 n hn), g3.trans h3⟩, g.2.trans h.2⟩
theorem KPx.put (h : KPx a T σ T2 σ2) (hn : n < 200) : KPx a T σ T2 (sA n a v σ2) := ⟨fun c p q => by
  obtain ⟨h1, h2, h3⟩ := h.1 c p q
  exact ⟨h1, fun m hm => by rw [sA_ne (by omega)]; exact h2 m hm, by rw [sA_k (by omega)]; exact h3⟩, by rw [sA_k (by omega)]; exact h.2⟩
theorem WTn.new (h : WTn T σ) (hx : (T x).1 = 0) (hT : ∀ a, a ≠ x → T2 a = T a) (hf : ∀ n c, n < 200 → c ≠ x → σ2.2.1 n (c : Int) = σ.2.1 n c) (hr : ∀ c, c ≠ x → σ2.2.1 (1000 + c) = σ.2.1 (1000 + c)) (h9 : σ2.2.1 900 = σ.2.1 900) (hk : ((T2 x).1 < 30 ∨ 80 ≤ (T2 x).1) ∧ (T2 x).1 ≠ 4 ∧ (T2 x).1 ≠ 5) (h7 : (T2 x).1 = 7 → ∀ c, (T c).1 ≠ 7) (hv : (IA T2 x ∨ (T2 x).1 = 2) → ∀ i, VOK (T2 x).1 i (σ2.2.1 (1000 + x) i)) : WTn T2 σ2 := by
  obtain ⟨h1, h2, h3, h4, h5⟩ := h
  have g : ∀ c, (T c).1 ≠ 0 → T2 c = T c := fun c p => hT c (fun e => p (by rw [e]; exact hx))
  have gg : GT T T2 := fun c p _ => g c p
  have ob : ∀ c ci, OB T2 c ci → c ≠ x ∧ OB T c ci := fun c ci w => by
    have e : c ≠ x := fun e => by have w1 := w.1; have w2 := w.2.2; rw [e] at w1 w2; omega
    exact ⟨e, by unfold OB at w ⊢; rw [hT c e] at w; exact w⟩
  refine ⟨fun n c q w => ?_, fun c y q r => ?_, fun c q i => ?_, ⟨fun c q i i0 i1 => ?_, fun c q i i0 i1 => ?_⟩, ⟨fun c c' q q' => ?_, fun i i0 i1 => ?_⟩⟩
  · obtain ⟨e, w2⟩ := ob c _ w
    rw [hf n c (by omega) e, hT c e]
    exact fo_mono n q gg (h1 n c q w2)
  · obtain ⟨e, w2⟩ := ob c _ q
    rw [hf 5 c (by omega) e] at r
    rw [hf 6 c (by omega) e]
    obtain ⟨y2, e1, e2, -⟩ := cells_at h1 w2
    have e3 : y2 = y := by omega
    rw [g y (by rw [← e3]; omega)]
    exact h2 c y w2 r
  · by_cases e : c = x
    · rw [e] at q ⊢; exact hv q i
    · rw [hr c e, hT c e]; exact h3 c (by unfold IA at q ⊢; rw [hT c e] at q; exact q) i
  · have e : c ≠ x := fun e => by rw [e] at q; omega
    rw [hT c e] at q i1
    rw [hr c e]
    obtain ⟨y, w1, w2⟩ := h4.1 c q i i0 i1
    exact ⟨y, w1, by rw [g y (by omega)]; exact w2⟩
  · have e : c ≠ x := fun e => by rw [e] at q; omega
    rw [hT c e] at q i1
    rw [hr c e]
    obtain ⟨y, w1, w2⟩ := h4.2 c q i i0 i1
    exact ⟨y, w1, by rw [g y (by omega)]; exact w2⟩
  · by_cases e : c = x
    · by_cases e' : c' = x
      · rw [e, e']
      · rw [hT c' e'] at q'; rw [e] at q; exact absurd q' (h7 q c')
    · by_cases e' : c' = x
      · rw [hT c e] at q; rw [e'] at q'; exact absurd q (h7 q' c)
      · rw [hT c e] at q; rw [hT c' e'] at q'; exact h5.1 c c' q q'
  · rw [h9]
    rcases h5.2 i i0 i1 with q | ⟨y, q1, q2⟩
    · exact Or.inl q
    · exact Or.inr ⟨y, q1, by unfold AR; rw [g y (by have := q2.1; omega)]; exact q2⟩
theorem WTn.raw (h : WTn T σ) (hx : 80 ≤ (T x).1) (hn : n < 200) : WTn T (sA n x v σ) := by
  obtain ⟨h1, h2, h3, h4, h5⟩ := h
  have ob : ∀ c ci, OB T c ci → c ≠ x := fun c ci w e => by have := w.2.2; rw [e] at this; omega
  refine ⟨fun m c q w => ?_, fun c y q r => ?_, fun c q => ?_, ⟨fun c q => ?_, fun c q => ?_⟩, h5.1, ?_⟩
  · rw [sA_ne (by have := ob c _ w; omega)]; exact h1 m c q w
  · have e := ob c _ q
    rw [sA_ne (by omega)] at r
    rw [sA_ne (by omega)]
    exact h2 c y q r
  · rw [sA_k (by omega)]; exact h3 c q
  · rw [sA_k (by omega)]; exact h4.1 c q
  · rw [sA_k (by omega)]; exact h4.2 c q
  · rw [sA_k (by omega)]; exact h5.2
theorem WTn.rawrow (h : WTn T σ) (hx : 80 ≤ (T x).1) : WTn T (sA (1000 + x) z v σ) := by
  obtain ⟨h1, h2, h3, h4, h5⟩ := h
  refine ⟨fun m c q w => ?_, fun c y q r => ?_, fun c q => ?_, ⟨fun c q => ?_, fun c q => ?_⟩, h5.1, ?_⟩
  · rw [sA_k (by omega)]; exact h1 m c q w
  · rw [sA_k (by omega)] at r; rw [sA_k (by omega)]; exact h2 c y q r
  · have e : c ≠ x := fun e => by unfold IA at q; rw [e] at q; omega
    rw [sA_k (by omega)]; exact h3 c q
  · have e : c ≠ x := fun e => by rw [e] at q; omega
    rw [sA_k (by omega)]; exact h4.1 c q
  · have e : c ≠ x := fun e => by rw [e] at q; omega
    rw [sA_k (by omega)]; exact h4.2 c q
  · rw [sA_k (by omega)]; exact h5.2
theorem WTn.tag (h : WTn T σ) (hx : T x = (80 + ci, N)) (hk : 30 ≤ k ∧ k < 80 ∧ kC k = ci) (hf : ∀ m, m < 111 → cls m = ci → FO m k T (σ.2.1 m x)) (hc : ci = 1 → ∀ y : Nat, σ.2.1 5 x = (y : Int) → 13 * σ.2.1 6 x ≤ ((T y).2 : Int) ∨ 2600 ≤ (T y).2) : WTn (tT T x k N) σ := by
  obtain ⟨h1, h2, h3, h4, h5⟩ := h
  have hx1 : (T x).1 = 80 + ci := by rw [hx]
  have g : GT T (tT T x k N) := fun c p r => tT_ne (fun e => by rw [e] at r; omega)
  have gk : ∀ c, (T c).1 < 80 → tT T x k N c = T c := fun c r => tT_ne (fun e => by rw [e] at r; omega)
  have bk : ∀ c, c ≠ x → tT T x k N c = T c := fun c e => tT_ne e
  have xt : tT T x k N x = (k, N) := tT_eq
  refine ⟨fun m c q w => ?_, fun c y q r => ?_, fun c q i => ?_, ⟨fun c q i i0 i1 => ?_, fun c q i i0 i1 => ?_⟩, ⟨fun c c' q q' => ?_, fun i i0 i1 => ?_⟩⟩
  · by_cases e : c = x
    · rw [e] at w ⊢
      have w2 := w.2.1
      rw [xt] at w2 ⊢
      exact fo_mono m q g (hf m q (by rw [← hk.2.2]; exact w2.symm))
    · rw [bk c e]
      exact fo_mono m q g (h1 m c q (by unfold OB at w ⊢; rw [bk c e] at w; exact w))
  · by_cases e : c = x
    · rw [e] at q r ⊢
      have w2 := q.2.1
      rw [xt] at w2
      have hci : ci = 1 := by rw [← hk.2.2]; exact w2
      obtain ⟨y2, e1, e2, e3, e4⟩ : FO 5 k T (σ.2.1 5 x) := hf 5 (by decide) (by rw [hci]; rfl)
      have e5 : y2 = y := by omega
      rw [gk y (by rw [← e5]; by_cases q9 : k = 50
                   · have := e3 q9; omega
                   · have := e4 q9; omega)]
      exact hc hci y r
    · have q2 : OB T c 1 := by unfold OB at q ⊢; rw [bk c e] at q; exact q
      obtain ⟨y2, e1, e2, -⟩ := cells_at h1 q2
      have e3 : y2 = y := by omega
      rw [gk y (by rw [← e3]; omega)]
      exact h2 c y q2 r
  · have e : c ≠ x := fun e => by unfold IA at q; rw [e, xt] at q; have := hk.1; simp only at q; omega
    rw [bk c e]
    exact h3 c (by unfold IA at q ⊢; rw [bk c e] at q; exact q) i
  · have e : c ≠ x := fun e => by rw [e, xt] at q; have q9 : k = 4 := q; omega
    rw [bk c e] at q i1
    obtain ⟨y, w1, w2⟩ := h4.1 c q i i0 i1
    exact ⟨y, w1, by rw [gk y (by omega)]; exact w2⟩
  · have e : c ≠ x := fun e => by rw [e, xt] at q; have q9 : k = 5 := q; omega
    rw [bk c e] at q i1
    obtain ⟨y, w1, w2⟩ := h4.2 c q i i0 i1
    exact ⟨y, w1, by rw [gk y (by omega)]; exact w2⟩
  · have e : ∀ c, (tT T x k N c).1 = 7 → (T c).1 = 7 := fun c q => by
      have e : c ≠ x := fun e => by rw [e, xt] at q; have q9 : k = 7 := q; omega
      rw [bk c e] at q; exact q
    exact h5.1 c c' (e c q) (e c' q')
  · rcases h5.2 i i0 i1 with q | ⟨y, q1, q2⟩
    · exact Or.inl q
    · exact Or.inr ⟨y, q1, by unfold AR; rw [gk y (by have := q2.1; omega)]; exact q2⟩
theorem CD.new (h : CD K T) (hT : ∀ a, a ≠ x → T2 a = T a) (hx : (T x).1 = 0) (hk : (T2 x).1 < 30 ∨ 80 ≤ (T2 x).1) : CD K T2 := fun c => by
  rw [← h c]
  constructor
  · intro w
    have e : c ≠ x := fun e => by have w1 := w.1; have w2 := w.2.2; rw [e] at w1 w2; omega
    unfold OB at w ⊢; rw [hT c e] at w; exact w
  · intro w
    have e : c ≠ x := fun e => by have w1 := w.1; rw [e] at w1; omega
    unfold OB at w ⊢; rw [hT c e]; exact w
theorem CD.tag (h : CD K T) (hx : 80 ≤ (T x).1) (hk : kC k ≠ 1) : CD K (tT T x k N) := fun c => by
  rw [← h c]
  by_cases e : c = x
  · constructor
    · intro w; rw [e] at w; have := w.2.1; rw [tT_eq] at this; exact absurd this hk
    · intro w; rw [e] at w; have := w.2.2; omega
  · unfold OB; rw [tT_ne e]
theorem CD.tagC (h : CD K T) (hk : k = 31 ∨ k = 50) : CD (x :: K) (tT T x k N) := fun c => by
  by_cases e : c = x
  · constructor
    · intro _; rw [e]; exact List.mem_cons_self ..
    · intro _; rw [e]; unfold OB; rw [tT_eq]; show 30 ≤ k ∧ kC k = 1 ∧ k < 80; rcases hk with h | h <;> rw [h] <;> decide
  · constructor
    · intro w; exact List.mem_cons_of_mem _ ((h c).mp (by unfold OB at w ⊢; rw [tT_ne e] at w; exact w))
    · intro w
      rcases List.mem_cons.mp w with q | q
      · exact absurd q e
      · have w2 := (h c).mpr q
        unfold OB at w2 ⊢; rw [tT_ne e]; exact w2
end CON
def CX (a ci : Nat) (K : List Nat) (G G1 : Nat) (T0 : CT) (σ0 : MS) (T : CT) (σ : MS) : Prop := T a = (80 + ci, 0) ∧ WTn T σ ∧ CD K T ∧ KPx a T0 σ0 T σ ∧ σ.1 0 = σ0.1 0 + G ∧ σ.1 1 = σ0.1 1 + G1
section CXS
variable {T T0 T2 : CT} {σ σ0 σ2 : MS} {a x y k N n ci cj G G1 H H1 : Nat} {v z : Int} {K K2 : List Nat}
theorem CX.begin (h1 : T a = (80 + ci, 0)) (h2 : WTn T σ) (h3 : CD K T) : CX a ci K 0 0 T σ T σ := ⟨h1, h2, h3, KPx.rfl, by omega, by omega⟩
theorem CX.r (h : CX a ci K G G1 T0 σ0 T σ) (hc : ci < 12) : OBr T a ci := by
  unfold OBr; rw [h.1]
  refine ⟨by show 30 ≤ 80 + ci; omega, ?_, by show 80 + ci < 94; omega⟩
  show kC (80 + ci) = ci
  unfold kC; rw [if_neg (by omega), if_neg (by omega), if_pos (by omega)]; omega
theorem CX.put (h : CX a ci K G G1 T0 σ0 T σ) (hn : n < 200) : CX a ci K G G1 T0 σ0 T (sA n a v σ) :=
  ⟨h.1, h.2.1.raw (by rw [h.1]; show 80 ≤ 80 + ci; omega) hn, h.2.2.1, h.2.2.2.1.put hn, h.2.2.2.2.1, h.2.2.2.2.2⟩
theorem CX.ne (h : CX a ci K G G1 T0 σ0 T σ) (hx : (T x).1 = 0) : a ≠ x := fun e => by rw [← e, h.1] at hx; have h9 : 80 + ci = 0 := hx; omega
theorem CX.new (h : CX a ci K G G1 T0 σ0 T σ) (hx : (T x).1 = 0) (hT : ∀ a, a ≠ x → T2 a = T a) (hf : ∀ n c, n < 200 → c ≠ x → σ2.2.1 n (c : Int) = σ.2.1 n c) (hr : ∀ c, c ≠ x → σ2.2.1 (1000 + c) = σ.2.1 (1000 + c)) (h9 : σ2.2.1 900 = σ.2.1 900) (hk : ((T2 x).1 < 30 ∨ 80 ≤ (T2 x).1) ∧ (T2 x).1 ≠ 4 ∧ (T2 x).1 ≠ 5) (h7 : (T2 x).1 = 7 → ∀ c, (T c).1 ≠ 7) (hv : (IA T2 x ∨ (T2 x).1 = 2) → ∀ i, VOK (T2 x).1 i (σ2.2.1 (1000 + x) i)) (g0 : σ2.1 0 = σ.1 0 + N) (g1 : σ2.1 1 = σ.1 1 + 1) : CX a ci K (G + N) (G1 + 1) T0 σ0 T2 σ2 := by
  have hne := h.ne hx
  refine ⟨by rw [hT a hne]; exact h.1, h.2.1.new hx hT hf hr h9 hk h7 hv, h.2.2.1.new hT hx hk.1, ⟨fun c p q => ?_, h9.trans h.2.2.2.1.2⟩, by have := h.2.2.2.2.1; omega, by have := h.2.2.2.2.2; omega⟩
  obtain ⟨w1, w2, w3⟩ := h.2.2.2.1.1 c p q
  have e : c ≠ x := fun e => by rw [e] at w1 p; rw [← w1] at p; exact p hx
  exact ⟨(hT c e).trans w1, fun n hn => (hf n c hn e).trans (w2 n hn), (hr c e).trans w3⟩
theorem CX.newI (h : CX a ci K G G1 T0 σ0 T σ) (hx : (T x).1 = 0) (hk : k = 1 ∨ (11 ≤ k ∧ k ≤ 24)) : CX a ci K (G + N) (G1 + 1) T0 σ0 (tT T x k N) (rowS (1000 + x) (fun _ => 0) (gh N σ)) := by
  have e : (tT T x k N x).1 = k := by rw [tT_eq]
  exact h.new hx (fun a e => tT_ne e) (fun n c hn hc => by rw [rowS_ne (by omega)]; rfl) (fun c hc => by rw [rowS_ne (by omega)]; rfl) (by rw [rowS_ne (by omega)]; rfl) (by rw [e]; omega) (by rw [e]; omega) (fun _ i => by rw [rowS_eq]; exact vok_0) (by show σ.1 0 + (N : Int) = _; rfl) (by show σ.1 1 + 1 = _; rfl)
theorem CX.newB (h : CX a ci K G G1 T0 σ0 T σ) (hx : (T x).1 = 0) : CX a ci K (G + N) (G1 + 1) T0 σ0 (tT T x 2 N) (rowS (1000 + x) (fun _ => 0) (gh N σ)) := by
  have e : (tT T x 2 N x).1 = 2 := by rw [tT_eq]
  exact h.new hx (fun a e => tT_ne e) (fun n c hn hc => by rw [rowS_ne (by omega)]; rfl) (fun c hc => by rw [rowS_ne (by omega)]; rfl) (by rw [rowS_ne (by omega)]; rfl) (by rw [e]; omega) (by rw [e]; omega) (fun _ i => by rw [rowS_eq]; exact vok_0) (by show σ.1 0 + (N : Int) = _; rfl) (by show σ.1 1 + 1 = _; rfl)
theorem CX.newQ (h : CX a ci K G G1 T0 σ0 T σ) (hx : (T x).1 = 0) (hk : k = 94 ∨ k = 95) : CX a ci K (G + N) (G1 + 1) T0 σ0 (tT T x k N) (rowS (1000 + x) (fun _ => -1) (gh N σ)) := by
  have e : (tT T x k N x).1 = k := by rw [tT_eq]
  exact h.new hx (fun a e => tT_ne e) (fun n c hn hc => by rw [rowS_ne (by omega)]; rfl) (fun c hc => by rw [rowS_ne (by omega)]; rfl) (by rw [rowS_ne (by omega)]; rfl) (by rw [e]; omega) (by rw [e]; omega) (fun q => by unfold IA at q; rw [e] at q; omega) (by show σ.1 0 + (N : Int) = _; rfl) (by show σ.1 1 + 1 = _; rfl)
theorem CX.newJ (h : CX a ci K G G1 T0 σ0 T σ) (hx : (T x).1 = 0) : CX a ci K (G + N) (G1 + 1) T0 σ0 (tT T x 3 N) (rowL x (fun _ => 0) (gh N σ)) := by
  have e : (tT T x 3 N x).1 = 3 := by rw [tT_eq]
  exact h.new hx (fun a e => tT_ne e) (fun n c hn hc => rfl) (fun c hc => rfl) rfl (by rw [e]; omega) (by rw [e]; omega) (fun q => by unfold IA at q; rw [e] at q; omega) (by show σ.1 0 + (N : Int) = _; rfl) (by show σ.1 1 + 1 = _; rfl)
theorem CX.newO (h : CX a ci K G G1 T0 σ0 T σ) (hx : (T x).1 = 0) (hc : cj < 12) : CX a ci K (G + N) (G1 + 1) T0 σ0 (tT T x (80 + cj) 0) (objS x (gh N σ)) := by
  have e : (tT T x (80 + cj) 0 x).1 = 80 + cj := by rw [tT_eq]
  exact h.new hx (fun a e => tT_ne e) (fun n c hn hc => by rw [objS_ne (by omega)]; rfl) (fun c hc => by rw [objS_hi (by omega)]; rfl) (by rw [objS_hi (by omega)]; rfl) (by rw [e]; omega) (by rw [e]; omega) (fun q => by unfold IA at q; rw [e] at q; omega) (by show σ.1 0 + (N : Int) = _; rfl) (by show σ.1 1 + 1 = _; rfl)
theorem CX.call (h : CX a ci K G G1 T0 σ0 T σ) (hx : a ≠ x) (h1 : WTn T2 σ2) (h2 : CD K2 T2) (h3 : KPx x T σ T2 σ2) (h4 : σ2.1 0 = σ.1 0 + H) (h5 : σ2.1 1 = σ.1 1 + H1) (h0 : (T0 x).1 = 0) : CX a ci K2 (G + H) (G1 + H1) T0 σ0 T2 σ2 := by
  have ha := h.1
  obtain ⟨w1, w2, w3⟩ := h3.1 a (by rw [ha]; show 80 + ci ≠ 0; omega) hx
  refine ⟨w1.trans ha, h1, h2, ⟨fun c p q => ?_, h3.2.trans h.2.2.2.1.2⟩, by have := h.2.2.2.2.1; omega, by have := h.2.2.2.2.2; omega⟩
  obtain ⟨u1, u2, u3⟩ := h.2.2.2.1.1 c p q
  obtain ⟨y1, y2, y3⟩ := h3.1 c (by rw [u1]; exact p) (fun e => by rw [e] at p; exact p h0)
  exact ⟨y1.trans u1, fun n hn => (y2 n hn).trans (u2 n hn), y3.trans u3⟩
theorem CX.fresh (h : CX a ci K G G1 T0 σ0 T σ) (hx : (T x).1 = 0) : (T0 x).1 = 0 ∨ x = a := by
  by_cases e : x = a
  · exact Or.inr e
  · by_cases q : (T0 x).1 = 0
    · exact Or.inl q
    · have w := (h.2.2.2.1.1 x q e).1
      rw [w] at hx
      exact absurd hx q
theorem tk_keep {m : Nat × Nat} (h : T y = m) (hm : m.1 ≠ 0) (hx : (T x).1 = 0) : tT T x k N y = m := by rw [tT_ne (fun e => by rw [e] at h; rw [h] at hx; exact hm hx)]; exact h
end CXS
section OBJ
variable {d : Nat} {M : MT} {pc : Nat} {T : CT} {σ : MS} {L : List (Nat × Value)} {st : List Value} {post : Option Value → CT → MS → Prop}
theorem tn_objInit {ix x : Nat} (hd : decode M.2.1 pc = .ok (.invokespecial ix, 3)) (h1 : Cond.methodLink M.1.cls ix objectInit ∈ pWW) (h2 : Cond.instanceMethod objectInit ∈ pWW) (h3 : Cond.code objectInit ⟨#[0xb1]⟩ 1 none ∈ pWW) (hd1 : 0 < d) (hcat : (st.map fun v => v.category).sum ≤ 8) (kk : Tn d M (pc + 3) T σ L st post) : Tn d M pc T σ L (.ref x :: st) post := fun P0 sz hs => by
  obtain ⟨r, T2, σ2, sz2, n9, w, hp⟩ := kk P0 sz hs
  exact ⟨r, T2, σ2, sz2, n9, wp_objInit hd h1 h2 h3 hd1 hcat w, hp⟩
end OBJ
def NX (q a : Nat) (T0 T : CT) : Prop := ∀ c, (T0 c).1 = 0 → c ≠ a → (T c).1 ≠ q
section NXS
variable {q a x k N : Nat} {T T0 T2 : CT} {σ σ2 : MS}
theorem NX.begin (h : q ≠ 0) : NX q a T T := fun c p _ => by rw [p]; exact Ne.symm h
theorem NX.new (h : NX q a T0 T) (hT : ∀ a, a ≠ x → T2 a = T a) (hq : (T2 x).1 ≠ q) : NX q a T0 T2 := fun c p r => by
  by_cases e : c = x
  · rw [e]; exact hq
  · rw [hT c e]; exact h c p r
theorem NX.mk9 (h : NX q a T0 T) (hq : k ≠ q) : NX q a T0 (tT T x k N) := h.new (fun _ e => tT_ne e) (by rw [tT_eq]; exact hq)
theorem NX.call {m : Nat × Nat} (h : NX q a T0 T) (g : KPx x T σ T2 σ2) (hx : T2 x = m) (hq : m.1 ≠ q) (n : NX q x T T2) : NX q a T0 T2 := fun c p r => by
  by_cases e : c = x
  · rw [e, hx]; exact hq
  · by_cases z : (T c).1 = 0
    · exact n c z e
    · rw [(g.1 c z e).1]; exact h c p r
theorem NX.tag (h : NX q a T0 T) : NX q a T0 (tT T a k N) := fun c p r => by rw [tT_ne r]; exact h c p r
theorem CX.newM {ci G G1 : Nat} {K : List Nat} {σ0 : MS} (h : CX a ci K G G1 T0 σ0 T σ) (hx : (T x).1 = 0) (h9 : σ.2.1 900 = fun _ => -1) (h7 : ∀ c, (T c).1 ≠ 7) : CX a ci K (G + N) (G1 + 1) T0 σ0 (tT T x 7 N) (rowS 900 (fun _ => -1) (gh N σ)) := by
  have e : (tT T x 7 N x).1 = 7 := by rw [tT_eq]
  exact h.new hx (fun a e => tT_ne e) (fun n c hn hc => by rw [rowS_ne (by omega)]; rfl) (fun c hc => by rw [rowS_ne (by omega)]; rfl) (by rw [rowS_eq, h9]) (by rw [e]; omega) (fun _ => h7) (fun q => by unfold IA at q; rw [e] at q; omega) (by show σ.1 0 + (N : Int) = _; rfl) (by show σ.1 1 + 1 = _; rfl)
end NXS

theorem clsR_0 : ∀ m, m < 111 → cls m = 0 → 0 ≤ m ∧ m ≤ 4 := by decide
theorem clsR_1 : ∀ m, m < 111 → cls m = 1 → 5 ≤ m ∧ m ≤ 16 := by decide
theorem clsR_2 : ∀ m, m < 111 → cls m = 2 → 17 ≤ m ∧ m ≤ 17 := by decide
theorem clsR_3 : ∀ m, m < 111 → cls m = 3 → 18 ≤ m ∧ m ≤ 22 := by decide
theorem clsR_4 : ∀ m, m < 111 → cls m = 4 → 23 ≤ m ∧ m ≤ 32 := by decide
theorem clsR_5 : ∀ m, m < 111 → cls m = 5 → 33 ≤ m ∧ m ≤ 51 := by decide
theorem clsR_6 : ∀ m, m < 111 → cls m = 6 → 52 ≤ m ∧ m ≤ 54 := by decide
theorem clsR_7 : ∀ m, m < 111 → cls m = 7 → 55 ≤ m ∧ m ≤ 71 := by decide
theorem clsR_8 : ∀ m, m < 111 → cls m = 8 → 72 ≤ m ∧ m ≤ 80 := by decide
theorem clsR_9 : ∀ m, m < 111 → cls m = 9 → 81 ≤ m ∧ m ≤ 87 := by decide
theorem clsR_10 : ∀ m, m < 111 → cls m = 10 → 88 ≤ m ∧ m ≤ 94 := by decide
theorem clsR_11 : ∀ m, m < 111 → cls m = 11 → 95 ≤ m ∧ m ≤ 110 := by decide
theorem AR.of {T : CT} {x k N lo hi : Nat} (h : T x = (k, N)) (h1 : lo ≤ N) (h2 : N ≤ hi) : AR T x k lo hi := by unfold AR; rw [h]; exact ⟨rfl, h1, h2⟩
theorem KPx.tag {a k N : Nat} {T T0 : CT} {σ σ0 : MS} (h : KPx a T0 σ0 T σ) : KPx a T0 σ0 (tT T a k N) σ := ⟨fun c p q => ⟨(tT_ne q).trans (h.1 c p q).1, (h.1 c p q).2⟩, h.2⟩
theorem ne_of {T : CT} {y x : Nat} {m m2 : Nat × Nat} (h1 : T y = m) (h2 : T x = m2) (h : m ≠ m2) : y ≠ x := fun e => h (by rw [← h1, ← h2, e])
theorem tg1 {T : CT} {x k N : Nat} (h : T x = (k, N)) : (T x).1 = k := by rw [h]
theorem oiI : Cond.instanceMethod objectInit ∈ pWW := pw1 (List.mem_of_getElem? (i := 28) rfl) rfl
theorem oiC : Cond.code objectInit ⟨#[0xb1]⟩ 1 none ∈ pWW := pw1 (List.mem_of_getElem? (i := 29) rfl) rfl
end
section
theorem hfd_0 : ∀ (τ : MS) (x : Nat), (∀ j, j < 200 → τ.2.1 j (x : Int) = dfF j) → cF 0 τ x = [.null, .null, .int 0, .int 0, .int 0] := fun τ x h => by
  show cL 0 [true, true, false, false, false] τ x = _
  simp only [cL]
  rw [h 0 (by decide), h 1 (by decide), h 2 (by decide), h 3 (by decide), h 4 (by decide)]
  rfl
theorem hfd_1 : ∀ (τ : MS) (x : Nat), (∀ j, j < 200 → τ.2.1 j (x : Int) = dfF j) → cF 1 τ x = [.null, .int 0, .int 0, .int 0, .int 0, .int 0, .null, .null, .null, .null, .null, .null] := fun τ x h => by
  show cL 5 [true, false, false, false, false, false, true, true, true, true, true, true] τ x = _
  simp only [cL]
  rw [h 5 (by decide), h 6 (by decide), h 7 (by decide), h 8 (by decide), h 9 (by decide), h 10 (by decide), h 11 (by decide), h 12 (by decide), h 13 (by decide), h 14 (by decide), h 15 (by decide), h 16 (by decide)]
  rfl
theorem hfd_2 : ∀ (τ : MS) (x : Nat), (∀ j, j < 200 → τ.2.1 j (x : Int) = dfF j) → cF 2 τ x = [.null] := fun τ x h => by
  show cL 17 [true] τ x = _
  simp only [cL]
  rw [h 17 (by decide)]
  rfl
theorem hfd_3 : ∀ (τ : MS) (x : Nat), (∀ j, j < 200 → τ.2.1 j (x : Int) = dfF j) → cF 3 τ x = [.null, .null, .null, .null, .int 0] := fun τ x h => by
  show cL 18 [true, true, true, true, false] τ x = _
  simp only [cL]
  rw [h 18 (by decide), h 19 (by decide), h 20 (by decide), h 21 (by decide), h 22 (by decide)]
  rfl
theorem hfd_4 : ∀ (τ : MS) (x : Nat), (∀ j, j < 200 → τ.2.1 j (x : Int) = dfF j) → cF 4 τ x = [.null, .null, .null, .null, .int 0, .int 0, .int 0, .int 0, .int 0, .int 0] := fun τ x h => by
  show cL 23 [true, true, true, true, false, false, false, false, false, false] τ x = _
  simp only [cL]
  rw [h 23 (by decide), h 24 (by decide), h 25 (by decide), h 26 (by decide), h 27 (by decide), h 28 (by decide), h 29 (by decide), h 30 (by decide), h 31 (by decide), h 32 (by decide)]
  rfl
theorem hfd_5 : ∀ (τ : MS) (x : Nat), (∀ j, j < 200 → τ.2.1 j (x : Int) = dfF j) → cF 5 τ x = [.null, .null, .null, .null, .null, .int 0, .null, .null, .null, .int 0, .int 0, .int 0, .int 0, .int 0, .int 0, .null, .null, .int 0, .int 0] := fun τ x h => by
  show cL 33 [true, true, true, true, true, false, true, true, true, false, false, false, false, false, false, true, true, false, false] τ x = _
  simp only [cL]
  rw [h 33 (by decide), h 34 (by decide), h 35 (by decide), h 36 (by decide), h 37 (by decide), h 38 (by decide), h 39 (by decide), h 40 (by decide), h 41 (by decide), h 42 (by decide), h 43 (by decide), h 44 (by decide), h 45 (by decide), h 46 (by decide), h 47 (by decide), h 48 (by decide), h 49 (by decide), h 50 (by decide), h 51 (by decide)]
  rfl
theorem hfd_6 : ∀ (τ : MS) (x : Nat), (∀ j, j < 200 → τ.2.1 j (x : Int) = dfF j) → cF 6 τ x = [.null, .null, .null] := fun τ x h => by
  show cL 52 [true, true, true] τ x = _
  simp only [cL]
  rw [h 52 (by decide), h 53 (by decide), h 54 (by decide)]
  rfl
theorem hfd_7 : ∀ (τ : MS) (x : Nat), (∀ j, j < 200 → τ.2.1 j (x : Int) = dfF j) → cF 7 τ x = [.null, .int 0, .int 0, .int 0, .null, .null, .null, .null, .null, .null, .int 0, .int 0, .int 0, .int 0, .null, .int 0, .int 0] := fun τ x h => by
  show cL 55 [true, false, false, false, true, true, true, true, true, true, false, false, false, false, true, false, false] τ x = _
  simp only [cL]
  rw [h 55 (by decide), h 56 (by decide), h 57 (by decide), h 58 (by decide), h 59 (by decide), h 60 (by decide), h 61 (by decide), h 62 (by decide), h 63 (by decide), h 64 (by decide), h 65 (by decide), h 66 (by decide), h 67 (by decide), h 68 (by decide), h 69 (by decide), h 70 (by decide), h 71 (by decide)]
  rfl
theorem hfd_8 : ∀ (τ : MS) (x : Nat), (∀ j, j < 200 → τ.2.1 j (x : Int) = dfF j) → cF 8 τ x = [.null, .null, .null, .null, .null, .null, .null, .null, .int 0] := fun τ x h => by
  show cL 72 [true, true, true, true, true, true, true, true, false] τ x = _
  simp only [cL]
  rw [h 72 (by decide), h 73 (by decide), h 74 (by decide), h 75 (by decide), h 76 (by decide), h 77 (by decide), h 78 (by decide), h 79 (by decide), h 80 (by decide)]
  rfl
theorem hfd_9 : ∀ (τ : MS) (x : Nat), (∀ j, j < 200 → τ.2.1 j (x : Int) = dfF j) → cF 9 τ x = [.null, .null, .null, .int 0, .int 0, .int 0, .int 0] := fun τ x h => by
  show cL 81 [true, true, true, false, false, false, false] τ x = _
  simp only [cL]
  rw [h 81 (by decide), h 82 (by decide), h 83 (by decide), h 84 (by decide), h 85 (by decide), h 86 (by decide), h 87 (by decide)]
  rfl
theorem hfd_10 : ∀ (τ : MS) (x : Nat), (∀ j, j < 200 → τ.2.1 j (x : Int) = dfF j) → cF 10 τ x = [.null, .null, .null, .null, .null, .int 0, .int 0] := fun τ x h => by
  show cL 88 [true, true, true, true, true, false, false] τ x = _
  simp only [cL]
  rw [h 88 (by decide), h 89 (by decide), h 90 (by decide), h 91 (by decide), h 92 (by decide), h 93 (by decide), h 94 (by decide)]
  rfl
theorem hfd_11 : ∀ (τ : MS) (x : Nat), (∀ j, j < 200 → τ.2.1 j (x : Int) = dfF j) → cF 11 τ x = [.null, .int 0, .int 0, .null, .null, .null, .null, .null, .null, .int 0, .int 0, .null, .null, .null, .null, .null] := fun τ x h => by
  show cL 95 [true, false, false, true, true, true, true, true, true, false, false, true, true, true, true, true] τ x = _
  simp only [cL]
  rw [h 95 (by decide), h 96 (by decide), h 97 (by decide), h 98 (by decide), h 99 (by decide), h 100 (by decide), h 101 (by decide), h 102 (by decide), h 103 (by decide), h 104 (by decide), h 105 (by decide), h 106 (by decide), h 107 (by decide), h 108 (by decide), h 109 (by decide), h 110 (by decide)]
  rfl
end
section
theorem cd_X1_init : Cond.code yX1_init cX1_init 1 none ∈ pWW := pw1 (List.mem_of_getElem? (i := 75) rfl) rfl
abbrev m_X1_init : MT := (yX1_init, cX1_init, 1, none)
theorem ok_X1_init : pOk m_X1_init := ⟨⟨cd_X1_init, ini_1⟩, by decide +kernel, ⟨by decide +kernel, by decide +kernel⟩, Nat.le_of_ble_eq_true rfl⟩
theorem np_X1_init : (parseMethodDescriptor yX1_init.desc).map (fun d => d.parameters.length) = some 0 := by decide +kernel
theorem im_X1_init : Cond.instanceMethod yX1_init ∈ pWW := pw1 (List.mem_of_getElem? (i := 74) rfl) rfl
theorem mlo1_3 : Cond.methodLink RX1 3 objectInit ∈ pWW := pw1 (List.mem_of_getElem? (i := 76) rfl) rfl
theorem dX1_init_0 : decode cX1_init 0 = .ok (.aload_n 0, 1) := by decide +kernel
theorem dX1_init_1 : decode cX1_init 1 = .ok (.invokespecial 3, 3) := by decide +kernel
theorem dX1_init_4 : decode cX1_init 4 = .ok (.aload_n 0, 1) := by decide +kernel
theorem dX1_init_5 : decode cX1_init 5 = .ok (.sipush 208, 3) := by decide +kernel
theorem dX1_init_8 : decode cX1_init 8 = .ok (.newarray .int, 2) := by decide +kernel
theorem dX1_init_10 : decode cX1_init 10 = .ok (.putfield 9, 3) := by decide +kernel
theorem dX1_init_13 : decode cX1_init 13 = .ok (.aload_n 0, 1) := by decide +kernel
theorem dX1_init_14 : decode cX1_init 14 = .ok (.bipush 12, 2) := by decide +kernel
theorem dX1_init_16 : decode cX1_init 16 = .ok (.newarray .int, 2) := by decide +kernel
theorem dX1_init_18 : decode cX1_init 18 = .ok (.putfield 15, 3) := by decide +kernel
theorem dX1_init_21 : decode cX1_init 21 = .ok (.aload_n 0, 1) := by decide +kernel
theorem dX1_init_22 : decode cX1_init 22 = .ok (.bipush 12, 2) := by decide +kernel
theorem dX1_init_24 : decode cX1_init 24 = .ok (.newarray .int, 2) := by decide +kernel
theorem dX1_init_26 : decode cX1_init 26 = .ok (.putfield 18, 3) := by decide +kernel
theorem dX1_init_29 : decode cX1_init 29 = .ok (.aload_n 0, 1) := by decide +kernel
theorem dX1_init_30 : decode cX1_init 30 = .ok (.bipush 12, 2) := by decide +kernel
theorem dX1_init_32 : decode cX1_init 32 = .ok (.newarray .int, 2) := by decide +kernel
theorem dX1_init_34 : decode cX1_init 34 = .ok (.putfield 21, 3) := by decide +kernel
theorem dX1_init_37 : decode cX1_init 37 = .ok (.aload_n 0, 1) := by decide +kernel
theorem dX1_init_38 : decode cX1_init 38 = .ok (.bipush 12, 2) := by decide +kernel
theorem dX1_init_40 : decode cX1_init 40 = .ok (.newarray .int, 2) := by decide +kernel
theorem dX1_init_42 : decode cX1_init 42 = .ok (.putfield 24, 3) := by decide +kernel
theorem dX1_init_45 : decode cX1_init 45 = .ok (.aload_n 0, 1) := by decide +kernel
theorem dX1_init_46 : decode cX1_init 46 = .ok (.sipush 144, 3) := by decide +kernel
theorem dX1_init_49 : decode cX1_init 49 = .ok (.newarray .int, 2) := by decide +kernel
theorem dX1_init_51 : decode cX1_init 51 = .ok (.putfield 27, 3) := by decide +kernel
theorem dX1_init_54 : decode cX1_init 54 = .ok (.aload_n 0, 1) := by decide +kernel
theorem dX1_init_55 : decode cX1_init 55 = .ok (.bipush 13, 2) := by decide +kernel
theorem dX1_init_57 : decode cX1_init 57 = .ok (.newarray .int, 2) := by decide +kernel
theorem dX1_init_59 : decode cX1_init 59 = .ok (.putfield 30, 3) := by decide +kernel
theorem dX1_init_62 : decode cX1_init 62 = .ok (.return_, 1) := by decide +kernel
end
section
theorem cd_X7_init : Cond.code yX7_init cX7_init 2 none ∈ pWW := pw2 (List.mem_of_getElem? (i := 131) rfl) rfl
abbrev m_X7_init : MT := (yX7_init, cX7_init, 2, none)
theorem ok_X7_init : pOk m_X7_init := ⟨⟨cd_X7_init, ini_7⟩, by decide +kernel, ⟨by decide +kernel, by decide +kernel⟩, Nat.le_of_ble_eq_true rfl⟩
theorem np_X7_init : (parseMethodDescriptor yX7_init.desc).map (fun d => d.parameters.length) = some 1 := by decide +kernel
theorem im_X7_init : Cond.instanceMethod yX7_init ∈ pWW := pw2 (List.mem_of_getElem? (i := 130) rfl) rfl
theorem mlo7_3 : Cond.methodLink RX7 3 objectInit ∈ pWW := pw2 (List.mem_of_getElem? (i := 132) rfl) rfl
theorem dX7_init_0 : decode cX7_init 0 = .ok (.aload_n 0, 1) := by decide +kernel
theorem dX7_init_1 : decode cX7_init 1 = .ok (.invokespecial 3, 3) := by decide +kernel
theorem dX7_init_4 : decode cX7_init 4 = .ok (.aload_n 0, 1) := by decide +kernel
theorem dX7_init_5 : decode cX7_init 5 = .ok (.bipush 9, 2) := by decide +kernel
theorem dX7_init_7 : decode cX7_init 7 = .ok (.newarray .int, 2) := by decide +kernel
theorem dX7_init_9 : decode cX7_init 9 = .ok (.putfield 9, 3) := by decide +kernel
theorem dX7_init_12 : decode cX7_init 12 = .ok (.aload_n 0, 1) := by decide +kernel
theorem dX7_init_13 : decode cX7_init 13 = .ok (.bipush 9, 2) := by decide +kernel
theorem dX7_init_15 : decode cX7_init 15 = .ok (.newarray .int, 2) := by decide +kernel
theorem dX7_init_17 : decode cX7_init 17 = .ok (.putfield 15, 3) := by decide +kernel
theorem dX7_init_20 : decode cX7_init 20 = .ok (.aload_n 0, 1) := by decide +kernel
theorem dX7_init_21 : decode cX7_init 21 = .ok (.bipush 9, 2) := by decide +kernel
theorem dX7_init_23 : decode cX7_init 23 = .ok (.newarray .int, 2) := by decide +kernel
theorem dX7_init_25 : decode cX7_init 25 = .ok (.putfield 18, 3) := by decide +kernel
theorem dX7_init_28 : decode cX7_init 28 = .ok (.aload_n 0, 1) := by decide +kernel
theorem dX7_init_29 : decode cX7_init 29 = .ok (.bipush 108, 2) := by decide +kernel
theorem dX7_init_31 : decode cX7_init 31 = .ok (.newarray .int, 2) := by decide +kernel
theorem dX7_init_33 : decode cX7_init 33 = .ok (.putfield 21, 3) := by decide +kernel
theorem dX7_init_36 : decode cX7_init 36 = .ok (.aload_n 0, 1) := by decide +kernel
theorem dX7_init_37 : decode cX7_init 37 = .ok (.sipush 1728, 3) := by decide +kernel
theorem dX7_init_40 : decode cX7_init 40 = .ok (.newarray .int, 2) := by decide +kernel
theorem dX7_init_42 : decode cX7_init 42 = .ok (.putfield 24, 3) := by decide +kernel
theorem dX7_init_45 : decode cX7_init 45 = .ok (.aload_n 0, 1) := by decide +kernel
theorem dX7_init_46 : decode cX7_init 46 = .ok (.sipush 200, 3) := by decide +kernel
theorem dX7_init_49 : decode cX7_init 49 = .ok (.newarray .int, 2) := by decide +kernel
theorem dX7_init_51 : decode cX7_init 51 = .ok (.putfield 27, 3) := by decide +kernel
theorem dX7_init_54 : decode cX7_init 54 = .ok (.aload_n 0, 1) := by decide +kernel
theorem dX7_init_55 : decode cX7_init 55 = .ok (.aload_n 1, 1) := by decide +kernel
theorem dX7_init_56 : decode cX7_init 56 = .ok (.putfield 30, 3) := by decide +kernel
theorem dX7_init_59 : decode cX7_init 59 = .ok (.return_, 1) := by decide +kernel
end
section
theorem cd_X0_init : Cond.code yX0_init cX0_init 3 none ∈ pWW := pw6 (List.mem_of_getElem? (i := 176) rfl) rfl
abbrev m_X0_init : MT := (yX0_init, cX0_init, 3, none)
theorem ok_X0_init : pOk m_X0_init := ⟨⟨cd_X0_init, ini_0⟩, by decide +kernel, ⟨by decide +kernel, by decide +kernel⟩, Nat.le_of_ble_eq_true rfl⟩
theorem np_X0_init : (parseMethodDescriptor yX0_init.desc).map (fun d => d.parameters.length) = some 2 := by decide +kernel
theorem im_X0_init : Cond.instanceMethod yX0_init ∈ pWW := pw6 (List.mem_of_getElem? (i := 175) rfl) rfl
theorem mlo0_3 : Cond.methodLink RX0 3 objectInit ∈ pWW := pw6 (List.mem_of_getElem? (i := 177) rfl) rfl
theorem cl0_9 : Cond.classLink RX0 9 RX7 ∈ pWW := pw6 (List.mem_of_getElem? (i := 178) rfl) rfl
theorem ist_7 : Cond.instantiable RX7 17 ∈ pWW := pw2 (List.mem_of_getElem? (i := 128) rfl) rfl
theorem ml0_11 : Cond.methodLink RX0 11 yX7_init ∈ pWW := pw6 (List.mem_of_getElem? (i := 179) rfl) rfl
theorem dX0_init_0 : decode cX0_init 0 = .ok (.aload_n 0, 1) := by decide +kernel
theorem dX0_init_1 : decode cX0_init 1 = .ok (.invokespecial 3, 3) := by decide +kernel
theorem dX0_init_4 : decode cX0_init 4 = .ok (.aload_n 0, 1) := by decide +kernel
theorem dX0_init_5 : decode cX0_init 5 = .ok (.new 9, 3) := by decide +kernel
theorem dX0_init_8 : decode cX0_init 8 = .ok (.dup, 1) := by decide +kernel
theorem dX0_init_9 : decode cX0_init 9 = .ok (.aload_n 1, 1) := by decide +kernel
theorem dX0_init_10 : decode cX0_init 10 = .ok (.invokespecial 11, 3) := by decide +kernel
theorem dX0_init_13 : decode cX0_init 13 = .ok (.putfield 14, 3) := by decide +kernel
theorem dX0_init_16 : decode cX0_init 16 = .ok (.aload_n 0, 1) := by decide +kernel
theorem dX0_init_17 : decode cX0_init 17 = .ok (.new 9, 3) := by decide +kernel
theorem dX0_init_20 : decode cX0_init 20 = .ok (.dup, 1) := by decide +kernel
theorem dX0_init_21 : decode cX0_init 21 = .ok (.aload_n 2, 1) := by decide +kernel
theorem dX0_init_22 : decode cX0_init 22 = .ok (.invokespecial 11, 3) := by decide +kernel
theorem dX0_init_25 : decode cX0_init 25 = .ok (.putfield 20, 3) := by decide +kernel
theorem dX0_init_28 : decode cX0_init 28 = .ok (.return_, 1) := by decide +kernel
end
section
theorem cd_X3_init : Cond.code yX3_init cX3_init 1 none ∈ pWW := pw1 (List.mem_of_getElem? (i := 218) rfl) rfl
abbrev m_X3_init : MT := (yX3_init, cX3_init, 1, none)
theorem ok_X3_init : pOk m_X3_init := ⟨⟨cd_X3_init, ini_3⟩, by decide +kernel, ⟨by decide +kernel, by decide +kernel⟩, Nat.le_of_ble_eq_true rfl⟩
theorem np_X3_init : (parseMethodDescriptor yX3_init.desc).map (fun d => d.parameters.length) = some 0 := by decide +kernel
theorem im_X3_init : Cond.instanceMethod yX3_init ∈ pWW := pw1 (List.mem_of_getElem? (i := 217) rfl) rfl
theorem mlo3_3 : Cond.methodLink RX3 3 objectInit ∈ pWW := pw1 (List.mem_of_getElem? (i := 219) rfl) rfl
theorem dX3_init_0 : decode cX3_init 0 = .ok (.aload_n 0, 1) := by decide +kernel
theorem dX3_init_1 : decode cX3_init 1 = .ok (.invokespecial 3, 3) := by decide +kernel
theorem dX3_init_4 : decode cX3_init 4 = .ok (.aload_n 0, 1) := by decide +kernel
theorem dX3_init_5 : decode cX3_init 5 = .ok (.sipush 603, 3) := by decide +kernel
theorem dX3_init_8 : decode cX3_init 8 = .ok (.newarray .long, 2) := by decide +kernel
theorem dX3_init_10 : decode cX3_init 10 = .ok (.putfield 9, 3) := by decide +kernel
theorem dX3_init_13 : decode cX3_init 13 = .ok (.aload_n 0, 1) := by decide +kernel
theorem dX3_init_14 : decode cX3_init 14 = .ok (.iconst 3, 1) := by decide +kernel
theorem dX3_init_15 : decode cX3_init 15 = .ok (.newarray .long, 2) := by decide +kernel
theorem dX3_init_17 : decode cX3_init 17 = .ok (.putfield 15, 3) := by decide +kernel
theorem dX3_init_20 : decode cX3_init 20 = .ok (.aload_n 0, 1) := by decide +kernel
theorem dX3_init_21 : decode cX3_init 21 = .ok (.sipush 201, 3) := by decide +kernel
theorem dX3_init_24 : decode cX3_init 24 = .ok (.newarray .int, 2) := by decide +kernel
theorem dX3_init_26 : decode cX3_init 26 = .ok (.putfield 18, 3) := by decide +kernel
theorem dX3_init_29 : decode cX3_init 29 = .ok (.aload_n 0, 1) := by decide +kernel
theorem dX3_init_30 : decode cX3_init 30 = .ok (.sipush 201, 3) := by decide +kernel
theorem dX3_init_33 : decode cX3_init 33 = .ok (.newarray .int, 2) := by decide +kernel
theorem dX3_init_35 : decode cX3_init 35 = .ok (.putfield 22, 3) := by decide +kernel
theorem dX3_init_38 : decode cX3_init 38 = .ok (.return_, 1) := by decide +kernel
end
section
theorem cd_X2_init : Cond.code yX2_init cX2_init 2 none ∈ pWW := pw2 (List.mem_of_getElem? (i := 49) rfl) rfl
abbrev m_X2_init : MT := (yX2_init, cX2_init, 2, none)
theorem ok_X2_init : pOk m_X2_init := ⟨⟨cd_X2_init, ini_2⟩, by decide +kernel, ⟨by decide +kernel, by decide +kernel⟩, Nat.le_of_ble_eq_true rfl⟩
theorem np_X2_init : (parseMethodDescriptor yX2_init.desc).map (fun d => d.parameters.length) = some 1 := by decide +kernel
theorem im_X2_init : Cond.instanceMethod yX2_init ∈ pWW := pw2 (List.mem_of_getElem? (i := 48) rfl) rfl
theorem mlo2_3 : Cond.methodLink RX2 3 objectInit ∈ pWW := pw2 (List.mem_of_getElem? (i := 50) rfl) rfl
theorem dX2_init_0 : decode cX2_init 0 = .ok (.aload_n 0, 1) := by decide +kernel
theorem dX2_init_1 : decode cX2_init 1 = .ok (.invokespecial 3, 3) := by decide +kernel
theorem dX2_init_4 : decode cX2_init 4 = .ok (.aload_n 0, 1) := by decide +kernel
theorem dX2_init_5 : decode cX2_init 5 = .ok (.aload_n 1, 1) := by decide +kernel
theorem dX2_init_6 : decode cX2_init 6 = .ok (.putfield 9, 3) := by decide +kernel
theorem dX2_init_9 : decode cX2_init 9 = .ok (.return_, 1) := by decide +kernel
end
section
theorem cd_X4_init : Cond.code yX4_init cX4_init 2 none ∈ pWW := pw2 (List.mem_of_getElem? (i := 59) rfl) rfl
abbrev m_X4_init : MT := (yX4_init, cX4_init, 2, none)
theorem ok_X4_init : pOk m_X4_init := ⟨⟨cd_X4_init, ini_4⟩, by decide +kernel, ⟨by decide +kernel, by decide +kernel⟩, Nat.le_of_ble_eq_true rfl⟩
theorem np_X4_init : (parseMethodDescriptor yX4_init.desc).map (fun d => d.parameters.length) = some 1 := by decide +kernel
theorem im_X4_init : Cond.instanceMethod yX4_init ∈ pWW := pw2 (List.mem_of_getElem? (i := 58) rfl) rfl
theorem mlo4_3 : Cond.methodLink RX4 3 objectInit ∈ pWW := pw2 (List.mem_of_getElem? (i := 60) rfl) rfl
theorem dX4_init_0 : decode cX4_init 0 = .ok (.aload_n 0, 1) := by decide +kernel
theorem dX4_init_1 : decode cX4_init 1 = .ok (.invokespecial 3, 3) := by decide +kernel
theorem dX4_init_4 : decode cX4_init 4 = .ok (.aload_n 0, 1) := by decide +kernel
theorem dX4_init_5 : decode cX4_init 5 = .ok (.bipush 8, 2) := by decide +kernel
theorem dX4_init_7 : decode cX4_init 7 = .ok (.newarray .int, 2) := by decide +kernel
theorem dX4_init_9 : decode cX4_init 9 = .ok (.putfield 9, 3) := by decide +kernel
theorem dX4_init_12 : decode cX4_init 12 = .ok (.aload_n 0, 1) := by decide +kernel
theorem dX4_init_13 : decode cX4_init 13 = .ok (.aload_n 1, 1) := by decide +kernel
theorem dX4_init_14 : decode cX4_init 14 = .ok (.putfield 15, 3) := by decide +kernel
theorem dX4_init_17 : decode cX4_init 17 = .ok (.return_, 1) := by decide +kernel
end
section
theorem cd_X6_init : Cond.code yX6_init cX6_init 1 none ∈ pWW := pw2 (List.mem_of_getElem? (i := 33) rfl) rfl
abbrev m_X6_init : MT := (yX6_init, cX6_init, 1, none)
theorem ok_X6_init : pOk m_X6_init := ⟨⟨cd_X6_init, ini_6⟩, by decide +kernel, ⟨by decide +kernel, by decide +kernel⟩, Nat.le_of_ble_eq_true rfl⟩
theorem np_X6_init : (parseMethodDescriptor yX6_init.desc).map (fun d => d.parameters.length) = some 0 := by decide +kernel
theorem im_X6_init : Cond.instanceMethod yX6_init ∈ pWW := pw2 (List.mem_of_getElem? (i := 32) rfl) rfl
theorem mlo6_3 : Cond.methodLink RX6 3 objectInit ∈ pWW := pw2 (List.mem_of_getElem? (i := 34) rfl) rfl
theorem dX6_init_0 : decode cX6_init 0 = .ok (.aload_n 0, 1) := by decide +kernel
theorem dX6_init_1 : decode cX6_init 1 = .ok (.invokespecial 3, 3) := by decide +kernel
theorem dX6_init_4 : decode cX6_init 4 = .ok (.aload_n 0, 1) := by decide +kernel
theorem dX6_init_5 : decode cX6_init 5 = .ok (.sipush 192, 3) := by decide +kernel
theorem dX6_init_8 : decode cX6_init 8 = .ok (.newarray .int, 2) := by decide +kernel
theorem dX6_init_10 : decode cX6_init 10 = .ok (.putfield 9, 3) := by decide +kernel
theorem dX6_init_13 : decode cX6_init 13 = .ok (.aload_n 0, 1) := by decide +kernel
theorem dX6_init_14 : decode cX6_init 14 = .ok (.sipush 192, 3) := by decide +kernel
theorem dX6_init_17 : decode cX6_init 17 = .ok (.newarray .int, 2) := by decide +kernel
theorem dX6_init_19 : decode cX6_init 19 = .ok (.putfield 15, 3) := by decide +kernel
theorem dX6_init_22 : decode cX6_init 22 = .ok (.aload_n 0, 1) := by decide +kernel
theorem dX6_init_23 : decode cX6_init 23 = .ok (.iconst 3, 1) := by decide +kernel
theorem dX6_init_24 : decode cX6_init 24 = .ok (.newarray .long, 2) := by decide +kernel
theorem dX6_init_26 : decode cX6_init 26 = .ok (.putfield 18, 3) := by decide +kernel
theorem dX6_init_29 : decode cX6_init 29 = .ok (.return_, 1) := by decide +kernel
end
section
theorem cd_X8_init : Cond.code yX8_init cX8_init 2 none ∈ pWW := pw2 (List.mem_of_getElem? (i := 96) rfl) rfl
abbrev m_X8_init : MT := (yX8_init, cX8_init, 2, none)
theorem ok_X8_init : pOk m_X8_init := ⟨⟨cd_X8_init, ini_8⟩, by decide +kernel, ⟨by decide +kernel, by decide +kernel⟩, Nat.le_of_ble_eq_true rfl⟩
theorem np_X8_init : (parseMethodDescriptor yX8_init.desc).map (fun d => d.parameters.length) = some 1 := by decide +kernel
theorem im_X8_init : Cond.instanceMethod yX8_init ∈ pWW := pw2 (List.mem_of_getElem? (i := 95) rfl) rfl
theorem mlo8_3 : Cond.methodLink RX8 3 objectInit ∈ pWW := pw2 (List.mem_of_getElem? (i := 97) rfl) rfl
theorem dX8_init_0 : decode cX8_init 0 = .ok (.aload_n 0, 1) := by decide +kernel
theorem dX8_init_1 : decode cX8_init 1 = .ok (.invokespecial 3, 3) := by decide +kernel
theorem dX8_init_4 : decode cX8_init 4 = .ok (.aload_n 0, 1) := by decide +kernel
theorem dX8_init_5 : decode cX8_init 5 = .ok (.sipush 576, 3) := by decide +kernel
theorem dX8_init_8 : decode cX8_init 8 = .ok (.newarray .long, 2) := by decide +kernel
theorem dX8_init_10 : decode cX8_init 10 = .ok (.putfield 9, 3) := by decide +kernel
theorem dX8_init_13 : decode cX8_init 13 = .ok (.aload_n 0, 1) := by decide +kernel
theorem dX8_init_14 : decode cX8_init 14 = .ok (.iconst 3, 1) := by decide +kernel
theorem dX8_init_15 : decode cX8_init 15 = .ok (.newarray .long, 2) := by decide +kernel
theorem dX8_init_17 : decode cX8_init 17 = .ok (.putfield 15, 3) := by decide +kernel
theorem dX8_init_20 : decode cX8_init 20 = .ok (.aload_n 0, 1) := by decide +kernel
theorem dX8_init_21 : decode cX8_init 21 = .ok (.sipush 192, 3) := by decide +kernel
theorem dX8_init_24 : decode cX8_init 24 = .ok (.newarray .int, 2) := by decide +kernel
theorem dX8_init_26 : decode cX8_init 26 = .ok (.putfield 18, 3) := by decide +kernel
theorem dX8_init_29 : decode cX8_init 29 = .ok (.aload_n 0, 1) := by decide +kernel
theorem dX8_init_30 : decode cX8_init 30 = .ok (.sipush 576, 3) := by decide +kernel
theorem dX8_init_33 : decode cX8_init 33 = .ok (.newarray .long, 2) := by decide +kernel
theorem dX8_init_35 : decode cX8_init 35 = .ok (.putfield 22, 3) := by decide +kernel
theorem dX8_init_38 : decode cX8_init 38 = .ok (.aload_n 0, 1) := by decide +kernel
theorem dX8_init_39 : decode cX8_init 39 = .ok (.sipush 603, 3) := by decide +kernel
theorem dX8_init_42 : decode cX8_init 42 = .ok (.newarray .long, 2) := by decide +kernel
theorem dX8_init_44 : decode cX8_init 44 = .ok (.putfield 25, 3) := by decide +kernel
theorem dX8_init_47 : decode cX8_init 47 = .ok (.aload_n 0, 1) := by decide +kernel
theorem dX8_init_48 : decode cX8_init 48 = .ok (.sipush 201, 3) := by decide +kernel
theorem dX8_init_51 : decode cX8_init 51 = .ok (.newarray .int, 2) := by decide +kernel
theorem dX8_init_53 : decode cX8_init 53 = .ok (.putfield 28, 3) := by decide +kernel
theorem dX8_init_56 : decode cX8_init 56 = .ok (.aload_n 0, 1) := by decide +kernel
theorem dX8_init_57 : decode cX8_init 57 = .ok (.iconst 3, 1) := by decide +kernel
theorem dX8_init_58 : decode cX8_init 58 = .ok (.newarray .long, 2) := by decide +kernel
theorem dX8_init_60 : decode cX8_init 60 = .ok (.putfield 31, 3) := by decide +kernel
theorem dX8_init_63 : decode cX8_init 63 = .ok (.aload_n 0, 1) := by decide +kernel
theorem dX8_init_64 : decode cX8_init 64 = .ok (.aload_n 1, 1) := by decide +kernel
theorem dX8_init_65 : decode cX8_init 65 = .ok (.putfield 34, 3) := by decide +kernel
theorem dX8_init_68 : decode cX8_init 68 = .ok (.return_, 1) := by decide +kernel
end
section
theorem cd_X9_init : Cond.code yX9_init cX9_init 1 none ∈ pWW := pw1 (List.mem_of_getElem? (i := 42) rfl) rfl
abbrev m_X9_init : MT := (yX9_init, cX9_init, 1, none)
theorem ok_X9_init : pOk m_X9_init := ⟨⟨cd_X9_init, ini_9⟩, by decide +kernel, ⟨by decide +kernel, by decide +kernel⟩, Nat.le_of_ble_eq_true rfl⟩
theorem np_X9_init : (parseMethodDescriptor yX9_init.desc).map (fun d => d.parameters.length) = some 0 := by decide +kernel
theorem im_X9_init : Cond.instanceMethod yX9_init ∈ pWW := pw1 (List.mem_of_getElem? (i := 41) rfl) rfl
theorem mlo9_3 : Cond.methodLink RX9 3 objectInit ∈ pWW := pw1 (List.mem_of_getElem? (i := 43) rfl) rfl
theorem dX9_init_0 : decode cX9_init 0 = .ok (.aload_n 0, 1) := by decide +kernel
theorem dX9_init_1 : decode cX9_init 1 = .ok (.invokespecial 3, 3) := by decide +kernel
theorem dX9_init_4 : decode cX9_init 4 = .ok (.aload_n 0, 1) := by decide +kernel
theorem dX9_init_5 : decode cX9_init 5 = .ok (.sipush 1201, 3) := by decide +kernel
theorem dX9_init_8 : decode cX9_init 8 = .ok (.newarray .int, 2) := by decide +kernel
theorem dX9_init_10 : decode cX9_init 10 = .ok (.putfield 9, 3) := by decide +kernel
theorem dX9_init_13 : decode cX9_init 13 = .ok (.aload_n 0, 1) := by decide +kernel
theorem dX9_init_14 : decode cX9_init 14 = .ok (.sipush 1201, 3) := by decide +kernel
theorem dX9_init_17 : decode cX9_init 17 = .ok (.newarray .int, 2) := by decide +kernel
theorem dX9_init_19 : decode cX9_init 19 = .ok (.putfield 15, 3) := by decide +kernel
theorem dX9_init_22 : decode cX9_init 22 = .ok (.aload_n 0, 1) := by decide +kernel
theorem dX9_init_23 : decode cX9_init 23 = .ok (.sipush 1201, 3) := by decide +kernel
theorem dX9_init_26 : decode cX9_init 26 = .ok (.newarray .int, 2) := by decide +kernel
theorem dX9_init_28 : decode cX9_init 28 = .ok (.putfield 18, 3) := by decide +kernel
theorem dX9_init_31 : decode cX9_init 31 = .ok (.return_, 1) := by decide +kernel
end
section
theorem cd_X10_init : Cond.code yX10_init cX10_init 1 none ∈ pWW := pw2 (List.mem_of_getElem? (i := 3) rfl) rfl
abbrev m_X10_init : MT := (yX10_init, cX10_init, 1, none)
theorem ok_X10_init : pOk m_X10_init := ⟨⟨cd_X10_init, ini_10⟩, by decide +kernel, ⟨by decide +kernel, by decide +kernel⟩, Nat.le_of_ble_eq_true rfl⟩
theorem np_X10_init : (parseMethodDescriptor yX10_init.desc).map (fun d => d.parameters.length) = some 0 := by decide +kernel
theorem im_X10_init : Cond.instanceMethod yX10_init ∈ pWW := pw2 (List.mem_of_getElem? (i := 2) rfl) rfl
theorem mlo10_3 : Cond.methodLink RX10 3 objectInit ∈ pWW := pw2 (List.mem_of_getElem? (i := 4) rfl) rfl
theorem cl10_9 : Cond.classLink RX10 9 "[I" ∈ pWW := pw2 (List.mem_of_getElem? (i := 5) rfl) rfl
theorem dX10_init_0 : decode cX10_init 0 = .ok (.aload_n 0, 1) := by decide +kernel
theorem dX10_init_1 : decode cX10_init 1 = .ok (.invokespecial 3, 3) := by decide +kernel
theorem dX10_init_4 : decode cX10_init 4 = .ok (.aload_n 0, 1) := by decide +kernel
theorem dX10_init_5 : decode cX10_init 5 = .ok (.bipush 6, 2) := by decide +kernel
theorem dX10_init_7 : decode cX10_init 7 = .ok (.anewarray 9, 3) := by decide +kernel
theorem dX10_init_10 : decode cX10_init 10 = .ok (.putfield 11, 3) := by decide +kernel
theorem dX10_init_13 : decode cX10_init 13 = .ok (.aload_n 0, 1) := by decide +kernel
theorem dX10_init_14 : decode cX10_init 14 = .ok (.bipush 6, 2) := by decide +kernel
theorem dX10_init_16 : decode cX10_init 16 = .ok (.newarray .int, 2) := by decide +kernel
theorem dX10_init_18 : decode cX10_init 18 = .ok (.putfield 17, 3) := by decide +kernel
theorem dX10_init_21 : decode cX10_init 21 = .ok (.aload_n 0, 1) := by decide +kernel
theorem dX10_init_22 : decode cX10_init 22 = .ok (.sipush 200, 3) := by decide +kernel
theorem dX10_init_25 : decode cX10_init 25 = .ok (.newarray .int, 2) := by decide +kernel
theorem dX10_init_27 : decode cX10_init 27 = .ok (.putfield 20, 3) := by decide +kernel
theorem dX10_init_30 : decode cX10_init 30 = .ok (.aload_n 0, 1) := by decide +kernel
theorem dX10_init_31 : decode cX10_init 31 = .ok (.sipush 145, 3) := by decide +kernel
theorem dX10_init_34 : decode cX10_init 34 = .ok (.newarray .int, 2) := by decide +kernel
theorem dX10_init_36 : decode cX10_init 36 = .ok (.putfield 23, 3) := by decide +kernel
theorem dX10_init_39 : decode cX10_init 39 = .ok (.return_, 1) := by decide +kernel
end
section
def SEP (σ : MS) (a : Nat) : Prop := ∀ p : Nat, σ.2.1 110 a = (p : Int) → σ.2.1 0 p ≠ σ.2.1 103 a
theorem SEP.frc {T : CT} {ks : List Nat} {σ τ : MS} {a : Nat} (h : SEP σ a) (f : FrC T ks σ τ) (h0 : 0 ∉ ks) (h1 : 103 ∉ ks) (h2 : 110 ∉ ks) : SEP τ a := fun p q => by
  rw [f.1 110 (by omega) h2] at q
  rw [f.1 0 (by omega) h0, f.1 103 (by omega) h1]
  exact h p q
theorem TR.fa {σ τ : MS} {a x : Nat} {B : Int} (h : TR σ a B) (f : FA x σ τ) (hx : ∀ t : Nat, σ.2.1 103 a = (t : Int) → t ≠ x) (h3 : τ.2.1 103 a = σ.2.1 103 a) : TR τ a B := fun t q => by
  rw [h3] at q
  rw [f 57 t (by decide) (hx t q)]
  exact h t q
theorem TR.f57 {σ τ : MS} {a p t0 p0 : Nat} {B : Int} (h : TR σ a B) (f : F57 p σ τ) (h0 : σ.2.1 0 p = (t0 : Int)) (h1 : σ.2.1 1 p = (p0 : Int)) (hx : ∀ t : Nat, σ.2.1 103 a = (t : Int) → t ≠ t0 ∧ t ≠ p0) (h3 : τ.2.1 103 a = σ.2.1 103 a) : TR τ a B := fun t q => by
  rw [h3] at q
  obtain ⟨q1, q2⟩ := hx t q
  rw [f t t0 p0 h0 h1 q1 q2]
  exact h t q
end
section
theorem cd_X11_beside : Cond.code yX11_beside cX11_beside 8 (some .int) ∈ pWW := pw6 (List.mem_of_getElem? (i := 171) rfl) rfl
abbrev m_X11_beside : MT := (yX11_beside, cX11_beside, 8, (some .int))
theorem ok_X11_beside : pOk m_X11_beside := ⟨⟨cd_X11_beside, ini_11⟩, by decide +kernel, ⟨by decide +kernel, by decide +kernel⟩, Nat.le_of_ble_eq_true rfl⟩
theorem np_X11_beside : (parseMethodDescriptor yX11_beside.desc).map (fun d => d.parameters.length) = some 6 := by decide +kernel
theorem im_X11_beside : Cond.instanceMethod yX11_beside ∈ pWW := pw6 (List.mem_of_getElem? (i := 169) rfl) rfl
theorem se_X11_beside : Cond.selects RX11 yX11_beside yX11_beside ∈ pWW := pw6 (List.mem_of_getElem? (i := 170) rfl) rfl
theorem dX11_beside_50 : decode cX11_beside 50 = .ok (.iconst 0, 1) := by decide +kernel
theorem dX11_beside_51 : decode cX11_beside 51 = .ok (.istore 7, 2) := by decide +kernel
theorem dX11_beside_53 : decode cX11_beside 53 = .ok (.iload 7, 2) := by decide +kernel
theorem dX11_beside_55 : decode cX11_beside 55 = .ok (.aload_n 0, 1) := by decide +kernel
theorem dX11_beside_56 : decode cX11_beside 56 = .ok (.getfield 116, 3) := by decide +kernel
theorem dX11_beside_59 : decode cX11_beside 59 = .ok (.if_icmp .ge 24, 3) := by decide +kernel
theorem dX11_beside_62 : decode cX11_beside 62 = .ok (.aload_n 0, 1) := by decide +kernel
theorem dX11_beside_63 : decode cX11_beside 63 = .ok (.getfield 39, 3) := by decide +kernel
theorem dX11_beside_66 : decode cX11_beside 66 = .ok (.iload 7, 2) := by decide +kernel
theorem dX11_beside_68 : decode cX11_beside 68 = .ok (.aload_n 0, 1) := by decide +kernel
theorem dX11_beside_69 : decode cX11_beside 69 = .ok (.iload 7, 2) := by decide +kernel
theorem dX11_beside_71 : decode cX11_beside 71 = .ok (.invokevirtual 123, 3) := by decide +kernel
theorem dX11_beside_74 : decode cX11_beside 74 = .ok (.invokevirtual 176, 3) := by decide +kernel
theorem dX11_beside_77 : decode cX11_beside 77 = .ok (.iinc 7 1, 3) := by decide +kernel
theorem dX11_beside_80 : decode cX11_beside 80 = .ok (.goto (-27), 3) := by decide +kernel
theorem fl11_267 : Cond.fieldLink RX11 267 (TX0 0).1 (TX0 0).2.1 (TX0 0).2.2.1 ∈ pWW := pw6 (List.mem_of_getElem? (i := 181) rfl) rfl
theorem fl11_270 : Cond.fieldLink RX11 270 (TX0 1).1 (TX0 1).2.1 (TX0 1).2.2.1 ∈ pWW := pw6 (List.mem_of_getElem? (i := 183) rfl) rfl
theorem ml11_273 : Cond.methodLink RX11 273 yX0_together ∈ pWW := pw6 (List.mem_of_getElem? (i := 201) rfl) rfl
theorem dX11_beside_83 : decode cX11_beside 83 = .ok (.aload_n 0, 1) := by decide +kernel
theorem dX11_beside_84 : decode cX11_beside 84 = .ok (.getfield 258, 3) := by decide +kernel
theorem dX11_beside_87 : decode cX11_beside 87 = .ok (.getfield 267, 3) := by decide +kernel
theorem dX11_beside_90 : decode cX11_beside 90 = .ok (.iload_n 1, 1) := by decide +kernel
theorem dX11_beside_91 : decode cX11_beside 91 = .ok (.iload_n 2, 1) := by decide +kernel
theorem dX11_beside_92 : decode cX11_beside 92 = .ok (.iload_n 3, 1) := by decide +kernel
theorem dX11_beside_93 : decode cX11_beside 93 = .ok (.iload 4, 2) := by decide +kernel
theorem dX11_beside_95 : decode cX11_beside 95 = .ok (.iload 5, 2) := by decide +kernel
theorem dX11_beside_97 : decode cX11_beside 97 = .ok (.invokevirtual 204, 3) := by decide +kernel
theorem dX11_beside_100 : decode cX11_beside 100 = .ok (.aload_n 0, 1) := by decide +kernel
theorem dX11_beside_101 : decode cX11_beside 101 = .ok (.getfield 258, 3) := by decide +kernel
theorem dX11_beside_104 : decode cX11_beside 104 = .ok (.getfield 270, 3) := by decide +kernel
theorem dX11_beside_107 : decode cX11_beside 107 = .ok (.iload_n 1, 1) := by decide +kernel
theorem dX11_beside_108 : decode cX11_beside 108 = .ok (.iload_n 2, 1) := by decide +kernel
theorem dX11_beside_109 : decode cX11_beside 109 = .ok (.iload_n 3, 1) := by decide +kernel
theorem dX11_beside_110 : decode cX11_beside 110 = .ok (.iload 4, 2) := by decide +kernel
theorem dX11_beside_112 : decode cX11_beside 112 = .ok (.iload 5, 2) := by decide +kernel
theorem dX11_beside_114 : decode cX11_beside 114 = .ok (.invokevirtual 204, 3) := by decide +kernel
theorem dX11_beside_117 : decode cX11_beside 117 = .ok (.aload_n 0, 1) := by decide +kernel
theorem dX11_beside_118 : decode cX11_beside 118 = .ok (.getfield 258, 3) := by decide +kernel
theorem dX11_beside_121 : decode cX11_beside 121 = .ok (.aload_n 0, 1) := by decide +kernel
theorem dX11_beside_122 : decode cX11_beside 122 = .ok (.getfield 39, 3) := by decide +kernel
theorem dX11_beside_125 : decode cX11_beside 125 = .ok (.iload 6, 2) := by decide +kernel
theorem dX11_beside_127 : decode cX11_beside 127 = .ok (.invokevirtual 273, 3) := by decide +kernel
theorem dX11_beside_130 : decode cX11_beside 130 = .ok (.ireturn, 1) := by decide +kernel
end
section
theorem cl11_262 : Cond.classLink RX11 262 RX0 ∈ pWW := pw6 (List.mem_of_getElem? (i := 172) rfl) rfl
theorem ist_0 : Cond.instantiable RX0 5 ∈ pWW := pw6 (List.mem_of_getElem? (i := 173) rfl) rfl
theorem ml11_264 : Cond.methodLink RX11 264 yX0_init ∈ pWW := pw6 (List.mem_of_getElem? (i := 174) rfl) rfl
theorem dX11_beside_31 : decode cX11_beside 31 = .ok (.aload_n 0, 1) := by decide +kernel
theorem dX11_beside_32 : decode cX11_beside 32 = .ok (.new 262, 3) := by decide +kernel
theorem dX11_beside_35 : decode cX11_beside 35 = .ok (.dup, 1) := by decide +kernel
theorem dX11_beside_36 : decode cX11_beside 36 = .ok (.aload_n 0, 1) := by decide +kernel
theorem dX11_beside_37 : decode cX11_beside 37 = .ok (.getfield 19, 3) := by decide +kernel
theorem dX11_beside_40 : decode cX11_beside 40 = .ok (.aload_n 0, 1) := by decide +kernel
theorem dX11_beside_41 : decode cX11_beside 41 = .ok (.getfield 15, 3) := by decide +kernel
theorem dX11_beside_44 : decode cX11_beside 44 = .ok (.invokespecial 264, 3) := by decide +kernel
theorem dX11_beside_47 : decode cX11_beside 47 = .ok (.putfield 258, 3) := by decide +kernel
theorem ht_all : ∀ q, HT q → 500 + q ∈ [0, 1, 2, 3, 4, 5, 6, 7, 8, 9, 10, 11, 12, 13, 14, 15, 16, 17, 18, 19, 20, 21, 22, 23, 24, 25, 26, 27, 28, 29, 30, 31, 32, 33, 34, 35, 36, 37, 38, 39, 40, 41, 42, 43, 44, 45, 46, 47, 48, 49, 50, 51, 52, 53, 54, 55, 56, 57, 58, 59, 60, 61, 62, 63, 64, 65, 66, 67, 68, 69, 70, 71, 72, 73, 74, 75, 76, 77, 78, 79, 80, 81, 82, 83, 84, 85, 86, 87, 88, 89, 90, 91, 92, 93, 94, 95, 96, 97, 98, 99, 100, 101, 102, 103, 104, 105, 106, 107, 108, 109, 110, 111, 112, 113, 114, 115, 116, 117, 118, 119, 120, 121, 122, 123, 124, 125, 126, 127, 128, 129, 130, 131, 132, 133, 134, 135, 136, 137, 138, 139, 140, 141, 142, 143, 144, 145, 146, 147, 148, 149, 150, 151, 152, 153, 154, 155, 156, 157, 158, 159, 160, 161, 162, 163, 164, 165, 166, 167, 168, 169, 170, 171, 172, 173, 174, 175, 176, 177, 178, 179, 180, 181, 182, 183, 184, 185, 186, 187, 188, 189, 190, 191, 192, 193, 194, 195, 196, 197, 198, 199, 900, 502, 512, 515, 516, 517, 518, 519, 520, 521, 522, 523, 524] := fun q h => by
  have w : q = 2 ∨ q = 12 ∨ q = 15 ∨ q = 16 ∨ q = 17 ∨ q = 18 ∨ q = 19 ∨ q = 20 ∨ q = 21 ∨ q = 22 ∨ q = 23 ∨ q = 24 := by unfold HT at h; omega
  rcases w with rfl | rfl | rfl | rfl | rfl | rfl | rfl | rfl | rfl | rfl | rfl | rfl <;> decide
theorem FrC.all {T : CT} {σ τ : MS} {ks : List Nat} (h : ∀ k, k < 200 → k ∈ ks) (h9 : 900 ∈ ks) (h5 : ∀ q, HT q → 500 + q ∈ ks) : FrC T ks σ τ := ⟨fun k q r => absurd (q.elim (h k) (fun e => by rw [e]; exact h9)) r, fun x q r => absurd (h5 _ q) r⟩
theorem WT.pair {T T1 T2 : CT} {σ S1 S2 : MS} {a x : Nat} (hw : WT T σ) (ha : OB T a 11) (h110 : σ.2.1 110 a < 0) (hx : (T x).1 = 0) (hT1 : ∀ c, c ≠ x → T1 c = T c) (hx1 : T1 x = (80, 0)) (hf1 : ∀ n c, n < 200 → c ≠ x → S1.2.1 n (c : Int) = σ.2.1 n c) (h91 : S1.2.1 900 = σ.2.1 900) (e0 : S1.1 0 = σ.1 0 + (5 : Nat)) (e1 : S1.1 1 = σ.1 1 + 1) (w1 : WTn T2 S2) (hr : T2 x = (30, 0)) (k1 : KPx x T1 S1 T2 S2) (g0 : S2.1 0 = S1.1 0 + (4160 : Nat)) (g1 : S2.1 1 = S1.1 1 + (14 : Nat)) (n41 : NX 41 x T1 T2) (cd : ∀ K, CD K T → CD K T2) : WT T2 (sA 110 a x S2) := by
  obtain ⟨b, K, hb11, hbud⟩ := hw.2.2.2.2.2
  have hba : a = b := hb11 a ha
  have hax : a ≠ x := fun e => by have := ha.1; rw [e] at this; omega
  have kp : ∀ c, (T c).1 ≠ 0 → c ≠ x ∧ T2 c = T c ∧ ∀ n, n < 200 → S2.2.1 n (c : Int) = σ.2.1 n c := fun c p => by
    have e : c ≠ x := fun e => p (by rw [e]; exact hx)
    obtain ⟨y1, y2, -⟩ := k1.1 c (by rw [hT1 c e]; exact p) e
    exact ⟨e, y1.trans (hT1 c e), fun n hn => (y2 n hn).trans (hf1 n c hn e)⟩
  have kd : CD K T2 := cd K (fun c => (hbud.2.1 c).symm)
  obtain ⟨u1, u2, u3, u4, u5⟩ := w1
  have ka := kp a (by have := ha.1; omega)
  have oa : OB T2 a 11 := by unfold OB; rw [ka.2.1]; exact ha
  have cl : ∀ c, c ∈ K → cLen T2 (sA 110 a x S2) c = cLen T σ c := fun c hc => by
    have oc := (hbud.2.1 c).mp hc
    obtain ⟨y, q1, q2, -⟩ := cells_at hw.1 oc
    have kc := kp c (by have := oc.1; omega)
    have ky := kp y (by omega)
    unfold cLen
    rw [sA_k (by omega), kc.2.2 5 (by omega), q1]
    show (T2 y).2 = (T y).2
    rw [ky.2.1]
  have tl : ∀ i : Int, 0 ≤ i → i < 6 → tLen T2 (sA 110 a x S2) i = tLen T σ i := fun i i0 i1 => by
    unfold tLen
    rw [sA_k (by omega), k1.2, h91]
    rcases hw.2.2.2.2.1.2 i i0 i1 with q | ⟨y, q1, q2⟩
    · rw [if_pos q, if_pos q]
    · rw [q1, if_neg (by omega), if_neg (by omega)]
      show (T2 y).2 = (T y).2
      rw [(kp y (by have := q2.1; omega)).2.1]
  have es : tSum (tLen T2 (sA 110 a x S2)) = tSum (tLen T σ) := by unfold tSum; rw [tl 0 (by omega) (by omega), tl 1 (by omega) (by omega), tl 2 (by omega) (by omega), tl 3 (by omega) (by omega), tl 4 (by omega) (by omega), tl 5 (by omega) (by omega)]
  have ep : prS (sA 110 a x S2) a = 5000 := by unfold prS; rw [show (sA 110 a x S2).2.1 110 a = (x : Int) from ra_eq, if_neg (by omega)]
  have eo : prS σ b = 0 := by unfold prS; rw [← hba, if_pos h110]
  have m1 : (K.map (fun c => phL (cLen T2 (sA 110 a x S2) c))) = K.map (fun c => phL (cLen T σ c)) := List.map_congr_left (fun c hc => by rw [cl c hc])
  have m2 : (K.map (fun c => cLen T2 (sA 110 a x S2) c)) = K.map (fun c => cLen T σ c) := List.map_congr_left (fun c hc => cl c hc)
  refine ⟨fun m c q w => ?_, fun c y q r => ?_, fun c q => ?_, ⟨fun c q => ?_, fun c q => ?_⟩, ⟨u5.1, ?_⟩, a, K, fun c hc => ?_, hbud.1, fun c => (kd c).symm, ?_, ?_⟩
  · by_cases e : m = 110
    · by_cases f : c = a
      · rw [e, f, show (sA 110 a x S2).2.1 110 a = (x : Int) from ra_eq]; exact fo_110 (Or.inr ⟨x, rfl, by rw [hr]⟩)
      · rw [sA_ne (by omega)]; exact u1 m c q w
    · rw [sA_k e]; exact u1 m c q w
  · rw [sA_k (by omega)] at r; rw [sA_k (by omega)]; exact u2 c y q r
  · rw [sA_k (by omega)]; exact u3 c q
  · rw [sA_k (by omega)]; exact u4.1 c q
  · rw [sA_k (by omega)]; exact u4.2 c q
  · rw [sA_k (by omega)]; exact u5.2
  · by_cases z : (T c).1 = 0
    · by_cases e : c = x
      · have w := hc.2.1; rw [e, hr] at w; exact absurd w (by decide)
      · have w := n41 c (by rw [hT1 c e]; exact z) e
        have w2 := hc.2.1; have w3 := hc.1; have w4 := hc.2.2
        unfold kC at w2
        exfalso
        by_cases q1 : (T2 c).1 = 50
        · rw [if_pos q1] at w2; omega
        · rw [if_neg q1] at w2
          by_cases q2 : (T2 c).1 = 57
          · rw [if_pos q2] at w2; omega
          · rw [if_neg q2, if_neg (by omega)] at w2; omega
    · have kc := kp c z
      rw [hba]
      exact hb11 c (by unfold OB at hc ⊢; rw [← kc.2.1]; exact hc)
  · rw [m1, es, ep]
    show S2.1 0 ≤ _
    have := hbud.2.2.1
    rw [eo] at this
    omega
  · rw [m2, es, ep]
    show S2.1 1 ≤ _
    have := hbud.2.2.2
    rw [eo] at this
    omega
end
section
theorem dX11_beside_0 : decode cX11_beside 0 = .ok (.aload_n 0, 1) := by decide +kernel
theorem dX11_beside_1 : decode cX11_beside 1 = .ok (.iload_n 1, 1) := by decide +kernel
theorem dX11_beside_2 : decode cX11_beside 2 = .ok (.invokevirtual 123, 3) := by decide +kernel
theorem dX11_beside_5 : decode cX11_beside 5 = .ok (.ifnull 17, 3) := by decide +kernel
theorem dX11_beside_22 : decode cX11_beside 22 = .ok (.iconst (-1), 1) := by decide +kernel
theorem dX11_beside_23 : decode cX11_beside 23 = .ok (.ireturn, 1) := by decide +kernel
theorem dX11_beside_8 : decode cX11_beside 8 = .ok (.iload 6, 2) := by decide +kernel
theorem dX11_beside_10 : decode cX11_beside 10 = .ok (.iconst 1, 1) := by decide +kernel
theorem dX11_beside_11 : decode cX11_beside 11 = .ok (.if_icmp .lt 11, 3) := by decide +kernel
theorem dX11_beside_14 : decode cX11_beside 14 = .ok (.iload 6, 2) := by decide +kernel
theorem dX11_beside_16 : decode cX11_beside 16 = .ok (.sipush 20000, 3) := by decide +kernel
theorem dX11_beside_19 : decode cX11_beside 19 = .ok (.if_icmp .le 5, 3) := by decide +kernel
theorem dX11_beside_24 : decode cX11_beside 24 = .ok (.aload_n 0, 1) := by decide +kernel
theorem dX11_beside_25 : decode cX11_beside 25 = .ok (.getfield 258, 3) := by decide +kernel
theorem dX11_beside_28 : decode cX11_beside 28 = .ok (.ifnonnull 22, 3) := by decide +kernel
end
section
section TQ
variable {d : Nat} {M : MT} {pc : Nat} {T T0 : CT} {σ σ0 : MS} {L : List (Nat × Value)} {st : List Value} {post : Option Value → CT → MS → Prop} {a x k N ci G G1 : Nat} {K : List Nat} {v z : Int}
theorem tn_tagQ (hx : T x = (k + 90, N)) (hk : k = 4 ∨ k = 5) (kk : Tn d M pc (tT T x k N) σ L st post) : Tn d M pc T σ L st post := fun P0 sz hs => by
  have hd2 : DOM (tT T x k N) sz := fun c hc => by
    by_cases e : c = x
    · rw [e]; exact hs x (by rw [hx]; show k + 90 ≠ 0; omega)
    · rw [tT_ne e] at hc; exact hs c hc
  obtain ⟨r, T2, σ2, sz2, n9, w, g, hp⟩ := kk P0 sz hd2
  have e : ovC (tT T x k N) σ P0 = ovC T σ P0 := by
    funext q
    by_cases hq : q = x
    · rw [hq, ovC_q (by rw [tT_eq]; show k = 4 ∨ k = 5 ∨ k = 94 ∨ k = 95; omega), ovC_q (by rw [hx]; show k + 90 = 4 ∨ k + 90 = 5 ∨ k + 90 = 94 ∨ k + 90 = 95; omega), tT_eq, hx]
    · unfold ovC; rw [tT_ne hq]
  rw [e] at w
  refine ⟨r, T2, σ2, sz2, n9, w, ⟨g.1, g.2.1, fun c q r => ?_, g.2.2.2.1, g.2.2.2.2⟩, hp⟩
  have hne : c ≠ x := fun h => by rw [h, hx] at r; have : k + 90 < 80 := r; omega
  have e4 : tT T x k N c = T c := tT_ne hne
  rw [g.2.2.1 c q (by rw [e4]; exact r), e4]
theorem CX.row (h : CX a ci K G G1 T0 σ0 T σ) (hx : 80 ≤ (T x).1) (hz : (T0 x).1 = 0) : CX a ci K G G1 T0 σ0 T (sA (1000 + x) z v σ) :=
  ⟨h.1, h.2.1.rawrow hx, h.2.2.1, ⟨fun c p q => by
    obtain ⟨w1, w2, w3⟩ := h.2.2.2.1.1 c p q
    have e : c ≠ x := fun e => p (by rw [e]; exact hz)
    exact ⟨w1, fun n hn => by rw [sA_k (by omega)]; exact w2 n hn, by rw [sA_k (by omega)]; exact w3⟩, by rw [sA_k (by omega)]; exact h.2.2.2.1.2⟩, h.2.2.2.2.1, h.2.2.2.2.2⟩
theorem CX.tagQ (h : CX a ci K G G1 T0 σ0 T σ) (hx : T x = (k + 90, N)) (hk : k = 4 ∨ k = 5) (hz : (T0 x).1 = 0) (hc : ci < 12) (he : ∀ i, 0 ≤ i → i < (N : Int) → ∃ y : Nat, σ.2.1 (1000 + x) i = (y : Int) ∧ T y = ((if k = 4 then 31 else 50), 0)) : CX a ci K G G1 T0 σ0 (tT T x k N) σ := by
  have hne : a ≠ x := fun e => by have w := h.1; rw [e, hx] at w; have w2 : k + 90 = 80 + ci := congrArg Prod.fst w; omega
  obtain ⟨h1, h2, h3, h4, h5⟩ := h.2.1
  have xk : (T x).1 = k + 90 := by rw [hx]
  have bk : ∀ c, c ≠ x → tT T x k N c = T c := fun c e => tT_ne e
  have gk : ∀ c, (T c).1 < 80 → tT T x k N c = T c := fun c r => tT_ne (fun e => by rw [e] at r; omega)
  have g : GT T (tT T x k N) := fun c _ r => gk c r
  have ob : ∀ c cj, OB (tT T x k N) c cj → c ≠ x ∧ OB T c cj := fun c cj w => by
    have e : c ≠ x := fun e => by have w1 := w.1; rw [e, tT_eq] at w1; have w2 : 30 ≤ k := w1; omega
    exact ⟨e, by unfold OB at w ⊢; rw [bk c e] at w; exact w⟩
  refine ⟨by rw [bk a hne]; exact h.1, ⟨fun m c q w => ?_, fun c y q r => ?_, fun c q i => ?_, ⟨fun c q i i0 i1 => ?_, fun c q i i0 i1 => ?_⟩, ⟨fun c c' q q' => ?_, fun i i0 i1 => ?_⟩⟩, fun c => ?_, ⟨fun c p q => ?_, h.2.2.2.1.2⟩, h.2.2.2.2.1, h.2.2.2.2.2⟩
  · obtain ⟨e, w2⟩ := ob c _ w
    rw [bk c e]; exact fo_mono m q g (h1 m c q w2)
  · obtain ⟨e, w2⟩ := ob c _ q
    obtain ⟨y2, e1, e2, -⟩ := cells_at h1 w2
    have e3 : y2 = y := by omega
    rw [gk y (by rw [← e3]; omega)]
    exact h2 c y w2 r
  · have e : c ≠ x := fun e => by unfold IA at q; rw [e, tT_eq] at q; simp only at q; omega
    rw [bk c e]; exact h3 c (by unfold IA at q ⊢; rw [bk c e] at q; exact q) i
  · by_cases e : c = x
    · rw [e] at q i1 ⊢
      rw [tT_eq] at q i1
      have q2 : k = 4 := q
      obtain ⟨y, w1, w2⟩ := he i i0 i1
      rw [if_pos q2] at w2
      exact ⟨y, w1, by rw [gk y (by rw [w2]; decide), w2]⟩
    · rw [bk c e] at q i1
      obtain ⟨y, w1, w2⟩ := h4.1 c q i i0 i1
      exact ⟨y, w1, by rw [gk y (by omega)]; exact w2⟩
  · by_cases e : c = x
    · rw [e] at q i1 ⊢
      rw [tT_eq] at q i1
      have q2 : k = 5 := q
      obtain ⟨y, w1, w2⟩ := he i i0 i1
      rw [if_neg (by omega)] at w2
      exact ⟨y, w1, by rw [gk y (by rw [w2]; decide), w2]⟩
    · rw [bk c e] at q i1
      obtain ⟨y, w1, w2⟩ := h4.2 c q i i0 i1
      exact ⟨y, w1, by rw [gk y (by omega)]; exact w2⟩
  · have e : ∀ c, (tT T x k N c).1 = 7 → (T c).1 = 7 := fun c q => by
      have e : c ≠ x := fun e => by rw [e, tT_eq] at q; have q9 : k = 7 := q; omega
      rw [bk c e] at q; exact q
    exact h5.1 c c' (e c q) (e c' q')
  · rcases h5.2 i i0 i1 with q | ⟨y, q1, q2⟩
    · exact Or.inl q
    · exact Or.inr ⟨y, q1, by unfold AR; rw [gk y (by have := q2.1; omega)]; exact q2⟩
  · rw [← h.2.2.1 c]
    constructor
    · intro w; exact (ob c _ w).2
    · intro w
      have e : c ≠ x := fun e => by have := w.2.2; rw [e] at this; omega
      unfold OB at w ⊢; rw [bk c e]; exact w
  · obtain ⟨w1, w2⟩ := h.2.2.2.1.1 c p q
    exact ⟨(bk c (fun e => p (by rw [e]; exact hz))).trans w1, w2⟩
theorem NX.tagQ {q : Nat} (h : NX q a T0 T) (hq : k ≠ q) : NX q a T0 (tT T x k N) := h.mk9 hq
theorem n7_now (h : NX 7 a T0 T) (g : KPx a T0 σ0 T σ) (ha : T a = (80 + ci, 0)) (hc : ci < 12) (h0 : ∀ c, (T0 c).1 ≠ 7) : ∀ c, (T c).1 ≠ 7 := fun c => by
  by_cases e : c = a
  · rw [e, ha]; show 80 + ci ≠ 7; omega
  · by_cases z : (T0 c).1 = 0
    · exact h c z e
    · rw [(g.1 c z e).1]; exact h0 c
end TQ
end
section
theorem cd_X5_init : Cond.code yX5_init cX5_init 2 none ∈ pWW := pw1 (List.mem_of_getElem? (i := 36) rfl) rfl
abbrev m_X5_init : MT := (yX5_init, cX5_init, 2, none)
theorem ok_X5_init : pOk m_X5_init := ⟨⟨cd_X5_init, ini_5⟩, by decide +kernel, ⟨by decide +kernel, by decide +kernel⟩, Nat.le_of_ble_eq_true rfl⟩
theorem np_X5_init : (parseMethodDescriptor yX5_init.desc).map (fun d => d.parameters.length) = some 0 := by decide +kernel
theorem im_X5_init : Cond.instanceMethod yX5_init ∈ pWW := pw1 (List.mem_of_getElem? (i := 35) rfl) rfl
theorem mlo5_3 : Cond.methodLink RX5 3 objectInit ∈ pWW := pw1 (List.mem_of_getElem? (i := 37) rfl) rfl
theorem cl5_9 : Cond.classLink RX5 9 RX9 ∈ pWW := pw1 (List.mem_of_getElem? (i := 38) rfl) rfl
theorem ist_9 : Cond.instantiable RX9 7 ∈ pWW := pw1 (List.mem_of_getElem? (i := 39) rfl) rfl
theorem nl5_11 : (RX5, 11, yX9_init, "LineKeeper") ∈ nst_M := List.mem_of_getElem? (i := 0) rfl
theorem cl5_18 : Cond.classLink RX5 18 RX1 ∈ pWW := pw1 (List.mem_of_getElem? (i := 71) rfl) rfl
theorem ist_1 : Cond.instantiable RX1 12 ∈ pWW := pw1 (List.mem_of_getElem? (i := 72) rfl) rfl
theorem nl5_46 : (RX5, 46, yX1_init, "LineKeeper") ∈ nst_M := List.mem_of_getElem? (i := 1) rfl
theorem dX5_init_0 : decode cX5_init 0 = .ok (.aload_n 0, 1) := by decide +kernel
theorem dX5_init_1 : decode cX5_init 1 = .ok (.invokespecial 3, 3) := by decide +kernel
theorem dX5_init_4 : decode cX5_init 4 = .ok (.aload_n 0, 1) := by decide +kernel
theorem dX5_init_5 : decode cX5_init 5 = .ok (.new 9, 3) := by decide +kernel
theorem dX5_init_8 : decode cX5_init 8 = .ok (.dup, 1) := by decide +kernel
theorem dX5_init_9 : decode cX5_init 9 = .ok (.invokespecial 11, 3) := by decide +kernel
theorem dX5_init_12 : decode cX5_init 12 = .ok (.putfield 12, 3) := by decide +kernel
theorem dX5_init_15 : decode cX5_init 15 = .ok (.aload_n 0, 1) := by decide +kernel
theorem dX5_init_16 : decode cX5_init 16 = .ok (.bipush 7, 2) := by decide +kernel
theorem dX5_init_18 : decode cX5_init 18 = .ok (.anewarray 18, 3) := by decide +kernel
theorem dX5_init_21 : decode cX5_init 21 = .ok (.putfield 20, 3) := by decide +kernel
theorem dX5_init_24 : decode cX5_init 24 = .ok (.aload_n 0, 1) := by decide +kernel
theorem dX5_init_25 : decode cX5_init 25 = .ok (.sipush 256, 3) := by decide +kernel
theorem dX5_init_28 : decode cX5_init 28 = .ok (.newarray .int, 2) := by decide +kernel
theorem dX5_init_30 : decode cX5_init 30 = .ok (.putfield 24, 3) := by decide +kernel
theorem dX5_init_33 : decode cX5_init 33 = .ok (.aload_n 0, 1) := by decide +kernel
theorem dX5_init_34 : decode cX5_init 34 = .ok (.sipush 256, 3) := by decide +kernel
theorem dX5_init_37 : decode cX5_init 37 = .ok (.newarray .int, 2) := by decide +kernel
theorem dX5_init_39 : decode cX5_init 39 = .ok (.putfield 28, 3) := by decide +kernel
theorem dX5_init_42 : decode cX5_init 42 = .ok (.aload_n 0, 1) := by decide +kernel
theorem dX5_init_43 : decode cX5_init 43 = .ok (.sipush 256, 3) := by decide +kernel
theorem dX5_init_46 : decode cX5_init 46 = .ok (.newarray .int, 2) := by decide +kernel
theorem dX5_init_48 : decode cX5_init 48 = .ok (.putfield 31, 3) := by decide +kernel
theorem dX5_init_51 : decode cX5_init 51 = .ok (.aload_n 0, 1) := by decide +kernel
theorem dX5_init_52 : decode cX5_init 52 = .ok (.sipush 256, 3) := by decide +kernel
theorem dX5_init_55 : decode cX5_init 55 = .ok (.newarray .int, 2) := by decide +kernel
theorem dX5_init_57 : decode cX5_init 57 = .ok (.putfield 34, 3) := by decide +kernel
theorem dX5_init_60 : decode cX5_init 60 = .ok (.aload_n 0, 1) := by decide +kernel
theorem dX5_init_61 : decode cX5_init 61 = .ok (.sipush 256, 3) := by decide +kernel
theorem dX5_init_64 : decode cX5_init 64 = .ok (.newarray .int, 2) := by decide +kernel
theorem dX5_init_66 : decode cX5_init 66 = .ok (.putfield 37, 3) := by decide +kernel
theorem dX5_init_69 : decode cX5_init 69 = .ok (.aload_n 0, 1) := by decide +kernel
theorem dX5_init_70 : decode cX5_init 70 = .ok (.bipush 12, 2) := by decide +kernel
theorem dX5_init_72 : decode cX5_init 72 = .ok (.newarray .int, 2) := by decide +kernel
theorem dX5_init_74 : decode cX5_init 74 = .ok (.putfield 40, 3) := by decide +kernel
theorem dX5_init_77 : decode cX5_init 77 = .ok (.aload_n 0, 1) := by decide +kernel
theorem dX5_init_78 : decode cX5_init 78 = .ok (.bipush 8, 2) := by decide +kernel
theorem dX5_init_80 : decode cX5_init 80 = .ok (.newarray .int, 2) := by decide +kernel
theorem dX5_init_82 : decode cX5_init 82 = .ok (.putfield 43, 3) := by decide +kernel
theorem dX5_init_85 : decode cX5_init 85 = .ok (.iconst 0, 1) := by decide +kernel
theorem dX5_init_86 : decode cX5_init 86 = .ok (.istore_n 1, 1) := by decide +kernel
theorem dX5_init_87 : decode cX5_init 87 = .ok (.iload_n 1, 1) := by decide +kernel
theorem dX5_init_88 : decode cX5_init 88 = .ok (.aload_n 0, 1) := by decide +kernel
theorem dX5_init_89 : decode cX5_init 89 = .ok (.getfield 20, 3) := by decide +kernel
theorem dX5_init_92 : decode cX5_init 92 = .ok (.arraylength, 1) := by decide +kernel
theorem dX5_init_93 : decode cX5_init 93 = .ok (.if_icmp .ge 22, 3) := by decide +kernel
theorem dX5_init_96 : decode cX5_init 96 = .ok (.aload_n 0, 1) := by decide +kernel
theorem dX5_init_97 : decode cX5_init 97 = .ok (.getfield 20, 3) := by decide +kernel
theorem dX5_init_100 : decode cX5_init 100 = .ok (.iload_n 1, 1) := by decide +kernel
theorem dX5_init_101 : decode cX5_init 101 = .ok (.new 18, 3) := by decide +kernel
theorem dX5_init_104 : decode cX5_init 104 = .ok (.dup, 1) := by decide +kernel
theorem dX5_init_105 : decode cX5_init 105 = .ok (.invokespecial 46, 3) := by decide +kernel
theorem dX5_init_108 : decode cX5_init 108 = .ok (.aastore, 1) := by decide +kernel
theorem dX5_init_109 : decode cX5_init 109 = .ok (.iinc 1 1, 3) := by decide +kernel
theorem dX5_init_112 : decode cX5_init 112 = .ok (.goto (-25), 3) := by decide +kernel
theorem dX5_init_115 : decode cX5_init 115 = .ok (.aload_n 0, 1) := by decide +kernel
theorem dX5_init_116 : decode cX5_init 116 = .ok (.aload_n 0, 1) := by decide +kernel
theorem dX5_init_117 : decode cX5_init 117 = .ok (.getfield 20, 3) := by decide +kernel
theorem dX5_init_120 : decode cX5_init 120 = .ok (.iconst 0, 1) := by decide +kernel
theorem dX5_init_121 : decode cX5_init 121 = .ok (.aaload, 1) := by decide +kernel
theorem dX5_init_122 : decode cX5_init 122 = .ok (.putfield 47, 3) := by decide +kernel
theorem dX5_init_125 : decode cX5_init 125 = .ok (.return_, 1) := by decide +kernel
end
section
theorem cd_X11_init : Cond.code yX11_init cX11_init 2 none ∈ pWW := pw1 (List.mem_of_getElem? (i := 26) rfl) rfl
abbrev m_X11_init : MT := (yX11_init, cX11_init, 2, none)
theorem ok_X11_init : pOk m_X11_init := ⟨⟨cd_X11_init, ini_11⟩, by decide +kernel, ⟨by decide +kernel, by decide +kernel⟩, Nat.le_of_ble_eq_true rfl⟩
theorem np_X11_init : (parseMethodDescriptor yX11_init.desc).map (fun d => d.parameters.length) = some 0 := by decide +kernel
theorem im_X11_init : Cond.instanceMethod yX11_init ∈ pWW := pw1 (List.mem_of_getElem? (i := 25) rfl) rfl
theorem mlo11_1 : Cond.methodLink RX11 1 objectInit ∈ pWW := pw1 (List.mem_of_getElem? (i := 27) rfl) rfl
theorem cl11_13 : Cond.classLink RX11 13 RX1 ∈ pWW := pw1 (List.mem_of_getElem? (i := 30) rfl) rfl
theorem cl11_22 : Cond.classLink RX11 22 RX5 ∈ pWW := pw1 (List.mem_of_getElem? (i := 32) rfl) rfl
theorem ist_5 : Cond.instantiable RX5 19 ∈ pWW := pw1 (List.mem_of_getElem? (i := 33) rfl) rfl
theorem ml11_24 : Cond.methodLink RX11 24 yX5_init ∈ pWW := pw1 (List.mem_of_getElem? (i := 34) rfl) rfl
theorem cl11_29 : Cond.classLink RX11 29 RX3 ∈ pWW := pw1 (List.mem_of_getElem? (i := 214) rfl) rfl
theorem ist_3 : Cond.instantiable RX3 5 ∈ pWW := pw1 (List.mem_of_getElem? (i := 215) rfl) rfl
theorem nl11_31 : (RX11, 31, yX3_init, "LineKeeper") ∈ nst_M := List.mem_of_getElem? (i := 2) rfl
theorem fl11_32 : Cond.fieldLink RX11 32 (TX11 6).1 (TX11 6).2.1 (TX11 6).2.2.1 ∈ pWW := pw2 (List.mem_of_getElem? (i := 202) rfl) rfl
theorem cl11_36 : Cond.classLink RX11 36 RX10 ∈ pWW := pw1 (List.mem_of_getElem? (i := 239) rfl) rfl
theorem ist_10 : Cond.instantiable RX10 7 ∈ pWW := pw2 (List.mem_of_getElem? (i := 0) rfl) rfl
theorem nl11_38 : (RX11, 38, yX10_init, "LineKeeper") ∈ nst_M := List.mem_of_getElem? (i := 3) rfl
theorem cl11_47 : Cond.classLink RX11 47 RX6 ∈ pWW := pw2 (List.mem_of_getElem? (i := 29) rfl) rfl
theorem ist_6 : Cond.instantiable RX6 3 ∈ pWW := pw2 (List.mem_of_getElem? (i := 30) rfl) rfl
theorem nl11_49 : (RX11, 49, yX6_init, "LineKeeper") ∈ nst_M := List.mem_of_getElem? (i := 4) rfl
theorem cl11_54 : Cond.classLink RX11 54 RX2 ∈ pWW := pw2 (List.mem_of_getElem? (i := 45) rfl) rfl
theorem ist_2 : Cond.instantiable RX2 1 ∈ pWW := pw2 (List.mem_of_getElem? (i := 46) rfl) rfl
theorem ml11_56 : Cond.methodLink RX11 56 yX2_init ∈ pWW := pw2 (List.mem_of_getElem? (i := 47) rfl) rfl
theorem cl11_63 : Cond.classLink RX11 63 RX4 ∈ pWW := pw2 (List.mem_of_getElem? (i := 55) rfl) rfl
theorem ist_4 : Cond.instantiable RX4 10 ∈ pWW := pw2 (List.mem_of_getElem? (i := 56) rfl) rfl
theorem ml11_65 : Cond.methodLink RX11 65 yX4_init ∈ pWW := pw2 (List.mem_of_getElem? (i := 57) rfl) rfl
theorem cl11_70 : Cond.classLink RX11 70 RX8 ∈ pWW := pw2 (List.mem_of_getElem? (i := 92) rfl) rfl
theorem ist_8 : Cond.instantiable RX8 9 ∈ pWW := pw2 (List.mem_of_getElem? (i := 93) rfl) rfl
theorem ml11_72 : Cond.methodLink RX11 72 yX8_init ∈ pWW := pw2 (List.mem_of_getElem? (i := 94) rfl) rfl
theorem nl11_77 : (RX11, 77, yX1_init, "LineKeeper") ∈ nst_M := List.mem_of_getElem? (i := 5) rfl
theorem cl11_78 : Cond.classLink RX11 78 RX7 ∈ pWW := pw2 (List.mem_of_getElem? (i := 127) rfl) rfl
theorem ml11_80 : Cond.methodLink RX11 80 yX7_init ∈ pWW := pw2 (List.mem_of_getElem? (i := 129) rfl) rfl
theorem dX11_init_0 : decode cX11_init 0 = .ok (.aload_n 0, 1) := by decide +kernel
theorem dX11_init_1 : decode cX11_init 1 = .ok (.invokespecial 1, 3) := by decide +kernel
theorem dX11_init_4 : decode cX11_init 4 = .ok (.aload_n 0, 1) := by decide +kernel
theorem dX11_init_5 : decode cX11_init 5 = .ok (.sipush 1200, 3) := by decide +kernel
theorem dX11_init_8 : decode cX11_init 8 = .ok (.newarray .byte, 2) := by decide +kernel
theorem dX11_init_10 : decode cX11_init 10 = .ok (.putfield 9, 3) := by decide +kernel
theorem dX11_init_13 : decode cX11_init 13 = .ok (.aload_n 0, 1) := by decide +kernel
theorem dX11_init_14 : decode cX11_init 14 = .ok (.bipush 6, 2) := by decide +kernel
theorem dX11_init_16 : decode cX11_init 16 = .ok (.anewarray 13, 3) := by decide +kernel
theorem dX11_init_19 : decode cX11_init 19 = .ok (.putfield 15, 3) := by decide +kernel
theorem dX11_init_22 : decode cX11_init 22 = .ok (.aload_n 0, 1) := by decide +kernel
theorem dX11_init_23 : decode cX11_init 23 = .ok (.bipush 6, 2) := by decide +kernel
theorem dX11_init_25 : decode cX11_init 25 = .ok (.anewarray 13, 3) := by decide +kernel
theorem dX11_init_28 : decode cX11_init 28 = .ok (.putfield 19, 3) := by decide +kernel
theorem dX11_init_31 : decode cX11_init 31 = .ok (.aload_n 0, 1) := by decide +kernel
theorem dX11_init_32 : decode cX11_init 32 = .ok (.new 22, 3) := by decide +kernel
theorem dX11_init_35 : decode cX11_init 35 = .ok (.dup, 1) := by decide +kernel
theorem dX11_init_36 : decode cX11_init 36 = .ok (.invokespecial 24, 3) := by decide +kernel
theorem dX11_init_39 : decode cX11_init 39 = .ok (.putfield 25, 3) := by decide +kernel
theorem dX11_init_42 : decode cX11_init 42 = .ok (.aload_n 0, 1) := by decide +kernel
theorem dX11_init_43 : decode cX11_init 43 = .ok (.new 29, 3) := by decide +kernel
theorem dX11_init_46 : decode cX11_init 46 = .ok (.dup, 1) := by decide +kernel
theorem dX11_init_47 : decode cX11_init 47 = .ok (.invokespecial 31, 3) := by decide +kernel
theorem dX11_init_50 : decode cX11_init 50 = .ok (.putfield 32, 3) := by decide +kernel
theorem dX11_init_53 : decode cX11_init 53 = .ok (.aload_n 0, 1) := by decide +kernel
theorem dX11_init_54 : decode cX11_init 54 = .ok (.new 36, 3) := by decide +kernel
theorem dX11_init_57 : decode cX11_init 57 = .ok (.dup, 1) := by decide +kernel
theorem dX11_init_58 : decode cX11_init 58 = .ok (.invokespecial 38, 3) := by decide +kernel
theorem dX11_init_61 : decode cX11_init 61 = .ok (.putfield 39, 3) := by decide +kernel
theorem dX11_init_64 : decode cX11_init 64 = .ok (.aload_n 0, 1) := by decide +kernel
theorem dX11_init_65 : decode cX11_init 65 = .ok (.iconst (-1), 1) := by decide +kernel
theorem dX11_init_66 : decode cX11_init 66 = .ok (.putfield 43, 3) := by decide +kernel
theorem dX11_init_69 : decode cX11_init 69 = .ok (.aload_n 0, 1) := by decide +kernel
theorem dX11_init_70 : decode cX11_init 70 = .ok (.new 47, 3) := by decide +kernel
theorem dX11_init_73 : decode cX11_init 73 = .ok (.dup, 1) := by decide +kernel
theorem dX11_init_74 : decode cX11_init 74 = .ok (.invokespecial 49, 3) := by decide +kernel
theorem dX11_init_77 : decode cX11_init 77 = .ok (.putfield 50, 3) := by decide +kernel
theorem dX11_init_80 : decode cX11_init 80 = .ok (.aload_n 0, 1) := by decide +kernel
theorem dX11_init_81 : decode cX11_init 81 = .ok (.new 54, 3) := by decide +kernel
theorem dX11_init_84 : decode cX11_init 84 = .ok (.dup, 1) := by decide +kernel
theorem dX11_init_85 : decode cX11_init 85 = .ok (.aload_n 0, 1) := by decide +kernel
theorem dX11_init_86 : decode cX11_init 86 = .ok (.getfield 32, 3) := by decide +kernel
theorem dX11_init_89 : decode cX11_init 89 = .ok (.invokespecial 56, 3) := by decide +kernel
theorem dX11_init_92 : decode cX11_init 92 = .ok (.putfield 59, 3) := by decide +kernel
theorem dX11_init_95 : decode cX11_init 95 = .ok (.aload_n 0, 1) := by decide +kernel
theorem dX11_init_96 : decode cX11_init 96 = .ok (.new 63, 3) := by decide +kernel
theorem dX11_init_99 : decode cX11_init 99 = .ok (.dup, 1) := by decide +kernel
theorem dX11_init_100 : decode cX11_init 100 = .ok (.aload_n 0, 1) := by decide +kernel
theorem dX11_init_101 : decode cX11_init 101 = .ok (.getfield 32, 3) := by decide +kernel
theorem dX11_init_104 : decode cX11_init 104 = .ok (.invokespecial 65, 3) := by decide +kernel
theorem dX11_init_107 : decode cX11_init 107 = .ok (.putfield 66, 3) := by decide +kernel
theorem dX11_init_110 : decode cX11_init 110 = .ok (.aload_n 0, 1) := by decide +kernel
theorem dX11_init_111 : decode cX11_init 111 = .ok (.new 70, 3) := by decide +kernel
theorem dX11_init_114 : decode cX11_init 114 = .ok (.dup, 1) := by decide +kernel
theorem dX11_init_115 : decode cX11_init 115 = .ok (.aload_n 0, 1) := by decide +kernel
theorem dX11_init_116 : decode cX11_init 116 = .ok (.getfield 32, 3) := by decide +kernel
theorem dX11_init_119 : decode cX11_init 119 = .ok (.invokespecial 72, 3) := by decide +kernel
theorem dX11_init_122 : decode cX11_init 122 = .ok (.putfield 73, 3) := by decide +kernel
theorem dX11_init_125 : decode cX11_init 125 = .ok (.iconst 0, 1) := by decide +kernel
theorem dX11_init_126 : decode cX11_init 126 = .ok (.istore_n 1, 1) := by decide +kernel
theorem dX11_init_127 : decode cX11_init 127 = .ok (.iload_n 1, 1) := by decide +kernel
theorem dX11_init_128 : decode cX11_init 128 = .ok (.bipush 6, 2) := by decide +kernel
theorem dX11_init_130 : decode cX11_init 130 = .ok (.if_icmp .ge 35, 3) := by decide +kernel
theorem dX11_init_133 : decode cX11_init 133 = .ok (.aload_n 0, 1) := by decide +kernel
theorem dX11_init_134 : decode cX11_init 134 = .ok (.getfield 15, 3) := by decide +kernel
theorem dX11_init_137 : decode cX11_init 137 = .ok (.iload_n 1, 1) := by decide +kernel
theorem dX11_init_138 : decode cX11_init 138 = .ok (.new 13, 3) := by decide +kernel
theorem dX11_init_141 : decode cX11_init 141 = .ok (.dup, 1) := by decide +kernel
theorem dX11_init_142 : decode cX11_init 142 = .ok (.invokespecial 77, 3) := by decide +kernel
theorem dX11_init_145 : decode cX11_init 145 = .ok (.aastore, 1) := by decide +kernel
theorem dX11_init_146 : decode cX11_init 146 = .ok (.aload_n 0, 1) := by decide +kernel
theorem dX11_init_147 : decode cX11_init 147 = .ok (.getfield 19, 3) := by decide +kernel
theorem dX11_init_150 : decode cX11_init 150 = .ok (.iload_n 1, 1) := by decide +kernel
theorem dX11_init_151 : decode cX11_init 151 = .ok (.new 13, 3) := by decide +kernel
theorem dX11_init_154 : decode cX11_init 154 = .ok (.dup, 1) := by decide +kernel
theorem dX11_init_155 : decode cX11_init 155 = .ok (.invokespecial 77, 3) := by decide +kernel
theorem dX11_init_158 : decode cX11_init 158 = .ok (.aastore, 1) := by decide +kernel
theorem dX11_init_159 : decode cX11_init 159 = .ok (.iinc 1 1, 3) := by decide +kernel
theorem dX11_init_162 : decode cX11_init 162 = .ok (.goto (-35), 3) := by decide +kernel
theorem dX11_init_165 : decode cX11_init 165 = .ok (.aload_n 0, 1) := by decide +kernel
theorem dX11_init_166 : decode cX11_init 166 = .ok (.new 78, 3) := by decide +kernel
theorem dX11_init_169 : decode cX11_init 169 = .ok (.dup, 1) := by decide +kernel
theorem dX11_init_170 : decode cX11_init 170 = .ok (.aload_n 0, 1) := by decide +kernel
theorem dX11_init_171 : decode cX11_init 171 = .ok (.getfield 19, 3) := by decide +kernel
theorem dX11_init_174 : decode cX11_init 174 = .ok (.invokespecial 80, 3) := by decide +kernel
theorem dX11_init_177 : decode cX11_init 177 = .ok (.putfield 83, 3) := by decide +kernel
theorem dX11_init_180 : decode cX11_init 180 = .ok (.return_, 1) := by decide +kernel
end
section
theorem WT.first {T : CT} {σ : MS} {a : Nat} {K : List Nat} (w : WTn T σ) (hc : CD K T) (hl : K.length ≤ 19) (h11 : ∀ c, OB T c 11 → c = a) (g0 : σ.1 0 ≤ 30000) (g1 : σ.1 1 ≤ 1000) : WT T σ := by
  refine ⟨w.1, w.2.1, w.2.2.1, w.2.2.2.1, w.2.2.2.2, a, K, h11, hl, fun c => (hc c).symm, ?_, ?_⟩
  · generalize (K.map (fun a => phL (cLen T σ a))).sum = A
    omega
  · generalize (K.map (fun a => cLen T σ a)).sum = A
    omega
def INVX (N : Nat) (T : CT) (σ : MS) (a : Nat) : Prop := WT T σ ∧ TR σ a (20001 * (N : Int)) ∧ SEP σ a
theorem INVX.first {T : CT} {σ : MS} {a t : Nat} (w : WT T σ) (h1 : σ.2.1 110 (a : Int) = -1) (h2 : σ.2.1 103 (a : Int) = (t : Int)) (h3 : σ.2.1 57 (t : Int) = 0) : INVX 0 T σ a := ⟨w, TR.of h2 (by omega), fun p q => by omega⟩
theorem INVX.step {N : Nat} {T T2 : CT} {σ σ2 : MS} {a : Nat} {ks : List Nat} (h : INVX N T σ a) (w : WT T2 σ2) (f : FrC T ks σ σ2) (h1 : 57 ∉ ks) (h2 : 103 ∉ ks) (h3 : 0 ∉ ks) (h4 : 110 ∉ ks) : INVX (N + 1) T2 σ2 a := ⟨w, (h.2.1.frc f h2 h1).up (by omega), h.2.2.frc f h3 h2 h4⟩
theorem INVX.tr {N : Nat} {T T2 : CT} {σ σ2 : MS} {a : Nat} {ks : List Nat} {B : Int} (h : INVX N T σ a) (w : WT T2 σ2) (f : FrC T ks σ σ2) (h2 : 103 ∉ ks) (h3 : 0 ∉ ks) (h4 : 110 ∉ ks) (t : TR σ2 a B) (hB : B ≤ 20001 * ((N : Int) + 1)) : INVX (N + 1) T2 σ2 a := ⟨w, t.up (by omega), h.2.2.frc f h3 h2 h4⟩
theorem INVX.all {N : Nat} {T T2 : CT} {σ σ2 : MS} {a : Nat} {B : Int} (_ : INVX N T σ a) (w : WT T2 σ2) (t : TR σ2 a B) (s : SEP σ2 a) (hB : B ≤ 20001 * ((N : Int) + 1)) : INVX (N + 1) T2 σ2 a := ⟨w, t.up (by omega), s⟩
end
section
def ixF (x : Int32) : Nat → Nat → Int32
  | 0, _ => -1
  | n + 1, k => if sgB.getD k 0 = x then Int32.ofNat k else ixF x n (k + 1)
def sgI (c : Int32) : Int32 := ixF c.toInt8.toInt32 11 0
def sgZ (z : Int) : Int := (sgI (iI z)).toInt
end
section
def shw (w : Int64) (z : Int) : Int64 := (w <<< ((iI 8).toInt64 &&& 63)) ||| ((iI z).toInt64)
abbrev TK : Type := Int × Int × Int × Int × Int64
abbrev EV : Type := Int × Int × Int64
abbrev QR : Type := Int64 × Int × Int × Int × Int
abbrev PCf : Type := List Nat × TK × (Int × Int × Int) × QR × List EV
abbrev qq (c : Int) : QR := (0, 0, 0, 0, c)
def wsk (s : Int → Int) : Nat → Int → Int
  | 0, n => n
  | f + 1, n => if s n = 10 ∨ s n = 32 then wsk s f (n + 1) else n
def wsp (s : Int → Int) (n : Int) : Int := wsk s (1300 - n).toNat n
theorem wsp_s {s : Int → Int} {n : Int} (h : n < 1300) (c : s n = 10 ∨ s n = 32) : wsp s n = wsp s (n + 1) := by
  unfold wsp
  rw [show (1300 - n).toNat = (1300 - (n + 1)).toNat + 1 by omega]
  show (if _ then _ else _) = _
  rw [if_pos c]
theorem wsp_e {s : Int → Int} {n : Int} (c : ¬ (s n = 10 ∨ s n = 32)) : wsp s n = n := by
  unfold wsp
  cases (1300 - n).toNat with
  | zero => rfl
  | succ f => show (if _ then _ else _) = _; rw [if_neg c]
def ltk (s : Int → Int) : Nat → Int → Int64 → Int → Int × Int64 × Int
  | 0, n, w, c => (n, w, c)
  | f + 1, n, w, c => if 97 ≤ s n ∧ s n ≤ 122 then ltk s f (n + 1) (shw w (s n)) (c + 1) else (n, w, c)
def ltp (s : Int → Int) (n : Int) (w : Int64) (c : Int) : Int × Int64 × Int := ltk s (1300 - n).toNat n w c
theorem ltp_s {s : Int → Int} {n c : Int} {w : Int64} (h : n < 1300) (q : 97 ≤ s n ∧ s n ≤ 122) : ltp s n w c = ltp s (n + 1) (shw w (s n)) (c + 1) := by
  unfold ltp
  rw [show (1300 - n).toNat = (1300 - (n + 1)).toNat + 1 by omega]
  show (if _ then _ else _) = _
  rw [if_pos q]
theorem ltp_e {s : Int → Int} {n c : Int} {w : Int64} (q : ¬ (97 ≤ s n ∧ s n ≤ 122)) : ltp s n w c = (n, w, c) := by
  unfold ltp
  cases (1300 - n).toNat with
  | zero => rfl
  | succ f => show (if _ then _ else _) = _; rw [if_neg q]
def dgv (v c x : Int) : Int := if c < 7 then 10 * v + x - 48 else v
def dgk (s : Int → Int) : Nat → Int → Int → Int → Int × Int × Int
  | 0, n, v, c => (n, v, c)
  | f + 1, n, v, c => if 48 ≤ s n ∧ s n ≤ 57 then dgk s f (n + 1) (dgv v c (s n)) (c + 1) else (n, v, c)
def dgp (s : Int → Int) (n v c : Int) : Int × Int × Int := dgk s (1300 - n).toNat n v c
theorem dgp_s {s : Int → Int} {n v c : Int} (h : n < 1300) (q : 48 ≤ s n ∧ s n ≤ 57) : dgp s n v c = dgp s (n + 1) (dgv v c (s n)) (c + 1) := by
  unfold dgp
  rw [show (1300 - n).toNat = (1300 - (n + 1)).toNat + 1 by omega]
  show (if _ then _ else _) = _
  rw [if_pos q]
theorem dgp_e {s : Int → Int} {n v c : Int} (q : ¬ (48 ≤ s n ∧ s n ≤ 57)) : dgp s n v c = (n, v, c) := by
  unfold dgp
  cases (1300 - n).toNat with
  | zero => rfl
  | succ f => show (if _ then _ else _) = _; rw [if_neg q]
def advP (s : Int → Int) (p : Int) : TK :=
  if s p < 0 then (p, p, 0, s p, 0)
  else if 97 ≤ s p ∧ s p ≤ 122 then (p, (ltp s p 0 0).1, if 6 < (ltp s p 0 0).2.2 then 1 else 2, s p, (ltp s p 0 0).2.1)
  else if 48 ≤ s p ∧ s p ≤ 57 then (p, (dgp s p 0 0).1, if 7 < (dgp s p 0 0).2.2 then 1 else 3, (dgp s p 0 0).2.1, 0)
  else (p, p + 1, if sgZ (s p) < 0 then 1 else 4, s p, 0)
def advT (s : Int → Int) (nx : Int) : TK := advP s (wsp s nx)
abbrev sgn (t : TK) (c : Int) : Prop := t.2.2.1 = 4 ∧ t.2.2.2.1 = c
abbrev wrd (t : TK) (w : Int64) : Prop := t.2.2.1 = 2 ∧ t.2.2.2.2 = w
abbrev W5 : List Int64 := [7304564, 125780071117422, 26982, 1701606245, 512852847717]
abbrev nam (t : TK) : Prop := t.2.2.1 = 2 ∧ t.2.2.2.2 ∉ W5
def pF : PCf := ([999], (0, 0, 0, 0, 0), (0, 0, 0), qq 0, [])
def stk (s : Int → Int) (k : Nat) (t : TK) (x : Int × Int × Int) (q : QR) : Option (List Nat × TK × (Int × Int × Int) × QR × List EV) :=
  match k with
  | 0 => if sgn t 45 then some ([1, 51], advT s t.2.1, x, q, []) else some ([1], t, x, q, [])
  | 1 => if t.2.2.1 = 3 ∨ nam t then some ([], advT s t.2.1, x, q, []) else if sgn t 40 then some ([2, 141], advT s t.2.1, x, q, []) else none
  | 2 => if x.1 = 8 then none else some ([3, 6], t, (x.1 + 1, x.2.1, x.2.2), q, [])
  | 3 => some ([4, 8], t, x, q, [])
  | 4 => some ([0, 9], t, x, q, [])
  | 6 => if sgn t 61 ∨ sgn t 60 then some ([3, 51, 7], advT s t.2.1, x, q, []) else some ([7], t, x, q, [])
  | 7 => some ([], t, (x.1 - 1, x.2.1, x.2.2), q, [])
  | 8 => if sgn t 43 ∨ sgn t 45 then some ([4, 51, 8], advT s t.2.1, x, q, []) else some ([], t, x, q, [])
  | 9 => if sgn t 42 then some ([0, 51, 9], advT s t.2.1, x, q, []) else some ([], t, x, q, [])
  | 20 => if wrd t 512852847717 then some ([22], t, x, q, []) else if wrd t 26982 then some ([51, 21], t, x, q, []) else if wrd t 7304564 ∨ wrd t 125780071117422 then some ([51, 39], t, x, q, []) else if nam t then some ([51, 23], t, x, q, []) else none
  | 21 => some ([2, 51, 28, 24], advT s t.2.1, x, q, [])
  | 22 => some ([52, 2, 51, 28, 52], advT s t.2.1, x, q, [])
  | 23 => some ([161, 25], advT s t.2.1, x, q, [])
  | 24 => if wrd t 1701606245 then some ([52, 28, 51], advT s t.2.1, x, q, []) else some ([51], t, x, q, [])
  | 25 => if nam t then (if sgn (advT s t.2.1) 40 then some ([26, 159], advT s t.2.1, x, (t.2.2.2.2, 0, t.1, q.2.2.2), []) else some ([2, 52, 159], (t.1, t.2.1, 2, (advT s t.2.1).2.2.2.1, t.2.2.2.2), x, q, [])) else some ([2, 52, 159], t, x, q, [])
  | 26 => if sgn (advT s t.2.1) 41 then some ([38, 141], advT s t.2.1, x, q, []) else some ([2, 27], advT s t.2.1, x, q, [])
  | 27 => if sgn t 44 then some ([2, 27], advT s t.2.1, x, (q.1, q.2.1 + 1, q.2.2), []) else some ([38, 141], t, x, (q.1, q.2.1 + 1, q.2.2), [])
  | 28 => if x.2.1 = 6 then none else some ([223, 29], t, (x.1, x.2.1 + 1, x.2.2), q, [])
  | 29 => if sgn t 125 then some ([40], advT s t.2.1, x, q, []) else some ([20, 29], t, x, q, [])
  | 30 => if nam t then some ([140, 31], advT s t.2.1, x, (q.1, q.2.1, q.2.2.1, 0, t.1), []) else none
  | 31 => if sgn t 41 then some ([141, 35], t, x, q, []) else some ([32], t, x, q, [])
  | 32 => if nam t then some ([33], advT s t.2.1, x, (q.1, q.2.1, q.2.2.1, q.2.2.2.1 + 1, q.2.2.2.2), []) else none
  | 33 => if sgn t 44 then some ([32], advT s t.2.1, x, q, []) else some ([141, 35], t, x, q, [])
  | 34 => some ([], t, x, (q.1, q.2.1, q.2.2.1, q.2.2.2.1, 0), [(0, x.2.2, 0)])
  | 35 => some ([28, 51, 34], t, (x.1, x.2.1, 0), (q.1, q.2.1, q.2.2.1, 0, q.2.2.2.2), [])
  | 36 => if t.2.2.1 = 0 then some ([], t, x, q, []) else some ([30, 36], t, x, q, [])
  | 38 => some ([], t, (x.1, x.2.1, x.2.2 + 2), (0, 0, 0, q.2.2.2), [(1, q.2.1, q.1)])
  | 39 => some ([2, 51, 159], advT s t.2.1, x, q, [])
  | 40 => some ([], t, (x.1, x.2.1 - 1, x.2.2), q, [])
  | 51 => some ([], t, (x.1, x.2.1, x.2.2 + 1), q, [])
  | 52 => some ([], t, (x.1, x.2.1, x.2.2 + 2), q, [])
  | k => if sgn t ((k : Int) - 100) then some ([], advT s t.2.1, x, q, []) else none
def stp (s : Int → Int) (a : PCf) : PCf :=
  match a with
  | ([], t, x, q, ρ) => ([], t, x, q, ρ)
  | (k :: K, t, x, q, ρ) => match stk s k t x q with
    | none => pF
    | some r => (r.1 ++ K, r.2.1, r.2.2.1, r.2.2.2.1, ρ ++ r.2.2.2.2)
theorem stp_pF (s : Int → Int) : stp s pF = pF := rfl
theorem stp_nil (s : Int → Int) (t : TK) (x : Int × Int × Int) (q : QR) (ρ : List EV) : stp s ([], t, x, q, ρ) = ([], t, x, q, ρ) := rfl
def itr (s : Int → Int) : Nat → PCf → PCf
  | 0, a => a
  | n + 1, a => itr s n (stp s a)
def RCm (s : Int → Int) (a b : PCf) : Prop := ∃ n, itr s n a = b
theorem itr_add (s : Int → Int) (n m : Nat) (a : PCf) : itr s (n + m) a = itr s m (itr s n a) := by
  induction n generalizing a with
  | zero => simp [itr]
  | succ n ih =>
    rw [show n + 1 + m = (n + m) + 1 by omega]
    show itr s (n + m) (stp s a) = itr s m (itr s n (stp s a))
    exact ih _
theorem RCm.rfl {s : Int → Int} {a : PCf} : RCm s a a := ⟨0, Eq.refl _⟩
theorem RCm.trans {s : Int → Int} {a b c : PCf} (h : RCm s a b) (g : RCm s b c) : RCm s a c := by
  obtain ⟨n, hn⟩ := h
  obtain ⟨m, hm⟩ := g
  exact ⟨n + m, by rw [itr_add, hn, hm]⟩
theorem RCm.one {s : Int → Int} {a b : PCf} (h : stp s a = b) : RCm s a b := ⟨1, h⟩
theorem itr_fix {s : Int → Int} {a : PCf} (h : stp s a = a) (n : Nat) : itr s n a = a := by
  induction n with
  | zero => rfl
  | succ n ih =>
    show itr s n (stp s a) = a
    rw [h]; exact ih
theorem RCm.det {s : Int → Int} {a b c : PCf} (h : RCm s a b) (g : RCm s a c) (hb : stp s b = b) (hc : stp s c = c) : b = c := by
  obtain ⟨n, hn⟩ := h
  obtain ⟨m, hm⟩ := g
  by_cases z : n ≤ m
  · have e : itr s m a = itr s (m - n) b := by rw [← hn, ← itr_add]; congr 1; omega
    rw [itr_fix hb] at e
    exact e.symm.trans hm
  · have e : itr s n a = itr s (n - m) c := by rw [← hm, ← itr_add]; congr 1; omega
    rw [itr_fix hc] at e
    exact hn.symm.trans e
abbrev EW : Type := Int × Int × Int × Int64
def evk (k : Nat) (t : TK) (x : Int × Int × Int) (q : QR) : List EW := match k with
  | 1 => if nam t then [(4, t.1, 0, t.2.2.2.2)] else []
  | 20 => [(5, t.1, 0, 0)]
  | 23 => [(4, t.1, 0, t.2.2.2.2)]
  | 30 => [(2, t.1, 0, t.2.2.2.2)]
  | 31 => if sgn t 41 then [(7, 0, q.2.2.2.1, 0)] else []
  | 32 => [(3, t.1, q.2.2.2.1, t.2.2.2.2)]
  | 33 => if sgn t 44 then [] else [(7, 0, q.2.2.2.1, 0)]
  | 34 => [(0, q.2.2.2.2, x.2.2, 0)]
  | 38 => [(1, q.2.2.1, q.2.1, q.1)]
  | _ => []
def evt (s : Int → Int) (a : PCf) : List EW := match a with
  | ([], _, _, _, _) => []
  | (k :: _, t, x, q, _) => if k = 999 then [] else match stk s k t x q with
    | none => [(9, t.1, 0, 0)]
    | some _ => evk k t x q
theorem evt_s {s : Int → Int} {k : Nat} {K : List Nat} {t : TK} {x : Int × Int × Int} {q : QR} {ρ : List EV} {r : List Nat × TK × (Int × Int × Int) × QR × List EV} (hk : k ≠ 999) (h : stk s k t x q = some r) : evt s (k :: K, t, x, q, ρ) = evk k t x q := by
  show (if k = 999 then [] else match stk s k t x q with
    | none => [(9, t.1, 0, 0)]
    | some _ => evk k t x q) = _
  rw [if_neg hk, h]
theorem evt_n {s : Int → Int} {k : Nat} {K : List Nat} {t : TK} {x : Int × Int × Int} {q : QR} {ρ : List EV} (hk : k ≠ 999) (h : stk s k t x q = none) : evt s (k :: K, t, x, q, ρ) = [(9, t.1, 0, 0)] := by
  show (if k = 999 then [] else match stk s k t x q with
    | none => [(9, t.1, 0, 0)]
    | some _ => evk k t x q) = _
  rw [if_neg hk, h]
def evs (s : Int → Int) : Nat → PCf → List EW
  | 0, _ => []
  | n + 1, a => evt s a ++ evs s n (stp s a)
theorem evs_add (s : Int → Int) (n m : Nat) (a : PCf) : evs s (n + m) a = evs s n a ++ evs s m (itr s n a) := by
  induction n generalizing a with
  | zero => simp [evs, itr]
  | succ n ih =>
    rw [show n + 1 + m = (n + m) + 1 by omega]
    show evt s a ++ evs s (n + m) (stp s a) = (evt s a ++ evs s n (stp s a)) ++ evs s m (itr s n (stp s a))
    rw [ih, List.append_assoc]
def RE (s : Int → Int) (a : PCf) (es : List EW) (b : PCf) : Prop := ∃ n, itr s n a = b ∧ evs s n a = es
theorem RE.rc {s : Int → Int} {a b : PCf} {es : List EW} (h : RE s a es b) : RCm s a b := by
  obtain ⟨n, h1, -⟩ := h
  exact ⟨n, h1⟩
theorem RE.rfl {s : Int → Int} {a : PCf} : RE s a [] a := ⟨0, Eq.refl _, Eq.refl _⟩
theorem RE.trans {s : Int → Int} {a b c : PCf} {e1 e2 : List EW} (h : RE s a e1 b) (g : RE s b e2 c) : RE s a (e1 ++ e2) c := by
  obtain ⟨n, h1, h2⟩ := h
  obtain ⟨m, g1, g2⟩ := g
  exact ⟨n + m, by rw [itr_add, h1, g1], by rw [evs_add, h2, h1, g2]⟩
theorem RE.one {s : Int → Int} {a b : PCf} {es : List EW} (h : stp s a = b) (e : evt s a = es) : RE s a es b := ⟨1, h, by show evt s a ++ [] = es; rw [List.append_nil]; exact e⟩
theorem evs_fix {s : Int → Int} {a : PCf} (h : stp s a = a) (e : evt s a = []) (n : Nat) : evs s n a = [] := by
  induction n with
  | zero => rfl
  | succ n ih =>
    show evt s a ++ evs s n (stp s a) = []
    rw [h, e, ih]; rfl
theorem RE.det {s : Int → Int} {a b c : PCf} {e1 e2 : List EW} (h : RE s a e1 b) (g : RE s a e2 c) (hb : stp s b = b) (hc : stp s c = c) (eb : evt s b = []) (ec : evt s c = []) : b = c ∧ e1 = e2 := by
  obtain ⟨n, hn, n2⟩ := h
  obtain ⟨m, hm, m2⟩ := g
  by_cases z : n ≤ m
  · obtain ⟨k, rfl⟩ : ∃ k, m = n + k := ⟨m - n, by omega⟩
    rw [itr_add, hn, itr_fix hb] at hm
    rw [evs_add, hn, evs_fix hb eb, List.append_nil, n2] at m2
    exact ⟨hm, m2⟩
  · obtain ⟨k, rfl⟩ : ∃ k, n = m + k := ⟨n - m, by omega⟩
    rw [itr_add, hm, itr_fix hc] at hn
    rw [evs_add, hm, evs_fix hc ec, List.append_nil, m2] at n2
    exact ⟨hn.symm, n2.symm⟩
theorem evt_nil {s : Int → Int} {t : TK} {x : Int × Int × Int} {q : QR} {ρ : List EV} : evt s ([], t, x, q, ρ) = [] := rfl
theorem evt_pF {s : Int → Int} : evt s pF = [] := rfl
end
