section
theorem cd_X8_findOdds : Cond.code yX8_findOdds cX8_findOdds 5 none ∈ pWW := pw5 (List.mem_of_getElem? (i := 216) rfl) rfl
abbrev m_X8_findOdds : MT := (yX8_findOdds, cX8_findOdds, 5, none)
theorem ok_X8_findOdds : pOk m_X8_findOdds := ⟨⟨cd_X8_findOdds, ini_8⟩, by decide +kernel, ⟨by decide +kernel, by decide +kernel⟩, Nat.le_of_ble_eq_true rfl⟩
theorem np_X8_findOdds : (parseMethodDescriptor yX8_findOdds.desc).map (fun d => d.parameters.length) = some 2 := by decide +kernel
theorem im_X8_findOdds : Cond.instanceMethod yX8_findOdds ∈ pWW := pw5 (List.mem_of_getElem? (i := 215) rfl) rfl
theorem se_X8_findOdds : Cond.selects RX8 yX8_findOdds yX8_findOdds ∈ pWW := pws (List.mem_map.mpr ⟨_, lw_pin 76 rfl, rfl⟩) rfl
theorem nl8_108 : (RX8, 108, yX11_clear, "LineKeeper") ∈ nst_M := List.mem_of_getElem? (i := 41) rfl
theorem ml8_116 : Cond.methodLink RX8 116 yX8_addOdds ∈ pWW := pw5 (List.mem_of_getElem? (i := 219) rfl) rfl
theorem dX8_findOdds_0 : decode cX8_findOdds 0 = .ok (.aload_n 0, 1) := by decide +kernel
theorem dX8_findOdds_1 : decode cX8_findOdds 1 = .ok (.getfield 9, 3) := by decide +kernel
theorem dX8_findOdds_4 : decode cX8_findOdds 4 = .ok (.iload_n 2, 1) := by decide +kernel
theorem dX8_findOdds_5 : decode cX8_findOdds 5 = .ok (.iconst 3, 1) := by decide +kernel
theorem dX8_findOdds_6 : decode cX8_findOdds 6 = .ok (.imul, 1) := by decide +kernel
theorem dX8_findOdds_7 : decode cX8_findOdds 7 = .ok (.invokestatic 108, 3) := by decide +kernel
theorem dX8_findOdds_10 : decode cX8_findOdds 10 = .ok (.iconst 0, 1) := by decide +kernel
theorem dX8_findOdds_11 : decode cX8_findOdds 11 = .ok (.istore_n 3, 1) := by decide +kernel
theorem dX8_findOdds_12 : decode cX8_findOdds 12 = .ok (.iload_n 3, 1) := by decide +kernel
theorem dX8_findOdds_13 : decode cX8_findOdds 13 = .ok (.iload_n 2, 1) := by decide +kernel
theorem dX8_findOdds_14 : decode cX8_findOdds 14 = .ok (.if_icmp .ge 32, 3) := by decide +kernel
theorem dX8_findOdds_17 : decode cX8_findOdds 17 = .ok (.aload_n 0, 1) := by decide +kernel
theorem dX8_findOdds_18 : decode cX8_findOdds 18 = .ok (.getfield 15, 3) := by decide +kernel
theorem dX8_findOdds_21 : decode cX8_findOdds 21 = .ok (.iconst 0, 1) := by decide +kernel
theorem dX8_findOdds_22 : decode cX8_findOdds 22 = .ok (.iload_n 3, 1) := by decide +kernel
theorem dX8_findOdds_23 : decode cX8_findOdds 23 = .ok (.invokestatic 112, 3) := by decide +kernel
theorem dX8_findOdds_26 : decode cX8_findOdds 26 = .ok (.ifCond .eq 14, 3) := by decide +kernel
theorem dX8_findOdds_40 : decode cX8_findOdds 40 = .ok (.iinc 3 1, 3) := by decide +kernel
theorem dX8_findOdds_43 : decode cX8_findOdds 43 = .ok (.goto (-31), 3) := by decide +kernel
theorem dX8_findOdds_29 : decode cX8_findOdds 29 = .ok (.aload_n 0, 1) := by decide +kernel
theorem dX8_findOdds_30 : decode cX8_findOdds 30 = .ok (.aload_n 0, 1) := by decide +kernel
theorem dX8_findOdds_31 : decode cX8_findOdds 31 = .ok (.getfield 15, 3) := by decide +kernel
theorem dX8_findOdds_34 : decode cX8_findOdds 34 = .ok (.iconst 0, 1) := by decide +kernel
theorem dX8_findOdds_35 : decode cX8_findOdds 35 = .ok (.iload_n 3, 1) := by decide +kernel
theorem dX8_findOdds_36 : decode cX8_findOdds 36 = .ok (.iload_n 2, 1) := by decide +kernel
theorem dX8_findOdds_37 : decode cX8_findOdds 37 = .ok (.invokevirtual 116, 3) := by decide +kernel
theorem fl8_70 : Cond.fieldLink RX8 70 (TX1 1).1 (TX1 1).2.1 (TX1 1).2.2.1 ∈ pWW := pw1 (List.mem_of_getElem? (i := 81) rfl) rfl
theorem ml8_120 : Cond.methodLink RX8 120 yX1_writtenBy ∈ pWW := pw5 (List.mem_of_getElem? (i := 223) rfl) rfl
theorem dX8_findOdds_46 : decode cX8_findOdds 46 = .ok (.iconst 0, 1) := by decide +kernel
theorem dX8_findOdds_47 : decode cX8_findOdds 47 = .ok (.istore_n 3, 1) := by decide +kernel
theorem dX8_findOdds_48 : decode cX8_findOdds 48 = .ok (.iload_n 3, 1) := by decide +kernel
theorem dX8_findOdds_49 : decode cX8_findOdds 49 = .ok (.aload_n 1, 1) := by decide +kernel
theorem dX8_findOdds_50 : decode cX8_findOdds 50 = .ok (.getfield 70, 3) := by decide +kernel
theorem dX8_findOdds_53 : decode cX8_findOdds 53 = .ok (.if_icmp .ge 39, 3) := by decide +kernel
theorem dX8_findOdds_56 : decode cX8_findOdds 56 = .ok (.aload_n 1, 1) := by decide +kernel
theorem dX8_findOdds_57 : decode cX8_findOdds 57 = .ok (.iload_n 3, 1) := by decide +kernel
theorem dX8_findOdds_58 : decode cX8_findOdds 58 = .ok (.invokevirtual 120, 3) := by decide +kernel
theorem dX8_findOdds_61 : decode cX8_findOdds 61 = .ok (.istore 4, 2) := by decide +kernel
theorem dX8_findOdds_63 : decode cX8_findOdds 63 = .ok (.iload 4, 2) := by decide +kernel
theorem dX8_findOdds_65 : decode cX8_findOdds 65 = .ok (.iconst (-1), 1) := by decide +kernel
theorem dX8_findOdds_66 : decode cX8_findOdds 66 = .ok (.if_icmp .eq 20, 3) := by decide +kernel
theorem dX8_findOdds_86 : decode cX8_findOdds 86 = .ok (.iinc 3 1, 3) := by decide +kernel
theorem dX8_findOdds_89 : decode cX8_findOdds 89 = .ok (.goto (-41), 3) := by decide +kernel
theorem dX8_findOdds_69 : decode cX8_findOdds 69 = .ok (.aload_n 0, 1) := by decide +kernel
theorem dX8_findOdds_70 : decode cX8_findOdds 70 = .ok (.aload_n 0, 1) := by decide +kernel
theorem dX8_findOdds_71 : decode cX8_findOdds 71 = .ok (.getfield 34, 3) := by decide +kernel
theorem dX8_findOdds_74 : decode cX8_findOdds 74 = .ok (.getfield 89, 3) := by decide +kernel
theorem dX8_findOdds_77 : decode cX8_findOdds 77 = .ok (.iload_n 3, 1) := by decide +kernel
theorem dX8_findOdds_78 : decode cX8_findOdds 78 = .ok (.iconst 1, 1) := by decide +kernel
theorem dX8_findOdds_79 : decode cX8_findOdds 79 = .ok (.iadd, 1) := by decide +kernel
theorem dX8_findOdds_80 : decode cX8_findOdds 80 = .ok (.iload 4, 2) := by decide +kernel
theorem dX8_findOdds_82 : decode cX8_findOdds 82 = .ok (.iload_n 2, 1) := by decide +kernel
theorem dX8_findOdds_83 : decode cX8_findOdds 83 = .ok (.invokevirtual 116, 3) := by decide +kernel
theorem dX8_findOdds_92 : decode cX8_findOdds 92 = .ok (.return_, 1) := by decide +kernel
end
section
theorem cd_X8_meets : Cond.code yX8_meets cX8_meets 4 (some .boolean) ∈ pWW := pw5 (List.mem_of_getElem? (i := 231) rfl) rfl
abbrev m_X8_meets : MT := (yX8_meets, cX8_meets, 4, (some .boolean))
theorem ok_X8_meets : pOk m_X8_meets := ⟨⟨cd_X8_meets, ini_8⟩, by decide +kernel, ⟨by decide +kernel, by decide +kernel⟩, Nat.le_of_ble_eq_true rfl⟩
theorem np_X8_meets : (parseMethodDescriptor yX8_meets.desc).map (fun d => d.parameters.length) = some 2 := by decide +kernel
theorem im_X8_meets : Cond.instanceMethod yX8_meets ∈ pWW := pw5 (List.mem_of_getElem? (i := 230) rfl) rfl
theorem se_X8_meets : Cond.selects RX8 yX8_meets yX8_meets ∈ pWW := pws (List.mem_map.mpr ⟨_, lw_pin 79 rfl, rfl⟩) rfl
theorem fl8_22 : Cond.fieldLink RX8 22 (TX8 4).1 (TX8 4).2.1 (TX8 4).2.2.1 ∈ pWW := pw2 (List.mem_of_getElem? (i := 102) rfl) rfl
theorem nl8_132 : (RX8, 132, yX11_bitsAt, "LineKeeper") ∈ nst_M := List.mem_of_getElem? (i := 43) rfl
theorem dX8_meets_0 : decode cX8_meets 0 = .ok (.iconst 0, 1) := by decide +kernel
theorem dX8_meets_1 : decode cX8_meets 1 = .ok (.istore_n 3, 1) := by decide +kernel
theorem dX8_meets_2 : decode cX8_meets 2 = .ok (.iload_n 3, 1) := by decide +kernel
theorem dX8_meets_3 : decode cX8_meets 3 = .ok (.iconst 3, 1) := by decide +kernel
theorem dX8_meets_4 : decode cX8_meets 4 = .ok (.if_icmp .ge 41, 3) := by decide +kernel
theorem dX8_meets_7 : decode cX8_meets 7 = .ok (.aload_n 0, 1) := by decide +kernel
theorem dX8_meets_8 : decode cX8_meets 8 = .ok (.getfield 22, 3) := by decide +kernel
theorem dX8_meets_11 : decode cX8_meets 11 = .ok (.iload_n 1, 1) := by decide +kernel
theorem dX8_meets_12 : decode cX8_meets 12 = .ok (.iconst 3, 1) := by decide +kernel
theorem dX8_meets_13 : decode cX8_meets 13 = .ok (.imul, 1) := by decide +kernel
theorem dX8_meets_14 : decode cX8_meets 14 = .ok (.iload_n 3, 1) := by decide +kernel
theorem dX8_meets_15 : decode cX8_meets 15 = .ok (.iadd, 1) := by decide +kernel
theorem dX8_meets_16 : decode cX8_meets 16 = .ok (.invokestatic 132, 3) := by decide +kernel
theorem dX8_meets_19 : decode cX8_meets 19 = .ok (.aload_n 0, 1) := by decide +kernel
theorem dX8_meets_20 : decode cX8_meets 20 = .ok (.getfield 9, 3) := by decide +kernel
theorem dX8_meets_23 : decode cX8_meets 23 = .ok (.iload_n 2, 1) := by decide +kernel
theorem dX8_meets_24 : decode cX8_meets 24 = .ok (.iconst 3, 1) := by decide +kernel
theorem dX8_meets_25 : decode cX8_meets 25 = .ok (.imul, 1) := by decide +kernel
theorem dX8_meets_26 : decode cX8_meets 26 = .ok (.iload_n 3, 1) := by decide +kernel
theorem dX8_meets_27 : decode cX8_meets 27 = .ok (.iadd, 1) := by decide +kernel
theorem dX8_meets_28 : decode cX8_meets 28 = .ok (.invokestatic 132, 3) := by decide +kernel
theorem dX8_meets_31 : decode cX8_meets 31 = .ok (.land, 1) := by decide +kernel
theorem dX8_meets_32 : decode cX8_meets 32 = .ok (.lconst 0, 1) := by decide +kernel
theorem dX8_meets_33 : decode cX8_meets 33 = .ok (.lcmp, 1) := by decide +kernel
theorem dX8_meets_34 : decode cX8_meets 34 = .ok (.ifCond .eq 5, 3) := by decide +kernel
theorem dX8_meets_39 : decode cX8_meets 39 = .ok (.iinc 3 1, 3) := by decide +kernel
theorem dX8_meets_42 : decode cX8_meets 42 = .ok (.goto (-40), 3) := by decide +kernel
theorem dX8_meets_37 : decode cX8_meets 37 = .ok (.iconst 1, 1) := by decide +kernel
theorem dX8_meets_38 : decode cX8_meets 38 = .ok (.ireturn, 1) := by decide +kernel
theorem dX8_meets_45 : decode cX8_meets 45 = .ok (.iconst 0, 1) := by decide +kernel
theorem dX8_meets_46 : decode cX8_meets 46 = .ok (.ireturn, 1) := by decide +kernel
end
section
theorem cd_X8_numberAnew : Cond.code yX8_numberAnew cX8_numberAnew 4 none ∈ pWW := pw5 (List.mem_of_getElem? (i := 227) rfl) rfl
abbrev m_X8_numberAnew : MT := (yX8_numberAnew, cX8_numberAnew, 4, none)
theorem ok_X8_numberAnew : pOk m_X8_numberAnew := ⟨⟨cd_X8_numberAnew, ini_8⟩, by decide +kernel, ⟨by decide +kernel, by decide +kernel⟩, Nat.le_of_ble_eq_true rfl⟩
theorem np_X8_numberAnew : (parseMethodDescriptor yX8_numberAnew.desc).map (fun d => d.parameters.length) = some 1 := by decide +kernel
theorem im_X8_numberAnew : Cond.instanceMethod yX8_numberAnew ∈ pWW := pw5 (List.mem_of_getElem? (i := 226) rfl) rfl
theorem se_X8_numberAnew : Cond.selects RX8 yX8_numberAnew yX8_numberAnew ∈ pWW := pws (List.mem_map.mpr ⟨_, lw_pin 78 rfl, rfl⟩) rfl
theorem ml8_124 : Cond.methodLink RX8 124 yX8_meets ∈ pWW := pw5 (List.mem_of_getElem? (i := 228) rfl) rfl
theorem dX8_numberAnew_0 : decode cX8_numberAnew 0 = .ok (.aload_n 0, 1) := by decide +kernel
theorem dX8_numberAnew_1 : decode cX8_numberAnew 1 = .ok (.getfield 22, 3) := by decide +kernel
theorem dX8_numberAnew_4 : decode cX8_numberAnew 4 = .ok (.iload_n 1, 1) := by decide +kernel
theorem dX8_numberAnew_5 : decode cX8_numberAnew 5 = .ok (.iconst 3, 1) := by decide +kernel
theorem dX8_numberAnew_6 : decode cX8_numberAnew 6 = .ok (.imul, 1) := by decide +kernel
theorem dX8_numberAnew_7 : decode cX8_numberAnew 7 = .ok (.invokestatic 108, 3) := by decide +kernel
theorem dX8_numberAnew_10 : decode cX8_numberAnew 10 = .ok (.iconst 0, 1) := by decide +kernel
theorem dX8_numberAnew_11 : decode cX8_numberAnew 11 = .ok (.istore_n 2, 1) := by decide +kernel
theorem dX8_numberAnew_12 : decode cX8_numberAnew 12 = .ok (.iload_n 2, 1) := by decide +kernel
theorem dX8_numberAnew_13 : decode cX8_numberAnew 13 = .ok (.iload_n 1, 1) := by decide +kernel
theorem dX8_numberAnew_14 : decode cX8_numberAnew 14 = .ok (.if_icmp .ge 49, 3) := by decide +kernel
theorem dX8_numberAnew_17 : decode cX8_numberAnew 17 = .ok (.iconst 0, 1) := by decide +kernel
theorem dX8_numberAnew_18 : decode cX8_numberAnew 18 = .ok (.istore_n 3, 1) := by decide +kernel
theorem dX8_numberAnew_19 : decode cX8_numberAnew 19 = .ok (.iload_n 3, 1) := by decide +kernel
theorem dX8_numberAnew_20 : decode cX8_numberAnew 20 = .ok (.iload_n 2, 1) := by decide +kernel
theorem dX8_numberAnew_21 : decode cX8_numberAnew 21 = .ok (.if_icmp .ge 18, 3) := by decide +kernel
theorem dX8_numberAnew_24 : decode cX8_numberAnew 24 = .ok (.aload_n 0, 1) := by decide +kernel
theorem dX8_numberAnew_25 : decode cX8_numberAnew 25 = .ok (.iload_n 3, 1) := by decide +kernel
theorem dX8_numberAnew_26 : decode cX8_numberAnew 26 = .ok (.iload_n 2, 1) := by decide +kernel
theorem dX8_numberAnew_27 : decode cX8_numberAnew 27 = .ok (.invokevirtual 124, 3) := by decide +kernel
theorem dX8_numberAnew_30 : decode cX8_numberAnew 30 = .ok (.ifCond .eq 9, 3) := by decide +kernel
theorem dX8_numberAnew_33 : decode cX8_numberAnew 33 = .ok (.iinc 3 1, 3) := by decide +kernel
theorem dX8_numberAnew_36 : decode cX8_numberAnew 36 = .ok (.goto (-17), 3) := by decide +kernel
theorem fl8_18 : Cond.fieldLink RX8 18 (TX8 3).1 (TX8 3).2.1 (TX8 3).2.2.1 ∈ pWW := pw2 (List.mem_of_getElem? (i := 101) rfl) rfl
theorem nl8_128 : (RX8, 128, yX11_put, "LineKeeper") ∈ nst_M := List.mem_of_getElem? (i := 44) rfl
theorem dX8_numberAnew_39 : decode cX8_numberAnew 39 = .ok (.aload_n 0, 1) := by decide +kernel
theorem dX8_numberAnew_40 : decode cX8_numberAnew 40 = .ok (.getfield 18, 3) := by decide +kernel
theorem dX8_numberAnew_43 : decode cX8_numberAnew 43 = .ok (.iload_n 2, 1) := by decide +kernel
theorem dX8_numberAnew_44 : decode cX8_numberAnew 44 = .ok (.iload_n 3, 1) := by decide +kernel
theorem dX8_numberAnew_45 : decode cX8_numberAnew 45 = .ok (.invokestatic 128, 3) := by decide +kernel
theorem dX8_numberAnew_48 : decode cX8_numberAnew 48 = .ok (.aload_n 0, 1) := by decide +kernel
theorem dX8_numberAnew_49 : decode cX8_numberAnew 49 = .ok (.getfield 22, 3) := by decide +kernel
theorem dX8_numberAnew_52 : decode cX8_numberAnew 52 = .ok (.iload_n 3, 1) := by decide +kernel
theorem dX8_numberAnew_53 : decode cX8_numberAnew 53 = .ok (.iload_n 2, 1) := by decide +kernel
theorem dX8_numberAnew_54 : decode cX8_numberAnew 54 = .ok (.invokestatic 104, 3) := by decide +kernel
theorem dX8_numberAnew_57 : decode cX8_numberAnew 57 = .ok (.iinc 2 1, 3) := by decide +kernel
theorem dX8_numberAnew_60 : decode cX8_numberAnew 60 = .ok (.goto (-48), 3) := by decide +kernel
theorem dX8_numberAnew_63 : decode cX8_numberAnew 63 = .ok (.return_, 1) := by decide +kernel
end
section
theorem cd_X8_comeTo : Cond.code yX8_comeTo cX8_comeTo 9 none ∈ pWW := pw6 (List.mem_of_getElem? (i := 11) rfl) rfl
abbrev m_X8_comeTo : MT := (yX8_comeTo, cX8_comeTo, 9, none)
theorem ok_X8_comeTo : pOk m_X8_comeTo := ⟨⟨cd_X8_comeTo, ini_8⟩, by decide +kernel, ⟨by decide +kernel, by decide +kernel⟩, Nat.le_of_ble_eq_true rfl⟩
theorem np_X8_comeTo : (parseMethodDescriptor yX8_comeTo.desc).map (fun d => d.parameters.length) = some 2 := by decide +kernel
theorem im_X8_comeTo : Cond.instanceMethod yX8_comeTo ∈ pWW := pw6 (List.mem_of_getElem? (i := 10) rfl) rfl
theorem se_X8_comeTo : Cond.selects RX8 yX8_comeTo yX8_comeTo ∈ pWW := pws (List.mem_map.mpr ⟨_, lw_pin 82 rfl, rfl⟩) rfl
theorem fl8_28 : Cond.fieldLink RX8 28 (TX8 6).1 (TX8 6).2.1 (TX8 6).2.2.1 ∈ pWW := pw2 (List.mem_of_getElem? (i := 104) rfl) rfl
theorem nl8_74 : (RX8, 74, yX11_at, "LineKeeper") ∈ nst_M := List.mem_of_getElem? (i := 45) rfl
theorem fl8_25 : Cond.fieldLink RX8 25 (TX8 5).1 (TX8 5).2.1 (TX8 5).2.2.1 ∈ pWW := pw2 (List.mem_of_getElem? (i := 103) rfl) rfl
theorem fl8_31 : Cond.fieldLink RX8 31 (TX8 7).1 (TX8 7).2.1 (TX8 7).2.2.1 ∈ pWW := pw2 (List.mem_of_getElem? (i := 105) rfl) rfl
theorem fl8_142 : Cond.fieldLink RX8 142 (TX8 8).1 (TX8 8).2.1 (TX8 8).2.2.1 ∈ pWW := pw2 (List.mem_of_getElem? (i := 106) rfl) rfl
theorem nl8_152 : (RX8, 152, yX11_putBits, "LineKeeper") ∈ nst_M := List.mem_of_getElem? (i := 46) rfl
theorem dX8_comeTo_0 : decode cX8_comeTo 0 = .ok (.iload_n 2, 1) := by decide +kernel
theorem dX8_comeTo_1 : decode cX8_comeTo 1 = .ok (.ifCond .lt 11, 3) := by decide +kernel
theorem dX8_comeTo_12 : decode cX8_comeTo 12 = .ok (.return_, 1) := by decide +kernel
theorem dX8_comeTo_4 : decode cX8_comeTo 4 = .ok (.iload_n 2, 1) := by decide +kernel
theorem dX8_comeTo_5 : decode cX8_comeTo 5 = .ok (.aload_n 1, 1) := by decide +kernel
theorem dX8_comeTo_6 : decode cX8_comeTo 6 = .ok (.getfield 70, 3) := by decide +kernel
theorem dX8_comeTo_9 : decode cX8_comeTo 9 = .ok (.if_icmp .le 4, 3) := by decide +kernel
theorem dX8_comeTo_13 : decode cX8_comeTo 13 = .ok (.aload_n 0, 1) := by decide +kernel
theorem dX8_comeTo_14 : decode cX8_comeTo 14 = .ok (.getfield 28, 3) := by decide +kernel
theorem dX8_comeTo_17 : decode cX8_comeTo 17 = .ok (.iload_n 2, 1) := by decide +kernel
theorem dX8_comeTo_18 : decode cX8_comeTo 18 = .ok (.invokestatic 74, 3) := by decide +kernel
theorem dX8_comeTo_21 : decode cX8_comeTo 21 = .ok (.ifCond .ne 7, 3) := by decide +kernel
theorem dX8_comeTo_28 : decode cX8_comeTo 28 = .ok (.iconst 0, 1) := by decide +kernel
theorem dX8_comeTo_29 : decode cX8_comeTo 29 = .ok (.istore_n 3, 1) := by decide +kernel
theorem dX8_comeTo_30 : decode cX8_comeTo 30 = .ok (.iconst 0, 1) := by decide +kernel
theorem dX8_comeTo_31 : decode cX8_comeTo 31 = .ok (.istore 4, 2) := by decide +kernel
theorem dX8_comeTo_33 : decode cX8_comeTo 33 = .ok (.iload 4, 2) := by decide +kernel
theorem dX8_comeTo_35 : decode cX8_comeTo 35 = .ok (.iconst 3, 1) := by decide +kernel
theorem dX8_comeTo_36 : decode cX8_comeTo 36 = .ok (.if_icmp .ge 95, 3) := by decide +kernel
theorem dX8_comeTo_39 : decode cX8_comeTo 39 = .ok (.aload_n 0, 1) := by decide +kernel
theorem dX8_comeTo_40 : decode cX8_comeTo 40 = .ok (.getfield 25, 3) := by decide +kernel
theorem dX8_comeTo_43 : decode cX8_comeTo 43 = .ok (.iload_n 2, 1) := by decide +kernel
theorem dX8_comeTo_44 : decode cX8_comeTo 44 = .ok (.iconst 3, 1) := by decide +kernel
theorem dX8_comeTo_45 : decode cX8_comeTo 45 = .ok (.imul, 1) := by decide +kernel
theorem dX8_comeTo_46 : decode cX8_comeTo 46 = .ok (.iload 4, 2) := by decide +kernel
theorem dX8_comeTo_48 : decode cX8_comeTo 48 = .ok (.iadd, 1) := by decide +kernel
theorem dX8_comeTo_49 : decode cX8_comeTo 49 = .ok (.invokestatic 132, 3) := by decide +kernel
theorem dX8_comeTo_52 : decode cX8_comeTo 52 = .ok (.lstore 5, 2) := by decide +kernel
theorem dX8_comeTo_54 : decode cX8_comeTo 54 = .ok (.iload_n 3, 1) := by decide +kernel
theorem dX8_comeTo_55 : decode cX8_comeTo 55 = .ok (.ifCond .eq 15, 3) := by decide +kernel
theorem dX8_comeTo_70 : decode cX8_comeTo 70 = .ok (.lload 5, 2) := by decide +kernel
theorem dX8_comeTo_72 : decode cX8_comeTo 72 = .ok (.aload_n 0, 1) := by decide +kernel
theorem dX8_comeTo_73 : decode cX8_comeTo 73 = .ok (.getfield 31, 3) := by decide +kernel
theorem dX8_comeTo_76 : decode cX8_comeTo 76 = .ok (.iload 4, 2) := by decide +kernel
theorem dX8_comeTo_78 : decode cX8_comeTo 78 = .ok (.invokestatic 132, 3) := by decide +kernel
theorem dX8_comeTo_81 : decode cX8_comeTo 81 = .ok (.land, 1) := by decide +kernel
theorem dX8_comeTo_82 : decode cX8_comeTo 82 = .ok (.lstore 7, 2) := by decide +kernel
theorem dX8_comeTo_84 : decode cX8_comeTo 84 = .ok (.aload_n 0, 1) := by decide +kernel
theorem dX8_comeTo_85 : decode cX8_comeTo 85 = .ok (.dup, 1) := by decide +kernel
theorem dX8_comeTo_86 : decode cX8_comeTo 86 = .ok (.getfield 142, 3) := by decide +kernel
theorem dX8_comeTo_89 : decode cX8_comeTo 89 = .ok (.iload_n 3, 1) := by decide +kernel
theorem dX8_comeTo_90 : decode cX8_comeTo 90 = .ok (.ifCond .ne 11, 3) := by decide +kernel
theorem dX8_comeTo_93 : decode cX8_comeTo 93 = .ok (.lload 7, 2) := by decide +kernel
theorem dX8_comeTo_95 : decode cX8_comeTo 95 = .ok (.lload 5, 2) := by decide +kernel
theorem dX8_comeTo_97 : decode cX8_comeTo 97 = .ok (.lcmp, 1) := by decide +kernel
theorem dX8_comeTo_98 : decode cX8_comeTo 98 = .ok (.ifCond .eq 7, 3) := by decide +kernel
theorem dX8_comeTo_105 : decode cX8_comeTo 105 = .ok (.iconst 0, 1) := by decide +kernel
theorem dX8_comeTo_106 : decode cX8_comeTo 106 = .ok (.ior, 1) := by decide +kernel
theorem dX8_comeTo_107 : decode cX8_comeTo 107 = .ok (.putfield 142, 3) := by decide +kernel
theorem dX8_comeTo_110 : decode cX8_comeTo 110 = .ok (.aload_n 0, 1) := by decide +kernel
theorem dX8_comeTo_111 : decode cX8_comeTo 111 = .ok (.getfield 25, 3) := by decide +kernel
theorem dX8_comeTo_114 : decode cX8_comeTo 114 = .ok (.iload_n 2, 1) := by decide +kernel
theorem dX8_comeTo_115 : decode cX8_comeTo 115 = .ok (.iconst 3, 1) := by decide +kernel
theorem dX8_comeTo_116 : decode cX8_comeTo 116 = .ok (.imul, 1) := by decide +kernel
theorem dX8_comeTo_117 : decode cX8_comeTo 117 = .ok (.iload 4, 2) := by decide +kernel
theorem dX8_comeTo_119 : decode cX8_comeTo 119 = .ok (.iadd, 1) := by decide +kernel
theorem dX8_comeTo_120 : decode cX8_comeTo 120 = .ok (.lload 7, 2) := by decide +kernel
theorem dX8_comeTo_122 : decode cX8_comeTo 122 = .ok (.invokestatic 152, 3) := by decide +kernel
theorem dX8_comeTo_125 : decode cX8_comeTo 125 = .ok (.iinc 4 1, 3) := by decide +kernel
theorem dX8_comeTo_128 : decode cX8_comeTo 128 = .ok (.goto (-95), 3) := by decide +kernel
theorem dX8_comeTo_101 : decode cX8_comeTo 101 = .ok (.iconst 1, 1) := by decide +kernel
theorem dX8_comeTo_102 : decode cX8_comeTo 102 = .ok (.goto 4, 3) := by decide +kernel
theorem dX8_comeTo_58 : decode cX8_comeTo 58 = .ok (.aload_n 0, 1) := by decide +kernel
theorem dX8_comeTo_59 : decode cX8_comeTo 59 = .ok (.getfield 31, 3) := by decide +kernel
theorem dX8_comeTo_62 : decode cX8_comeTo 62 = .ok (.iload 4, 2) := by decide +kernel
theorem dX8_comeTo_64 : decode cX8_comeTo 64 = .ok (.invokestatic 132, 3) := by decide +kernel
theorem dX8_comeTo_67 : decode cX8_comeTo 67 = .ok (.goto 15, 3) := by decide +kernel
theorem dX8_comeTo_131 : decode cX8_comeTo 131 = .ok (.aload_n 0, 1) := by decide +kernel
theorem dX8_comeTo_132 : decode cX8_comeTo 132 = .ok (.getfield 28, 3) := by decide +kernel
theorem dX8_comeTo_135 : decode cX8_comeTo 135 = .ok (.iload_n 2, 1) := by decide +kernel
theorem dX8_comeTo_136 : decode cX8_comeTo 136 = .ok (.iconst 1, 1) := by decide +kernel
theorem dX8_comeTo_137 : decode cX8_comeTo 137 = .ok (.invokestatic 128, 3) := by decide +kernel
theorem dX8_comeTo_140 : decode cX8_comeTo 140 = .ok (.return_, 1) := by decide +kernel
theorem dX8_comeTo_24 : decode cX8_comeTo 24 = .ok (.iconst 1, 1) := by decide +kernel
theorem dX8_comeTo_25 : decode cX8_comeTo 25 = .ok (.goto 4, 3) := by decide +kernel
end
section
theorem cd_X8_goThrough : Cond.code yX8_goThrough cX8_goThrough 7 none ∈ pWW := pw6 (List.mem_of_getElem? (i := 4) rfl) rfl
abbrev m_X8_goThrough : MT := (yX8_goThrough, cX8_goThrough, 7, none)
theorem ok_X8_goThrough : pOk m_X8_goThrough := ⟨⟨cd_X8_goThrough, ini_8⟩, by decide +kernel, ⟨by decide +kernel, by decide +kernel⟩, Nat.le_of_ble_eq_true rfl⟩
theorem np_X8_goThrough : (parseMethodDescriptor yX8_goThrough.desc).map (fun d => d.parameters.length) = some 2 := by decide +kernel
theorem im_X8_goThrough : Cond.instanceMethod yX8_goThrough ∈ pWW := pw6 (List.mem_of_getElem? (i := 3) rfl) rfl
theorem se_X8_goThrough : Cond.selects RX8 yX8_goThrough yX8_goThrough ∈ pWW := pws (List.mem_map.mpr ⟨_, lw_pin 81 rfl, rfl⟩) rfl
theorem cst8_150 : Cond.constantLong RX8 150 (-1) ∈ pWW := pw6 (List.mem_of_getElem? (i := 5) rfl) rfl
theorem dX8_goThrough_0 : decode cX8_goThrough 0 = .ok (.aload_n 1, 1) := by decide +kernel
theorem dX8_goThrough_1 : decode cX8_goThrough 1 = .ok (.iload_n 2, 1) := by decide +kernel
theorem dX8_goThrough_2 : decode cX8_goThrough 2 = .ok (.invokevirtual 120, 3) := by decide +kernel
theorem dX8_goThrough_5 : decode cX8_goThrough 5 = .ok (.istore_n 3, 1) := by decide +kernel
theorem dX8_goThrough_6 : decode cX8_goThrough 6 = .ok (.iconst 0, 1) := by decide +kernel
theorem dX8_goThrough_7 : decode cX8_goThrough 7 = .ok (.istore 4, 2) := by decide +kernel
theorem dX8_goThrough_9 : decode cX8_goThrough 9 = .ok (.iload 4, 2) := by decide +kernel
theorem dX8_goThrough_11 : decode cX8_goThrough 11 = .ok (.iconst 3, 1) := by decide +kernel
theorem dX8_goThrough_12 : decode cX8_goThrough 12 = .ok (.if_icmp .ge 69, 3) := by decide +kernel
theorem dX8_goThrough_15 : decode cX8_goThrough 15 = .ok (.iload_n 3, 1) := by decide +kernel
theorem dX8_goThrough_16 : decode cX8_goThrough 16 = .ok (.iconst (-1), 1) := by decide +kernel
theorem dX8_goThrough_17 : decode cX8_goThrough 17 = .ok (.if_icmp .ne 7, 3) := by decide +kernel
theorem dX8_goThrough_24 : decode cX8_goThrough 24 = .ok (.aload_n 0, 1) := by decide +kernel
theorem dX8_goThrough_25 : decode cX8_goThrough 25 = .ok (.getfield 22, 3) := by decide +kernel
theorem dX8_goThrough_28 : decode cX8_goThrough 28 = .ok (.aload_n 0, 1) := by decide +kernel
theorem dX8_goThrough_29 : decode cX8_goThrough 29 = .ok (.getfield 18, 3) := by decide +kernel
theorem dX8_goThrough_32 : decode cX8_goThrough 32 = .ok (.iload_n 3, 1) := by decide +kernel
theorem dX8_goThrough_33 : decode cX8_goThrough 33 = .ok (.invokestatic 74, 3) := by decide +kernel
theorem dX8_goThrough_36 : decode cX8_goThrough 36 = .ok (.iconst 3, 1) := by decide +kernel
theorem dX8_goThrough_37 : decode cX8_goThrough 37 = .ok (.imul, 1) := by decide +kernel
theorem dX8_goThrough_38 : decode cX8_goThrough 38 = .ok (.iload 4, 2) := by decide +kernel
theorem dX8_goThrough_40 : decode cX8_goThrough 40 = .ok (.iadd, 1) := by decide +kernel
theorem dX8_goThrough_41 : decode cX8_goThrough 41 = .ok (.invokestatic 132, 3) := by decide +kernel
theorem dX8_goThrough_44 : decode cX8_goThrough 44 = .ok (.lstore 5, 2) := by decide +kernel
theorem dX8_goThrough_46 : decode cX8_goThrough 46 = .ok (.aload_n 0, 1) := by decide +kernel
theorem dX8_goThrough_47 : decode cX8_goThrough 47 = .ok (.getfield 31, 3) := by decide +kernel
theorem dX8_goThrough_50 : decode cX8_goThrough 50 = .ok (.iload 4, 2) := by decide +kernel
theorem dX8_goThrough_52 : decode cX8_goThrough 52 = .ok (.aload_n 0, 1) := by decide +kernel
theorem dX8_goThrough_53 : decode cX8_goThrough 53 = .ok (.getfield 25, 3) := by decide +kernel
theorem dX8_goThrough_56 : decode cX8_goThrough 56 = .ok (.iload_n 2, 1) := by decide +kernel
theorem dX8_goThrough_57 : decode cX8_goThrough 57 = .ok (.iconst 3, 1) := by decide +kernel
theorem dX8_goThrough_58 : decode cX8_goThrough 58 = .ok (.imul, 1) := by decide +kernel
theorem dX8_goThrough_59 : decode cX8_goThrough 59 = .ok (.iload 4, 2) := by decide +kernel
theorem dX8_goThrough_61 : decode cX8_goThrough 61 = .ok (.iadd, 1) := by decide +kernel
theorem dX8_goThrough_62 : decode cX8_goThrough 62 = .ok (.invokestatic 132, 3) := by decide +kernel
theorem dX8_goThrough_65 : decode cX8_goThrough 65 = .ok (.lload 5, 2) := by decide +kernel
theorem dX8_goThrough_67 : decode cX8_goThrough 67 = .ok (.ldc2_w 150, 3) := by decide +kernel
theorem dX8_goThrough_70 : decode cX8_goThrough 70 = .ok (.lxor, 1) := by decide +kernel
theorem dX8_goThrough_71 : decode cX8_goThrough 71 = .ok (.land, 1) := by decide +kernel
theorem dX8_goThrough_72 : decode cX8_goThrough 72 = .ok (.invokestatic 152, 3) := by decide +kernel
theorem dX8_goThrough_75 : decode cX8_goThrough 75 = .ok (.iinc 4 1, 3) := by decide +kernel
theorem dX8_goThrough_78 : decode cX8_goThrough 78 = .ok (.goto (-69), 3) := by decide +kernel
theorem dX8_goThrough_20 : decode cX8_goThrough 20 = .ok (.lconst 0, 1) := by decide +kernel
theorem dX8_goThrough_21 : decode cX8_goThrough 21 = .ok (.goto 23, 3) := by decide +kernel
theorem ml8_156 : Cond.methodLink RX8 156 yX1_fallsOn ∈ pWW := pw6 (List.mem_of_getElem? (i := 7) rfl) rfl
theorem ml8_163 : Cond.methodLink RX8 163 yX1_targetOf ∈ pWW := pw6 (List.mem_of_getElem? (i := 12) rfl) rfl
theorem ml8_160 : Cond.methodLink RX8 160 yX8_comeTo ∈ pWW := pw6 (List.mem_of_getElem? (i := 8) rfl) rfl
theorem dX8_goThrough_81 : decode cX8_goThrough 81 = .ok (.aload_n 0, 1) := by decide +kernel
theorem dX8_goThrough_82 : decode cX8_goThrough 82 = .ok (.getfield 31, 3) := by decide +kernel
theorem dX8_goThrough_85 : decode cX8_goThrough 85 = .ok (.iconst 0, 1) := by decide +kernel
theorem dX8_goThrough_86 : decode cX8_goThrough 86 = .ok (.iload_n 3, 1) := by decide +kernel
theorem dX8_goThrough_87 : decode cX8_goThrough 87 = .ok (.invokestatic 104, 3) := by decide +kernel
theorem dX8_goThrough_90 : decode cX8_goThrough 90 = .ok (.aload_n 1, 1) := by decide +kernel
theorem dX8_goThrough_91 : decode cX8_goThrough 91 = .ok (.iload_n 2, 1) := by decide +kernel
theorem dX8_goThrough_92 : decode cX8_goThrough 92 = .ok (.invokevirtual 156, 3) := by decide +kernel
theorem dX8_goThrough_95 : decode cX8_goThrough 95 = .ok (.ifCond .eq 11, 3) := by decide +kernel
theorem dX8_goThrough_106 : decode cX8_goThrough 106 = .ok (.aload_n 0, 1) := by decide +kernel
theorem dX8_goThrough_107 : decode cX8_goThrough 107 = .ok (.aload_n 1, 1) := by decide +kernel
theorem dX8_goThrough_108 : decode cX8_goThrough 108 = .ok (.aload_n 1, 1) := by decide +kernel
theorem dX8_goThrough_109 : decode cX8_goThrough 109 = .ok (.iload_n 2, 1) := by decide +kernel
theorem dX8_goThrough_110 : decode cX8_goThrough 110 = .ok (.invokevirtual 163, 3) := by decide +kernel
theorem dX8_goThrough_113 : decode cX8_goThrough 113 = .ok (.invokevirtual 160, 3) := by decide +kernel
theorem dX8_goThrough_116 : decode cX8_goThrough 116 = .ok (.return_, 1) := by decide +kernel
theorem dX8_goThrough_98 : decode cX8_goThrough 98 = .ok (.aload_n 0, 1) := by decide +kernel
theorem dX8_goThrough_99 : decode cX8_goThrough 99 = .ok (.aload_n 1, 1) := by decide +kernel
theorem dX8_goThrough_100 : decode cX8_goThrough 100 = .ok (.iload_n 2, 1) := by decide +kernel
theorem dX8_goThrough_101 : decode cX8_goThrough 101 = .ok (.iconst 1, 1) := by decide +kernel
theorem dX8_goThrough_102 : decode cX8_goThrough 102 = .ok (.iadd, 1) := by decide +kernel
theorem dX8_goThrough_103 : decode cX8_goThrough 103 = .ok (.invokevirtual 160, 3) := by decide +kernel
end
section
theorem cd_X8_findLatest : Cond.code yX8_findLatest cX8_findLatest 4 none ∈ pWW := pw5 (List.mem_of_getElem? (i := 237) rfl) rfl
abbrev m_X8_findLatest : MT := (yX8_findLatest, cX8_findLatest, 4, none)
theorem ok_X8_findLatest : pOk m_X8_findLatest := ⟨⟨cd_X8_findLatest, ini_8⟩, by decide +kernel, ⟨by decide +kernel, by decide +kernel⟩, Nat.le_of_ble_eq_true rfl⟩
theorem np_X8_findLatest : (parseMethodDescriptor yX8_findLatest.desc).map (fun d => d.parameters.length) = some 1 := by decide +kernel
theorem im_X8_findLatest : Cond.instanceMethod yX8_findLatest ∈ pWW := pw5 (List.mem_of_getElem? (i := 236) rfl) rfl
theorem se_X8_findLatest : Cond.selects RX8 yX8_findLatest yX8_findLatest ∈ pWW := pws (List.mem_map.mpr ⟨_, lw_pin 80 rfl, rfl⟩) rfl
theorem ml8_136 : Cond.methodLink RX8 136 yJ7_fill_53178 ∈ pWW := pw5 (List.mem_of_getElem? (i := 238) rfl) rfl
theorem cst8_146 : Cond.constant RX8 146 (1000000) ∈ pWW := pw5 (List.mem_of_getElem? (i := 239) rfl) rfl
theorem ml8_147 : Cond.methodLink RX8 147 yX8_goThrough ∈ pWW := pw6 (List.mem_of_getElem? (i := 1) rfl) rfl
theorem dX8_findLatest_0 : decode cX8_findLatest 0 = .ok (.aload_n 0, 1) := by decide +kernel
theorem dX8_findLatest_1 : decode cX8_findLatest 1 = .ok (.getfield 28, 3) := by decide +kernel
theorem dX8_findLatest_4 : decode cX8_findLatest 4 = .ok (.iconst 0, 1) := by decide +kernel
theorem dX8_findLatest_5 : decode cX8_findLatest 5 = .ok (.invokestatic 136, 3) := by decide +kernel
theorem dX8_findLatest_8 : decode cX8_findLatest 8 = .ok (.aload_n 0, 1) := by decide +kernel
theorem dX8_findLatest_9 : decode cX8_findLatest 9 = .ok (.getfield 15, 3) := by decide +kernel
theorem dX8_findLatest_12 : decode cX8_findLatest 12 = .ok (.iconst 0, 1) := by decide +kernel
theorem dX8_findLatest_13 : decode cX8_findLatest 13 = .ok (.aload_n 0, 1) := by decide +kernel
theorem dX8_findLatest_14 : decode cX8_findLatest 14 = .ok (.getfield 25, 3) := by decide +kernel
theorem dX8_findLatest_17 : decode cX8_findLatest 17 = .ok (.iconst 0, 1) := by decide +kernel
theorem dX8_findLatest_18 : decode cX8_findLatest 18 = .ok (.iconst 3, 1) := by decide +kernel
theorem dX8_findLatest_19 : decode cX8_findLatest 19 = .ok (.invokestatic 92, 3) := by decide +kernel
theorem dX8_findLatest_22 : decode cX8_findLatest 22 = .ok (.aload_n 0, 1) := by decide +kernel
theorem dX8_findLatest_23 : decode cX8_findLatest 23 = .ok (.getfield 28, 3) := by decide +kernel
theorem dX8_findLatest_26 : decode cX8_findLatest 26 = .ok (.iconst 0, 1) := by decide +kernel
theorem dX8_findLatest_27 : decode cX8_findLatest 27 = .ok (.iconst 1, 1) := by decide +kernel
theorem dX8_findLatest_28 : decode cX8_findLatest 28 = .ok (.invokestatic 128, 3) := by decide +kernel
theorem dX8_findLatest_31 : decode cX8_findLatest 31 = .ok (.aload_n 0, 1) := by decide +kernel
theorem dX8_findLatest_32 : decode cX8_findLatest 32 = .ok (.iconst 1, 1) := by decide +kernel
theorem dX8_findLatest_33 : decode cX8_findLatest 33 = .ok (.putfield 142, 3) := by decide +kernel
theorem dX8_findLatest_36 : decode cX8_findLatest 36 = .ok (.iconst 0, 1) := by decide +kernel
theorem dX8_findLatest_37 : decode cX8_findLatest 37 = .ok (.istore_n 2, 1) := by decide +kernel
theorem dX8_findLatest_38 : decode cX8_findLatest 38 = .ok (.aload_n 0, 1) := by decide +kernel
theorem dX8_findLatest_39 : decode cX8_findLatest 39 = .ok (.getfield 142, 3) := by decide +kernel
theorem dX8_findLatest_42 : decode cX8_findLatest 42 = .ok (.ifCond .eq 53, 3) := by decide +kernel
theorem dX8_findLatest_45 : decode cX8_findLatest 45 = .ok (.iload_n 2, 1) := by decide +kernel
theorem dX8_findLatest_46 : decode cX8_findLatest 46 = .ok (.ldc 146, 2) := by decide +kernel
theorem dX8_findLatest_48 : decode cX8_findLatest 48 = .ok (.if_icmp .ge 47, 3) := by decide +kernel
theorem dX8_findLatest_51 : decode cX8_findLatest 51 = .ok (.aload_n 0, 1) := by decide +kernel
theorem dX8_findLatest_52 : decode cX8_findLatest 52 = .ok (.iconst 0, 1) := by decide +kernel
theorem dX8_findLatest_53 : decode cX8_findLatest 53 = .ok (.putfield 142, 3) := by decide +kernel
theorem dX8_findLatest_56 : decode cX8_findLatest 56 = .ok (.iconst 0, 1) := by decide +kernel
theorem dX8_findLatest_57 : decode cX8_findLatest 57 = .ok (.istore_n 3, 1) := by decide +kernel
theorem dX8_findLatest_58 : decode cX8_findLatest 58 = .ok (.iload_n 3, 1) := by decide +kernel
theorem dX8_findLatest_59 : decode cX8_findLatest 59 = .ok (.aload_n 1, 1) := by decide +kernel
theorem dX8_findLatest_60 : decode cX8_findLatest 60 = .ok (.getfield 70, 3) := by decide +kernel
theorem dX8_findLatest_63 : decode cX8_findLatest 63 = .ok (.if_icmp .ge 26, 3) := by decide +kernel
theorem dX8_findLatest_66 : decode cX8_findLatest 66 = .ok (.aload_n 0, 1) := by decide +kernel
theorem dX8_findLatest_67 : decode cX8_findLatest 67 = .ok (.getfield 28, 3) := by decide +kernel
theorem dX8_findLatest_70 : decode cX8_findLatest 70 = .ok (.iload_n 3, 1) := by decide +kernel
theorem dX8_findLatest_71 : decode cX8_findLatest 71 = .ok (.invokestatic 74, 3) := by decide +kernel
theorem dX8_findLatest_74 : decode cX8_findLatest 74 = .ok (.ifCond .eq 9, 3) := by decide +kernel
theorem dX8_findLatest_83 : decode cX8_findLatest 83 = .ok (.iinc 3 1, 3) := by decide +kernel
theorem dX8_findLatest_86 : decode cX8_findLatest 86 = .ok (.goto (-28), 3) := by decide +kernel
theorem dX8_findLatest_77 : decode cX8_findLatest 77 = .ok (.aload_n 0, 1) := by decide +kernel
theorem dX8_findLatest_78 : decode cX8_findLatest 78 = .ok (.aload_n 1, 1) := by decide +kernel
theorem dX8_findLatest_79 : decode cX8_findLatest 79 = .ok (.iload_n 3, 1) := by decide +kernel
theorem dX8_findLatest_80 : decode cX8_findLatest 80 = .ok (.invokevirtual 147, 3) := by decide +kernel
theorem dX8_findLatest_89 : decode cX8_findLatest 89 = .ok (.iinc 2 1, 3) := by decide +kernel
theorem dX8_findLatest_92 : decode cX8_findLatest 92 = .ok (.goto (-54), 3) := by decide +kernel
theorem dX8_findLatest_95 : decode cX8_findLatest 95 = .ok (.return_, 1) := by decide +kernel
end
section
theorem cd_X8_leansOnLost : Cond.code yX8_leansOnLost cX8_leansOnLost 5 (some .boolean) ∈ pWW := pw6 (List.mem_of_getElem? (i := 16) rfl) rfl
abbrev m_X8_leansOnLost : MT := (yX8_leansOnLost, cX8_leansOnLost, 5, (some .boolean))
theorem ok_X8_leansOnLost : pOk m_X8_leansOnLost := ⟨⟨cd_X8_leansOnLost, ini_8⟩, by decide +kernel, ⟨by decide +kernel, by decide +kernel⟩, Nat.le_of_ble_eq_true rfl⟩
theorem np_X8_leansOnLost : (parseMethodDescriptor yX8_leansOnLost.desc).map (fun d => d.parameters.length) = some 3 := by decide +kernel
theorem im_X8_leansOnLost : Cond.instanceMethod yX8_leansOnLost ∈ pWW := pw6 (List.mem_of_getElem? (i := 15) rfl) rfl
theorem se_X8_leansOnLost : Cond.selects RX8 yX8_leansOnLost yX8_leansOnLost ∈ pWW := pws (List.mem_map.mpr ⟨_, lw_pin 83 rfl, rfl⟩) rfl
theorem ml8_166 : Cond.methodLink RX8 166 yX1_get ∈ pWW := pw6 (List.mem_of_getElem? (i := 17) rfl) rfl
theorem ml8_169 : Cond.methodLink RX8 169 yX1_leansOn ∈ pWW := pw6 (List.mem_of_getElem? (i := 18) rfl) rfl
theorem dX8_leansOnLost_0 : decode cX8_leansOnLost 0 = .ok (.aload_n 1, 1) := by decide +kernel
theorem dX8_leansOnLost_1 : decode cX8_leansOnLost 1 = .ok (.iload_n 2, 1) := by decide +kernel
theorem dX8_leansOnLost_2 : decode cX8_leansOnLost 2 = .ok (.iconst 0, 1) := by decide +kernel
theorem dX8_leansOnLost_3 : decode cX8_leansOnLost 3 = .ok (.invokevirtual 166, 3) := by decide +kernel
theorem dX8_leansOnLost_6 : decode cX8_leansOnLost 6 = .ok (.bipush 12, 2) := by decide +kernel
theorem dX8_leansOnLost_8 : decode cX8_leansOnLost 8 = .ok (.if_icmp .ne 15, 3) := by decide +kernel
theorem dX8_leansOnLost_23 : decode cX8_leansOnLost 23 = .ok (.iconst 0, 1) := by decide +kernel
theorem dX8_leansOnLost_24 : decode cX8_leansOnLost 24 = .ok (.ireturn, 1) := by decide +kernel
theorem dX8_leansOnLost_11 : decode cX8_leansOnLost 11 = .ok (.aload_n 1, 1) := by decide +kernel
theorem dX8_leansOnLost_12 : decode cX8_leansOnLost 12 = .ok (.iload_n 2, 1) := by decide +kernel
theorem dX8_leansOnLost_13 : decode cX8_leansOnLost 13 = .ok (.bipush 11, 2) := by decide +kernel
theorem dX8_leansOnLost_15 : decode cX8_leansOnLost 15 = .ok (.invokevirtual 166, 3) := by decide +kernel
theorem dX8_leansOnLost_18 : decode cX8_leansOnLost 18 = .ok (.bipush 10, 2) := by decide +kernel
theorem dX8_leansOnLost_20 : decode cX8_leansOnLost 20 = .ok (.if_icmp .lt 5, 3) := by decide +kernel
theorem dX8_leansOnLost_25 : decode cX8_leansOnLost 25 = .ok (.iconst 0, 1) := by decide +kernel
theorem dX8_leansOnLost_26 : decode cX8_leansOnLost 26 = .ok (.istore 4, 2) := by decide +kernel
theorem dX8_leansOnLost_28 : decode cX8_leansOnLost 28 = .ok (.iload 4, 2) := by decide +kernel
theorem dX8_leansOnLost_30 : decode cX8_leansOnLost 30 = .ok (.iload_n 3, 1) := by decide +kernel
theorem dX8_leansOnLost_31 : decode cX8_leansOnLost 31 = .ok (.if_icmp .ge 34, 3) := by decide +kernel
theorem dX8_leansOnLost_34 : decode cX8_leansOnLost 34 = .ok (.aload_n 1, 1) := by decide +kernel
theorem dX8_leansOnLost_35 : decode cX8_leansOnLost 35 = .ok (.iload_n 2, 1) := by decide +kernel
theorem dX8_leansOnLost_36 : decode cX8_leansOnLost 36 = .ok (.iload 4, 2) := by decide +kernel
theorem dX8_leansOnLost_38 : decode cX8_leansOnLost 38 = .ok (.invokevirtual 169, 3) := by decide +kernel
theorem dX8_leansOnLost_41 : decode cX8_leansOnLost 41 = .ok (.ifCond .eq 18, 3) := by decide +kernel
theorem dX8_leansOnLost_59 : decode cX8_leansOnLost 59 = .ok (.iinc 4 1, 3) := by decide +kernel
theorem dX8_leansOnLost_62 : decode cX8_leansOnLost 62 = .ok (.goto (-34), 3) := by decide +kernel
theorem dX8_leansOnLost_44 : decode cX8_leansOnLost 44 = .ok (.aload_n 0, 1) := by decide +kernel
theorem dX8_leansOnLost_45 : decode cX8_leansOnLost 45 = .ok (.getfield 25, 3) := by decide +kernel
theorem dX8_leansOnLost_48 : decode cX8_leansOnLost 48 = .ok (.iload_n 2, 1) := by decide +kernel
theorem dX8_leansOnLost_49 : decode cX8_leansOnLost 49 = .ok (.iload 4, 2) := by decide +kernel
theorem dX8_leansOnLost_51 : decode cX8_leansOnLost 51 = .ok (.invokestatic 112, 3) := by decide +kernel
theorem dX8_leansOnLost_54 : decode cX8_leansOnLost 54 = .ok (.ifCond .ne 5, 3) := by decide +kernel
theorem dX8_leansOnLost_57 : decode cX8_leansOnLost 57 = .ok (.iconst 1, 1) := by decide +kernel
theorem dX8_leansOnLost_58 : decode cX8_leansOnLost 58 = .ok (.ireturn, 1) := by decide +kernel
theorem dX8_leansOnLost_65 : decode cX8_leansOnLost 65 = .ok (.iconst 0, 1) := by decide +kernel
theorem dX8_leansOnLost_66 : decode cX8_leansOnLost 66 = .ok (.ireturn, 1) := by decide +kernel
end
section
theorem cd_X8_renumber : Cond.code yX8_renumber cX8_renumber 5 none ∈ pWW := pw6 (List.mem_of_getElem? (i := 23) rfl) rfl
abbrev m_X8_renumber : MT := (yX8_renumber, cX8_renumber, 5, none)
theorem ok_X8_renumber : pOk m_X8_renumber := ⟨⟨cd_X8_renumber, ini_8⟩, by decide +kernel, ⟨by decide +kernel, by decide +kernel⟩, Nat.le_of_ble_eq_true rfl⟩
theorem np_X8_renumber : (parseMethodDescriptor yX8_renumber.desc).map (fun d => d.parameters.length) = some 1 := by decide +kernel
theorem im_X8_renumber : Cond.instanceMethod yX8_renumber ∈ pWW := pw6 (List.mem_of_getElem? (i := 22) rfl) rfl
theorem se_X8_renumber : Cond.selects RX8 yX8_renumber yX8_renumber ∈ pWW := pws (List.mem_map.mpr ⟨_, lw_pin 84 rfl, rfl⟩) rfl
theorem fl8_172 : Cond.fieldLink RX8 172 (TX1 5).1 (TX1 5).2.1 (TX1 5).2.2.1 ∈ pWW := pw1 (List.mem_of_getElem? (i := 106) rfl) rfl
theorem fl8_175 : Cond.fieldLink RX8 175 (TX1 10).1 (TX1 10).2.1 (TX1 10).2.2.1 ∈ pWW := pw1 (List.mem_of_getElem? (i := 126) rfl) rfl
theorem dX8_renumber_0 : decode cX8_renumber 0 = .ok (.iconst 0, 1) := by decide +kernel
theorem dX8_renumber_1 : decode cX8_renumber 1 = .ok (.istore_n 2, 1) := by decide +kernel
theorem dX8_renumber_2 : decode cX8_renumber 2 = .ok (.iload_n 2, 1) := by decide +kernel
theorem dX8_renumber_3 : decode cX8_renumber 3 = .ok (.aload_n 1, 1) := by decide +kernel
theorem dX8_renumber_4 : decode cX8_renumber 4 = .ok (.getfield 172, 3) := by decide +kernel
theorem dX8_renumber_7 : decode cX8_renumber 7 = .ok (.bipush 12, 2) := by decide +kernel
theorem dX8_renumber_9 : decode cX8_renumber 9 = .ok (.imul, 1) := by decide +kernel
theorem dX8_renumber_10 : decode cX8_renumber 10 = .ok (.if_icmp .ge 32, 3) := by decide +kernel
theorem dX8_renumber_13 : decode cX8_renumber 13 = .ok (.aload_n 1, 1) := by decide +kernel
theorem dX8_renumber_14 : decode cX8_renumber 14 = .ok (.getfield 175, 3) := by decide +kernel
theorem dX8_renumber_17 : decode cX8_renumber 17 = .ok (.iload_n 2, 1) := by decide +kernel
theorem dX8_renumber_18 : decode cX8_renumber 18 = .ok (.aload_n 0, 1) := by decide +kernel
theorem dX8_renumber_19 : decode cX8_renumber 19 = .ok (.getfield 18, 3) := by decide +kernel
theorem dX8_renumber_22 : decode cX8_renumber 22 = .ok (.aload_n 1, 1) := by decide +kernel
theorem dX8_renumber_23 : decode cX8_renumber 23 = .ok (.getfield 175, 3) := by decide +kernel
theorem dX8_renumber_26 : decode cX8_renumber 26 = .ok (.iload_n 2, 1) := by decide +kernel
theorem dX8_renumber_27 : decode cX8_renumber 27 = .ok (.invokestatic 74, 3) := by decide +kernel
theorem dX8_renumber_30 : decode cX8_renumber 30 = .ok (.invokestatic 74, 3) := by decide +kernel
theorem dX8_renumber_33 : decode cX8_renumber 33 = .ok (.invokestatic 128, 3) := by decide +kernel
theorem dX8_renumber_36 : decode cX8_renumber 36 = .ok (.iinc 2 1, 3) := by decide +kernel
theorem dX8_renumber_39 : decode cX8_renumber 39 = .ok (.goto (-37), 3) := by decide +kernel
theorem ml8_178 : Cond.methodLink RX8 178 yX1_set ∈ pWW := pw6 (List.mem_of_getElem? (i := 24) rfl) rfl
theorem dX8_renumber_42 : decode cX8_renumber 42 = .ok (.iconst 0, 1) := by decide +kernel
theorem dX8_renumber_43 : decode cX8_renumber 43 = .ok (.istore_n 2, 1) := by decide +kernel
theorem dX8_renumber_44 : decode cX8_renumber 44 = .ok (.iload_n 2, 1) := by decide +kernel
theorem dX8_renumber_45 : decode cX8_renumber 45 = .ok (.aload_n 1, 1) := by decide +kernel
theorem dX8_renumber_46 : decode cX8_renumber 46 = .ok (.getfield 70, 3) := by decide +kernel
theorem dX8_renumber_49 : decode cX8_renumber 49 = .ok (.if_icmp .ge 127, 3) := by decide +kernel
theorem dX8_renumber_52 : decode cX8_renumber 52 = .ok (.aload_n 1, 1) := by decide +kernel
theorem dX8_renumber_53 : decode cX8_renumber 53 = .ok (.iload_n 2, 1) := by decide +kernel
theorem dX8_renumber_54 : decode cX8_renumber 54 = .ok (.invokevirtual 120, 3) := by decide +kernel
theorem dX8_renumber_57 : decode cX8_renumber 57 = .ok (.istore_n 3, 1) := by decide +kernel
theorem dX8_renumber_58 : decode cX8_renumber 58 = .ok (.iload_n 3, 1) := by decide +kernel
theorem dX8_renumber_59 : decode cX8_renumber 59 = .ok (.iconst (-1), 1) := by decide +kernel
theorem dX8_renumber_60 : decode cX8_renumber 60 = .ok (.if_icmp .eq 17, 3) := by decide +kernel
theorem dX8_renumber_77 : decode cX8_renumber 77 = .ok (.aload_n 1, 1) := by decide +kernel
theorem dX8_renumber_78 : decode cX8_renumber 78 = .ok (.iload_n 2, 1) := by decide +kernel
theorem dX8_renumber_79 : decode cX8_renumber 79 = .ok (.iconst 0, 1) := by decide +kernel
theorem dX8_renumber_80 : decode cX8_renumber 80 = .ok (.invokevirtual 166, 3) := by decide +kernel
theorem dX8_renumber_83 : decode cX8_renumber 83 = .ok (.bipush 12, 2) := by decide +kernel
theorem dX8_renumber_85 : decode cX8_renumber 85 = .ok (.if_icmp .ne 33, 3) := by decide +kernel
theorem dX8_renumber_118 : decode cX8_renumber 118 = .ok (.iconst 3, 1) := by decide +kernel
theorem dX8_renumber_119 : decode cX8_renumber 119 = .ok (.istore 4, 2) := by decide +kernel
theorem dX8_renumber_121 : decode cX8_renumber 121 = .ok (.iload 4, 2) := by decide +kernel
theorem dX8_renumber_123 : decode cX8_renumber 123 = .ok (.bipush 11, 2) := by decide +kernel
theorem dX8_renumber_125 : decode cX8_renumber 125 = .ok (.if_icmp .ge 45, 3) := by decide +kernel
theorem dX8_renumber_128 : decode cX8_renumber 128 = .ok (.aload_n 1, 1) := by decide +kernel
theorem dX8_renumber_129 : decode cX8_renumber 129 = .ok (.iload_n 2, 1) := by decide +kernel
theorem dX8_renumber_130 : decode cX8_renumber 130 = .ok (.iload 4, 2) := by decide +kernel
theorem dX8_renumber_132 : decode cX8_renumber 132 = .ok (.invokevirtual 166, 3) := by decide +kernel
theorem dX8_renumber_135 : decode cX8_renumber 135 = .ok (.iconst 2, 1) := by decide +kernel
theorem dX8_renumber_136 : decode cX8_renumber 136 = .ok (.if_icmp .ne 28, 3) := by decide +kernel
theorem dX8_renumber_164 : decode cX8_renumber 164 = .ok (.iinc 4 2, 3) := by decide +kernel
theorem dX8_renumber_167 : decode cX8_renumber 167 = .ok (.goto (-46), 3) := by decide +kernel
theorem dX8_renumber_139 : decode cX8_renumber 139 = .ok (.aload_n 1, 1) := by decide +kernel
theorem dX8_renumber_140 : decode cX8_renumber 140 = .ok (.iload_n 2, 1) := by decide +kernel
theorem dX8_renumber_141 : decode cX8_renumber 141 = .ok (.iload 4, 2) := by decide +kernel
theorem dX8_renumber_143 : decode cX8_renumber 143 = .ok (.iconst 1, 1) := by decide +kernel
theorem dX8_renumber_144 : decode cX8_renumber 144 = .ok (.iadd, 1) := by decide +kernel
theorem dX8_renumber_145 : decode cX8_renumber 145 = .ok (.aload_n 0, 1) := by decide +kernel
theorem dX8_renumber_146 : decode cX8_renumber 146 = .ok (.getfield 18, 3) := by decide +kernel
theorem dX8_renumber_149 : decode cX8_renumber 149 = .ok (.aload_n 1, 1) := by decide +kernel
theorem dX8_renumber_150 : decode cX8_renumber 150 = .ok (.iload_n 2, 1) := by decide +kernel
theorem dX8_renumber_151 : decode cX8_renumber 151 = .ok (.iload 4, 2) := by decide +kernel
theorem dX8_renumber_153 : decode cX8_renumber 153 = .ok (.iconst 1, 1) := by decide +kernel
theorem dX8_renumber_154 : decode cX8_renumber 154 = .ok (.iadd, 1) := by decide +kernel
theorem dX8_renumber_155 : decode cX8_renumber 155 = .ok (.invokevirtual 166, 3) := by decide +kernel
theorem dX8_renumber_158 : decode cX8_renumber 158 = .ok (.invokestatic 74, 3) := by decide +kernel
theorem dX8_renumber_161 : decode cX8_renumber 161 = .ok (.invokevirtual 178, 3) := by decide +kernel
theorem dX8_renumber_170 : decode cX8_renumber 170 = .ok (.iinc 2 1, 3) := by decide +kernel
theorem dX8_renumber_173 : decode cX8_renumber 173 = .ok (.goto (-129), 3) := by decide +kernel
theorem dX8_renumber_88 : decode cX8_renumber 88 = .ok (.aload_n 1, 1) := by decide +kernel
theorem dX8_renumber_89 : decode cX8_renumber 89 = .ok (.iload_n 2, 1) := by decide +kernel
theorem dX8_renumber_90 : decode cX8_renumber 90 = .ok (.bipush 11, 2) := by decide +kernel
theorem dX8_renumber_92 : decode cX8_renumber 92 = .ok (.invokevirtual 166, 3) := by decide +kernel
theorem dX8_renumber_95 : decode cX8_renumber 95 = .ok (.iconst 2, 1) := by decide +kernel
theorem dX8_renumber_96 : decode cX8_renumber 96 = .ok (.if_icmp .ne 22, 3) := by decide +kernel
theorem dX8_renumber_99 : decode cX8_renumber 99 = .ok (.aload_n 1, 1) := by decide +kernel
theorem dX8_renumber_100 : decode cX8_renumber 100 = .ok (.iload_n 2, 1) := by decide +kernel
theorem dX8_renumber_101 : decode cX8_renumber 101 = .ok (.iconst 4, 1) := by decide +kernel
theorem dX8_renumber_102 : decode cX8_renumber 102 = .ok (.aload_n 0, 1) := by decide +kernel
theorem dX8_renumber_103 : decode cX8_renumber 103 = .ok (.getfield 18, 3) := by decide +kernel
theorem dX8_renumber_106 : decode cX8_renumber 106 = .ok (.aload_n 1, 1) := by decide +kernel
theorem dX8_renumber_107 : decode cX8_renumber 107 = .ok (.iload_n 2, 1) := by decide +kernel
theorem dX8_renumber_108 : decode cX8_renumber 108 = .ok (.iconst 4, 1) := by decide +kernel
theorem dX8_renumber_109 : decode cX8_renumber 109 = .ok (.invokevirtual 166, 3) := by decide +kernel
theorem dX8_renumber_112 : decode cX8_renumber 112 = .ok (.invokestatic 74, 3) := by decide +kernel
theorem dX8_renumber_115 : decode cX8_renumber 115 = .ok (.invokevirtual 178, 3) := by decide +kernel
theorem dX8_renumber_63 : decode cX8_renumber 63 = .ok (.aload_n 1, 1) := by decide +kernel
theorem dX8_renumber_64 : decode cX8_renumber 64 = .ok (.iload_n 2, 1) := by decide +kernel
theorem dX8_renumber_65 : decode cX8_renumber 65 = .ok (.iconst 1, 1) := by decide +kernel
theorem dX8_renumber_66 : decode cX8_renumber 66 = .ok (.aload_n 0, 1) := by decide +kernel
theorem dX8_renumber_67 : decode cX8_renumber 67 = .ok (.getfield 18, 3) := by decide +kernel
theorem dX8_renumber_70 : decode cX8_renumber 70 = .ok (.iload_n 3, 1) := by decide +kernel
theorem dX8_renumber_71 : decode cX8_renumber 71 = .ok (.invokestatic 74, 3) := by decide +kernel
theorem dX8_renumber_74 : decode cX8_renumber 74 = .ok (.invokevirtual 178, 3) := by decide +kernel
theorem dX8_renumber_176 : decode cX8_renumber 176 = .ok (.return_, 1) := by decide +kernel
end
section
theorem cd_X8_share : Cond.code yX8_share cX8_share 4 (some .int) ∈ pWW := pw5 (List.mem_of_getElem? (i := 202) rfl) rfl
abbrev m_X8_share : MT := (yX8_share, cX8_share, 4, (some .int))
theorem ok_X8_share : pOk m_X8_share := ⟨⟨cd_X8_share, ini_8⟩, by decide +kernel, ⟨by decide +kernel, by decide +kernel⟩, Nat.le_of_ble_eq_true rfl⟩
theorem np_X8_share : (parseMethodDescriptor yX8_share.desc).map (fun d => d.parameters.length) = some 1 := by decide +kernel
theorem im_X8_share : Cond.instanceMethod yX8_share ∈ pWW := pw5 (List.mem_of_getElem? (i := 200) rfl) rfl
theorem se_X8_share : Cond.selects RX8 yX8_share yX8_share ∈ pWW := pw5 (List.mem_of_getElem? (i := 201) rfl) rfl
theorem ml8_38 : Cond.methodLink RX8 38 yX3_findLiving ∈ pWW := pw5 (List.mem_of_getElem? (i := 203) rfl) rfl
theorem ml8_44 : Cond.methodLink RX8 44 yX1_registers ∈ pWW := pw5 (List.mem_of_getElem? (i := 204) rfl) rfl
theorem mlm8_50 : Cond.methodLink RX8 50 Lib.Math.min.name ∈ pWW := pw5 (List.mem_of_getElem? (i := 205) rfl) rfl
theorem ml8_56 : Cond.methodLink RX8 56 yX8_findFirst ∈ pWW := pw5 (List.mem_of_getElem? (i := 206) rfl) rfl
theorem ml8_59 : Cond.methodLink RX8 59 yX8_findOdds ∈ pWW := pw5 (List.mem_of_getElem? (i := 213) rfl) rfl
theorem ml8_63 : Cond.methodLink RX8 63 yX8_numberAnew ∈ pWW := pw5 (List.mem_of_getElem? (i := 224) rfl) rfl
theorem ml8_67 : Cond.methodLink RX8 67 yX8_findLatest ∈ pWW := pw5 (List.mem_of_getElem? (i := 234) rfl) rfl
theorem ml8_78 : Cond.methodLink RX8 78 yX8_leansOnLost ∈ pWW := pw6 (List.mem_of_getElem? (i := 13) rfl) rfl
theorem ml8_82 : Cond.methodLink RX8 82 yX1_setWhere ∈ pWW := pw6 (List.mem_of_getElem? (i := 19) rfl) rfl
theorem dX8_share_0 : decode cX8_share 0 = .ok (.aload_n 0, 1) := by decide +kernel
theorem dX8_share_1 : decode cX8_share 1 = .ok (.getfield 34, 3) := by decide +kernel
theorem dX8_share_4 : decode cX8_share 4 = .ok (.aload_n 1, 1) := by decide +kernel
theorem dX8_share_5 : decode cX8_share 5 = .ok (.invokevirtual 38, 3) := by decide +kernel
theorem dX8_share_8 : decode cX8_share 8 = .ok (.aload_n 1, 1) := by decide +kernel
theorem dX8_share_9 : decode cX8_share 9 = .ok (.invokevirtual 44, 3) := by decide +kernel
theorem dX8_share_12 : decode cX8_share 12 = .ok (.sipush 192, 3) := by decide +kernel
theorem dX8_share_15 : decode cX8_share 15 = .ok (.invokestatic 50, 3) := by decide +kernel
theorem dX8_share_18 : decode cX8_share 18 = .ok (.istore_n 2, 1) := by decide +kernel
theorem dX8_share_19 : decode cX8_share 19 = .ok (.aload_n 0, 1) := by decide +kernel
theorem dX8_share_20 : decode cX8_share 20 = .ok (.aload_n 1, 1) := by decide +kernel
theorem dX8_share_21 : decode cX8_share 21 = .ok (.invokevirtual 56, 3) := by decide +kernel
theorem dX8_share_24 : decode cX8_share 24 = .ok (.aload_n 0, 1) := by decide +kernel
theorem dX8_share_25 : decode cX8_share 25 = .ok (.aload_n 1, 1) := by decide +kernel
theorem dX8_share_26 : decode cX8_share 26 = .ok (.iload_n 2, 1) := by decide +kernel
theorem dX8_share_27 : decode cX8_share 27 = .ok (.invokevirtual 59, 3) := by decide +kernel
theorem dX8_share_30 : decode cX8_share 30 = .ok (.aload_n 0, 1) := by decide +kernel
theorem dX8_share_31 : decode cX8_share 31 = .ok (.iload_n 2, 1) := by decide +kernel
theorem dX8_share_32 : decode cX8_share 32 = .ok (.invokevirtual 63, 3) := by decide +kernel
theorem dX8_share_35 : decode cX8_share 35 = .ok (.aload_n 0, 1) := by decide +kernel
theorem dX8_share_36 : decode cX8_share 36 = .ok (.aload_n 1, 1) := by decide +kernel
theorem dX8_share_37 : decode cX8_share 37 = .ok (.invokevirtual 67, 3) := by decide +kernel
theorem dX8_share_40 : decode cX8_share 40 = .ok (.iconst 0, 1) := by decide +kernel
theorem dX8_share_41 : decode cX8_share 41 = .ok (.istore_n 3, 1) := by decide +kernel
theorem dX8_share_42 : decode cX8_share 42 = .ok (.iload_n 3, 1) := by decide +kernel
theorem dX8_share_43 : decode cX8_share 43 = .ok (.aload_n 1, 1) := by decide +kernel
theorem dX8_share_44 : decode cX8_share 44 = .ok (.getfield 70, 3) := by decide +kernel
theorem dX8_share_47 : decode cX8_share 47 = .ok (.if_icmp .ge 38, 3) := by decide +kernel
theorem dX8_share_50 : decode cX8_share 50 = .ok (.aload_n 0, 1) := by decide +kernel
theorem dX8_share_51 : decode cX8_share 51 = .ok (.getfield 28, 3) := by decide +kernel
theorem dX8_share_54 : decode cX8_share 54 = .ok (.iload_n 3, 1) := by decide +kernel
theorem dX8_share_55 : decode cX8_share 55 = .ok (.invokestatic 74, 3) := by decide +kernel
theorem dX8_share_58 : decode cX8_share 58 = .ok (.ifCond .eq 21, 3) := by decide +kernel
theorem dX8_share_79 : decode cX8_share 79 = .ok (.iinc 3 1, 3) := by decide +kernel
theorem dX8_share_82 : decode cX8_share 82 = .ok (.goto (-40), 3) := by decide +kernel
theorem dX8_share_61 : decode cX8_share 61 = .ok (.aload_n 0, 1) := by decide +kernel
theorem dX8_share_62 : decode cX8_share 62 = .ok (.aload_n 1, 1) := by decide +kernel
theorem dX8_share_63 : decode cX8_share 63 = .ok (.iload_n 3, 1) := by decide +kernel
theorem dX8_share_64 : decode cX8_share 64 = .ok (.iload_n 2, 1) := by decide +kernel
theorem dX8_share_65 : decode cX8_share 65 = .ok (.invokevirtual 78, 3) := by decide +kernel
theorem dX8_share_68 : decode cX8_share 68 = .ok (.ifCond .eq 11, 3) := by decide +kernel
theorem dX8_share_71 : decode cX8_share 71 = .ok (.aload_n 1, 1) := by decide +kernel
theorem dX8_share_72 : decode cX8_share 72 = .ok (.iload_n 3, 1) := by decide +kernel
theorem dX8_share_73 : decode cX8_share 73 = .ok (.bipush 13, 2) := by decide +kernel
theorem dX8_share_75 : decode cX8_share 75 = .ok (.iconst 0, 1) := by decide +kernel
theorem dX8_share_76 : decode cX8_share 76 = .ok (.invokevirtual 82, 3) := by decide +kernel
theorem ml8_86 : Cond.methodLink RX8 86 yX8_renumber ∈ pWW := pw6 (List.mem_of_getElem? (i := 20) rfl) rfl
theorem dX8_share_85 : decode cX8_share 85 = .ok (.aload_n 0, 1) := by decide +kernel
theorem dX8_share_86 : decode cX8_share 86 = .ok (.aload_n 1, 1) := by decide +kernel
theorem dX8_share_87 : decode cX8_share 87 = .ok (.invokevirtual 86, 3) := by decide +kernel
theorem dX8_share_90 : decode cX8_share 90 = .ok (.aload_n 1, 1) := by decide +kernel
theorem dX8_share_91 : decode cX8_share 91 = .ok (.invokevirtual 44, 3) := by decide +kernel
theorem dX8_share_94 : decode cX8_share 94 = .ok (.ireturn, 1) := by decide +kernel
end
section
theorem vok_12 {i v : Int} (hv : -2147483648 ≤ v ∧ v ≤ 2147483647) (h : i = 1200 → v = 0 ∨ v = 263 ∨ v = 264) : VOK 12 i v := ⟨hv, fun e => by omega, fun _ => h, fun e => by omega, fun e => by omega⟩
def TKI (σ : MS) (t : Nat) : Prop := σ.2.1 84 t = 1200 → σ.2.1 85 t = 0 ∨ σ.2.1 85 t = 263 ∨ σ.2.1 85 t = 264
def ADV (σ τ : MS) (t : Nat) : Prop := σ.2.1 85 t ≠ 0 → σ.2.1 85 t ≠ 263 → σ.2.1 85 t ≠ 264 → τ.2.1 84 t = σ.2.1 84 t + 1
def CAT (r v : Int) : Prop := (0 ≤ v ∧ 0 ≤ r ∧ r ≤ 5) ∨ (v < 0 ∧ (r < 0 ∨ 5 < r))
def FRV (T : CT) (σ : MS) (a : Nat) : Int := ATV T σ (σ.2.1 59 a).toNat (σ.2.1 70 a)
theorem frv_of {T : CT} {σ : MS} {a x : Nat} {v i : Int} (hx : σ.2.1 59 a = (x : Int)) (hi : σ.2.1 70 a = i) (hv : v = ATV T σ x i) : v = FRV T σ a := by
  unfold FRV; rw [hx, hi]; exact hv
theorem FRV.keep {T T2 : CT} {σ τ : MS} {a : Nat} {ks : List Nat} (hw : WT T σ) (ha : OB T a 7) (g : GT T T2) (f : FrC T ks σ τ) (h1 : 59 ∉ ks) (h2 : 70 ∉ ks) (h3 : 515 ∉ ks) : FRV T2 τ a = FRV T σ a := by
  obtain ⟨x, hx, hk, -⟩ := wf_59 hw ha
  unfold FRV
  rw [f.1 59 (by omega) h1, f.1 70 (by omega) h2, hx]
  show ATV T2 τ x _ = ATV T σ x _
  unfold ATV
  rw [g x (by omega) (by omega), f.2 x (by rw [hk]; unfold HT; omega) (by rw [hk]; exact h3)]
theorem RC.ob {T : CT} {a x : Nat} (h : RC T a x) : OB T x 1 := by
  by_cases q : (T a).1 = 57
  · have w := h.1 q; exact ⟨by omega, by rw [w]; rfl, by omega⟩
  · have w := h.2 q; exact ⟨by omega, by rw [w]; rfl, by omega⟩
def PIv (σ : MS) (a : Nat) : Prop := σ.2.1 56 a = 1 → σ.2.1 58 a = σ.2.1 57 a + 1
def FA (a : Nat) (σ τ : MS) : Prop := ∀ (k b : Nat), k < 200 → b ≠ a → τ.2.1 k (b : Int) = σ.2.1 k b
section FAS
variable {a k x : Nat} {σ τ υ : MS} {z v : Int}
theorem FA.rfl : FA a σ σ := fun _ _ _ _ => Eq.refl _
theorem FA.trans (h : FA a σ τ) (g : FA a τ υ) : FA a σ υ := fun k b p q => (g k b p q).trans (h k b p q)
theorem FA.put (h : FA a σ τ) : FA a σ (sA k a v τ) := fun j b p q => by rw [sA_ne (by omega)]; exact h j b p q
theorem FA.arr (h : FA a σ τ) : FA a σ (sA (1000 + x) z v τ) := fun j b p q => by rw [sA_k (by omega)]; exact h j b p q
theorem FA.row {f : Int → Int} (h : FA a σ τ) : FA a σ (rowS (1000 + x) f τ) := fun j b p q => by rw [rowS_ne (by omega)]; exact h j b p q
theorem FA.of {T : CT} {ks : List Nat} (h : FrC T ks σ τ) (hk : ∀ k ∈ ks, 200 ≤ k) : FA a σ τ := fun j b p q => by rw [h.1 j (Or.inl p) (fun w => by have := hk j w; omega)]
end FAS
def PB (σ : MS) (a : Nat) : Prop := ∀ p : Nat, σ.2.1 1 a = (p : Int) → PIv σ p
theorem PB.of {σ : MS} {a x : Nat} (hx : σ.2.1 1 a = (x : Int)) (h : PIv σ x) : PB σ a := fun p q => by
  have e : p = x := by omega
  rw [e]; exact h
theorem PIv.keep {σ τ : MS} {p b : Nat} (h : PIv σ p) (f : FA b σ τ) (hb : p ≠ b) : PIv τ p := by
  unfold PIv; rw [f 56 p (by decide) hb, f 57 p (by decide) hb, f 58 p (by decide) hb]; exact h
theorem PIv.frc {T : CT} {ks : List Nat} {σ τ : MS} {p : Nat} (h : PIv σ p) (f : FrC T ks σ τ) (h1 : 56 ∉ ks) (h2 : 57 ∉ ks) (h3 : 58 ∉ ks) : PIv τ p := by
  unfold PIv; rw [f.1 56 (by omega) h1, f.1 57 (by omega) h2, f.1 58 (by omega) h3]; exact h
theorem PB.frc {T : CT} {ks : List Nat} {σ τ : MS} {a : Nat} (h : PB σ a) (f : FrC T ks σ τ) (h0 : 1 ∉ ks) (h1 : 56 ∉ ks) (h2 : 57 ∉ ks) (h3 : 58 ∉ ks) : PB τ a := fun p q => (h p (by rw [← f.1 1 (by omega) h0]; exact q)).frc f h1 h2 h3
end
section
theorem cd_X9_wordKind : Cond.code yX9_wordKind cX9_wordKind 2 (some .int) ∈ pWW := pw3 (List.mem_of_getElem? (i := 42) rfl) rfl
theorem ini_9 : Cond.initialized RX9 ∈ pWW := pw1 (List.mem_of_getElem? (i := 3) rfl) rfl
abbrev m_X9_wordKind : MT := (yX9_wordKind, cX9_wordKind, 2, (some .int))
theorem ok_X9_wordKind : pOk m_X9_wordKind := ⟨⟨cd_X9_wordKind, ini_9⟩, by decide +kernel, ⟨by decide +kernel, by decide +kernel⟩, Nat.le_of_ble_eq_true rfl⟩
theorem np_X9_wordKind : (parseMethodDescriptor yX9_wordKind.desc).map (fun d => d.parameters.length) = some 0 := by decide +kernel
theorem im_X9_wordKind : Cond.instanceMethod yX9_wordKind ∈ pWW := pw3 (List.mem_of_getElem? (i := 41) rfl) rfl
theorem se_X9_wordKind : Cond.selects RX9 yX9_wordKind yX9_wordKind ∈ pWW := pws (List.mem_map.mpr ⟨_, lw_pin 2 rfl, rfl⟩) rfl
theorem fl9_66 : Cond.fieldLink RX9 66 "LineKeeper$Tokens" "WORD_KEYS" "[I" ∈ pWW := pw3 (List.mem_of_getElem? (i := 43) rfl) rfl
theorem fl9_55 : Cond.fieldLink RX9 55 (TX9 5).1 (TX9 5).2.1 (TX9 5).2.2.1 ∈ pWW := pw1 (List.mem_of_getElem? (i := 50) rfl) rfl
theorem dX9_wordKind_0 : decode cX9_wordKind 0 = .ok (.iconst 0, 1) := by decide +kernel
theorem dX9_wordKind_1 : decode cX9_wordKind 1 = .ok (.istore_n 1, 1) := by decide +kernel
theorem dX9_wordKind_2 : decode cX9_wordKind 2 = .ok (.iload_n 1, 1) := by decide +kernel
theorem dX9_wordKind_3 : decode cX9_wordKind 3 = .ok (.getstatic 66, 3) := by decide +kernel
theorem dX9_wordKind_6 : decode cX9_wordKind 6 = .ok (.arraylength, 1) := by decide +kernel
theorem dX9_wordKind_7 : decode cX9_wordKind 7 = .ok (.if_icmp .ge 27, 3) := by decide +kernel
theorem dX9_wordKind_10 : decode cX9_wordKind 10 = .ok (.getstatic 66, 3) := by decide +kernel
theorem dX9_wordKind_13 : decode cX9_wordKind 13 = .ok (.iload_n 1, 1) := by decide +kernel
theorem dX9_wordKind_14 : decode cX9_wordKind 14 = .ok (.iaload, 1) := by decide +kernel
theorem dX9_wordKind_15 : decode cX9_wordKind 15 = .ok (.aload_n 0, 1) := by decide +kernel
theorem dX9_wordKind_16 : decode cX9_wordKind 16 = .ok (.getfield 55, 3) := by decide +kernel
theorem dX9_wordKind_19 : decode cX9_wordKind 19 = .ok (.if_icmp .ne 9, 3) := by decide +kernel
theorem dX9_wordKind_28 : decode cX9_wordKind 28 = .ok (.iinc 1 1, 3) := by decide +kernel
theorem dX9_wordKind_31 : decode cX9_wordKind 31 = .ok (.goto (-29), 3) := by decide +kernel
theorem dX9_wordKind_22 : decode cX9_wordKind 22 = .ok (.sipush 258, 3) := by decide +kernel
theorem dX9_wordKind_25 : decode cX9_wordKind 25 = .ok (.iload_n 1, 1) := by decide +kernel
theorem dX9_wordKind_26 : decode cX9_wordKind 26 = .ok (.iadd, 1) := by decide +kernel
theorem dX9_wordKind_27 : decode cX9_wordKind 27 = .ok (.ireturn, 1) := by decide +kernel
theorem dX9_wordKind_34 : decode cX9_wordKind 34 = .ok (.sipush 256, 3) := by decide +kernel
theorem dX9_wordKind_37 : decode cX9_wordKind 37 = .ok (.ireturn, 1) := by decide +kernel
end
section
theorem cd_X9_isSign : Cond.code yX9_isSign cX9_isSign 2 (some .boolean) ∈ pWW := pw3 (List.mem_of_getElem? (i := 47) rfl) rfl
abbrev m_X9_isSign : MT := (yX9_isSign, cX9_isSign, 2, (some .boolean))
theorem ok_X9_isSign : pOk m_X9_isSign := ⟨⟨cd_X9_isSign, ini_9⟩, by decide +kernel, ⟨by decide +kernel, by decide +kernel⟩, Nat.le_of_ble_eq_true rfl⟩
theorem np_X9_isSign : (parseMethodDescriptor yX9_isSign.desc).map (fun d => d.parameters.length) = some 1 := by decide +kernel
theorem stt_X9_isSign : Cond.static yX9_isSign ∈ pWW := pw3 (List.mem_of_getElem? (i := 46) rfl) rfl
theorem fl9_69 : Cond.fieldLink RX9 69 "LineKeeper$Tokens" "SIGNS" "[C" ∈ pWW := pw3 (List.mem_of_getElem? (i := 48) rfl) rfl
theorem dX9_isSign_0 : decode cX9_isSign 0 = .ok (.iconst 0, 1) := by decide +kernel
theorem dX9_isSign_1 : decode cX9_isSign 1 = .ok (.istore_n 1, 1) := by decide +kernel
theorem dX9_isSign_2 : decode cX9_isSign 2 = .ok (.iload_n 1, 1) := by decide +kernel
theorem dX9_isSign_3 : decode cX9_isSign 3 = .ok (.getstatic 69, 3) := by decide +kernel
theorem dX9_isSign_6 : decode cX9_isSign 6 = .ok (.arraylength, 1) := by decide +kernel
theorem dX9_isSign_7 : decode cX9_isSign 7 = .ok (.if_icmp .ge 20, 3) := by decide +kernel
theorem dX9_isSign_10 : decode cX9_isSign 10 = .ok (.getstatic 69, 3) := by decide +kernel
theorem dX9_isSign_13 : decode cX9_isSign 13 = .ok (.iload_n 1, 1) := by decide +kernel
theorem dX9_isSign_14 : decode cX9_isSign 14 = .ok (.caload, 1) := by decide +kernel
theorem dX9_isSign_15 : decode cX9_isSign 15 = .ok (.iload_n 0, 1) := by decide +kernel
theorem dX9_isSign_16 : decode cX9_isSign 16 = .ok (.if_icmp .ne 5, 3) := by decide +kernel
theorem dX9_isSign_21 : decode cX9_isSign 21 = .ok (.iinc 1 1, 3) := by decide +kernel
theorem dX9_isSign_24 : decode cX9_isSign 24 = .ok (.goto (-22), 3) := by decide +kernel
theorem dX9_isSign_19 : decode cX9_isSign 19 = .ok (.iconst 1, 1) := by decide +kernel
theorem dX9_isSign_20 : decode cX9_isSign 20 = .ok (.ireturn, 1) := by decide +kernel
theorem dX9_isSign_27 : decode cX9_isSign 27 = .ok (.iconst 0, 1) := by decide +kernel
theorem dX9_isSign_28 : decode cX9_isSign 28 = .ok (.ireturn, 1) := by decide +kernel
end
section
theorem cd_X9_nextIs : Cond.code yX9_nextIs cX9_nextIs 2 (some .boolean) ∈ pWW := pw3 (List.mem_of_getElem? (i := 153) rfl) rfl
abbrev m_X9_nextIs : MT := (yX9_nextIs, cX9_nextIs, 2, (some .boolean))
theorem ok_X9_nextIs : pOk m_X9_nextIs := ⟨⟨cd_X9_nextIs, ini_9⟩, by decide +kernel, ⟨by decide +kernel, by decide +kernel⟩, Nat.le_of_ble_eq_true rfl⟩
theorem np_X9_nextIs : (parseMethodDescriptor yX9_nextIs.desc).map (fun d => d.parameters.length) = some 1 := by decide +kernel
theorem im_X9_nextIs : Cond.instanceMethod yX9_nextIs ∈ pWW := pw3 (List.mem_of_getElem? (i := 151) rfl) rfl
theorem se_X9_nextIs : Cond.selects RX9 yX9_nextIs yX9_nextIs ∈ pWW := pw3 (List.mem_of_getElem? (i := 152) rfl) rfl
theorem fl9_30 : Cond.fieldLink RX9 30 (TX9 4).1 (TX9 4).2.1 (TX9 4).2.2.1 ∈ pWW := pw1 (List.mem_of_getElem? (i := 48) rfl) rfl
theorem fl9_9 : Cond.fieldLink RX9 9 (TX9 0).1 (TX9 0).2.1 (TX9 0).2.2.1 ∈ pWW := pw1 (List.mem_of_getElem? (i := 44) rfl) rfl
theorem fl9_45 : Cond.fieldLink RX9 45 (TX9 3).1 (TX9 3).2.1 (TX9 3).2.2.1 ∈ pWW := pw1 (List.mem_of_getElem? (i := 47) rfl) rfl
theorem nl9_73 : (RX9, 73, yX11_at, "LineKeeper") ∈ nst_M := List.mem_of_getElem? (i := 10) rfl
theorem dX9_nextIs_0 : decode cX9_nextIs 0 = .ok (.aload_n 0, 1) := by decide +kernel
theorem dX9_nextIs_1 : decode cX9_nextIs 1 = .ok (.getfield 30, 3) := by decide +kernel
theorem dX9_nextIs_4 : decode cX9_nextIs 4 = .ok (.sipush 264, 3) := by decide +kernel
theorem dX9_nextIs_7 : decode cX9_nextIs 7 = .ok (.if_icmp .eq 34, 3) := by decide +kernel
theorem dX9_nextIs_41 : decode cX9_nextIs 41 = .ok (.iconst 0, 1) := by decide +kernel
theorem dX9_nextIs_42 : decode cX9_nextIs 42 = .ok (.ireturn, 1) := by decide +kernel
theorem dX9_nextIs_10 : decode cX9_nextIs 10 = .ok (.aload_n 0, 1) := by decide +kernel
theorem dX9_nextIs_11 : decode cX9_nextIs 11 = .ok (.getfield 30, 3) := by decide +kernel
theorem dX9_nextIs_14 : decode cX9_nextIs 14 = .ok (.sipush 263, 3) := by decide +kernel
theorem dX9_nextIs_17 : decode cX9_nextIs 17 = .ok (.if_icmp .eq 24, 3) := by decide +kernel
theorem dX9_nextIs_20 : decode cX9_nextIs 20 = .ok (.aload_n 0, 1) := by decide +kernel
theorem dX9_nextIs_21 : decode cX9_nextIs 21 = .ok (.getfield 9, 3) := by decide +kernel
theorem dX9_nextIs_24 : decode cX9_nextIs 24 = .ok (.aload_n 0, 1) := by decide +kernel
theorem dX9_nextIs_25 : decode cX9_nextIs 25 = .ok (.getfield 45, 3) := by decide +kernel
theorem dX9_nextIs_28 : decode cX9_nextIs 28 = .ok (.iconst 1, 1) := by decide +kernel
theorem dX9_nextIs_29 : decode cX9_nextIs 29 = .ok (.iadd, 1) := by decide +kernel
theorem dX9_nextIs_30 : decode cX9_nextIs 30 = .ok (.invokestatic 73, 3) := by decide +kernel
theorem dX9_nextIs_33 : decode cX9_nextIs 33 = .ok (.iload_n 1, 1) := by decide +kernel
theorem dX9_nextIs_34 : decode cX9_nextIs 34 = .ok (.if_icmp .ne 7, 3) := by decide +kernel
theorem dX9_nextIs_37 : decode cX9_nextIs 37 = .ok (.iconst 1, 1) := by decide +kernel
theorem dX9_nextIs_38 : decode cX9_nextIs 38 = .ok (.goto 4, 3) := by decide +kernel
end
section
theorem cd_X9_next : Cond.code yX9_next cX9_next 1 none ∈ pWW := pw3 (List.mem_of_getElem? (i := 60) rfl) rfl
abbrev m_X9_next : MT := (yX9_next, cX9_next, 1, none)
theorem ok_X9_next : pOk m_X9_next := ⟨⟨cd_X9_next, ini_9⟩, by decide +kernel, ⟨by decide +kernel, by decide +kernel⟩, Nat.le_of_ble_eq_true rfl⟩
theorem np_X9_next : (parseMethodDescriptor yX9_next.desc).map (fun d => d.parameters.length) = some 0 := by decide +kernel
theorem im_X9_next : Cond.instanceMethod yX9_next ∈ pWW := pw3 (List.mem_of_getElem? (i := 58) rfl) rfl
theorem se_X9_next : Cond.selects RX9 yX9_next yX9_next ∈ pWW := pw3 (List.mem_of_getElem? (i := 59) rfl) rfl
theorem fl9_15 : Cond.fieldLink RX9 15 (TX9 1).1 (TX9 1).2.1 (TX9 1).2.2.1 ∈ pWW := pw1 (List.mem_of_getElem? (i := 45) rfl) rfl
theorem fl9_18 : Cond.fieldLink RX9 18 (TX9 2).1 (TX9 2).2.1 (TX9 2).2.2.1 ∈ pWW := pw1 (List.mem_of_getElem? (i := 46) rfl) rfl
theorem fl9_34 : Cond.fieldLink RX9 34 (TX9 6).1 (TX9 6).2.1 (TX9 6).2.2.1 ∈ pWW := pw1 (List.mem_of_getElem? (i := 52) rfl) rfl
theorem dX9_next_0 : decode cX9_next 0 = .ok (.aload_n 0, 1) := by decide +kernel
theorem dX9_next_1 : decode cX9_next 1 = .ok (.getfield 45, 3) := by decide +kernel
theorem dX9_next_4 : decode cX9_next 4 = .ok (.iconst 1, 1) := by decide +kernel
theorem dX9_next_5 : decode cX9_next 5 = .ok (.iadd, 1) := by decide +kernel
theorem dX9_next_6 : decode cX9_next 6 = .ok (.aload_n 0, 1) := by decide +kernel
theorem dX9_next_7 : decode cX9_next 7 = .ok (.getfield 9, 3) := by decide +kernel
theorem dX9_next_10 : decode cX9_next 10 = .ok (.arraylength, 1) := by decide +kernel
theorem dX9_next_11 : decode cX9_next 11 = .ok (.if_icmp .ge 107, 3) := by decide +kernel
theorem dX9_next_118 : decode cX9_next 118 = .ok (.return_, 1) := by decide +kernel
theorem dX9_next_14 : decode cX9_next 14 = .ok (.aload_n 0, 1) := by decide +kernel
theorem dX9_next_15 : decode cX9_next 15 = .ok (.getfield 45, 3) := by decide +kernel
theorem dX9_next_18 : decode cX9_next 18 = .ok (.iconst 1, 1) := by decide +kernel
theorem dX9_next_19 : decode cX9_next 19 = .ok (.iadd, 1) := by decide +kernel
theorem dX9_next_20 : decode cX9_next 20 = .ok (.aload_n 0, 1) := by decide +kernel
theorem dX9_next_21 : decode cX9_next 21 = .ok (.getfield 15, 3) := by decide +kernel
theorem dX9_next_24 : decode cX9_next 24 = .ok (.arraylength, 1) := by decide +kernel
theorem dX9_next_25 : decode cX9_next 25 = .ok (.if_icmp .ge 93, 3) := by decide +kernel
theorem dX9_next_28 : decode cX9_next 28 = .ok (.aload_n 0, 1) := by decide +kernel
theorem dX9_next_29 : decode cX9_next 29 = .ok (.getfield 45, 3) := by decide +kernel
theorem dX9_next_32 : decode cX9_next 32 = .ok (.iconst 1, 1) := by decide +kernel
theorem dX9_next_33 : decode cX9_next 33 = .ok (.iadd, 1) := by decide +kernel
theorem dX9_next_34 : decode cX9_next 34 = .ok (.aload_n 0, 1) := by decide +kernel
theorem dX9_next_35 : decode cX9_next 35 = .ok (.getfield 18, 3) := by decide +kernel
theorem dX9_next_38 : decode cX9_next 38 = .ok (.arraylength, 1) := by decide +kernel
theorem dX9_next_39 : decode cX9_next 39 = .ok (.if_icmp .ge 79, 3) := by decide +kernel
theorem dX9_next_42 : decode cX9_next 42 = .ok (.aload_n 0, 1) := by decide +kernel
theorem dX9_next_43 : decode cX9_next 43 = .ok (.getfield 45, 3) := by decide +kernel
theorem dX9_next_46 : decode cX9_next 46 = .ok (.ifCond .lt 23, 3) := by decide +kernel
theorem dX9_next_69 : decode cX9_next 69 = .ok (.aload_n 0, 1) := by decide +kernel
theorem dX9_next_70 : decode cX9_next 70 = .ok (.dup, 1) := by decide +kernel
theorem dX9_next_71 : decode cX9_next 71 = .ok (.getfield 45, 3) := by decide +kernel
theorem dX9_next_74 : decode cX9_next 74 = .ok (.iconst 1, 1) := by decide +kernel
theorem dX9_next_75 : decode cX9_next 75 = .ok (.iadd, 1) := by decide +kernel
theorem dX9_next_76 : decode cX9_next 76 = .ok (.putfield 45, 3) := by decide +kernel
theorem dX9_next_79 : decode cX9_next 79 = .ok (.aload_n 0, 1) := by decide +kernel
theorem dX9_next_80 : decode cX9_next 80 = .ok (.aload_n 0, 1) := by decide +kernel
theorem dX9_next_81 : decode cX9_next 81 = .ok (.getfield 9, 3) := by decide +kernel
theorem dX9_next_84 : decode cX9_next 84 = .ok (.aload_n 0, 1) := by decide +kernel
theorem dX9_next_85 : decode cX9_next 85 = .ok (.getfield 45, 3) := by decide +kernel
theorem dX9_next_88 : decode cX9_next 88 = .ok (.iaload, 1) := by decide +kernel
theorem dX9_next_89 : decode cX9_next 89 = .ok (.putfield 30, 3) := by decide +kernel
theorem dX9_next_92 : decode cX9_next 92 = .ok (.aload_n 0, 1) := by decide +kernel
theorem dX9_next_93 : decode cX9_next 93 = .ok (.aload_n 0, 1) := by decide +kernel
theorem dX9_next_94 : decode cX9_next 94 = .ok (.getfield 15, 3) := by decide +kernel
theorem dX9_next_97 : decode cX9_next 97 = .ok (.aload_n 0, 1) := by decide +kernel
theorem dX9_next_98 : decode cX9_next 98 = .ok (.getfield 45, 3) := by decide +kernel
theorem dX9_next_101 : decode cX9_next 101 = .ok (.iaload, 1) := by decide +kernel
theorem dX9_next_102 : decode cX9_next 102 = .ok (.putfield 55, 3) := by decide +kernel
theorem dX9_next_105 : decode cX9_next 105 = .ok (.aload_n 0, 1) := by decide +kernel
theorem dX9_next_106 : decode cX9_next 106 = .ok (.aload_n 0, 1) := by decide +kernel
theorem dX9_next_107 : decode cX9_next 107 = .ok (.getfield 18, 3) := by decide +kernel
theorem dX9_next_110 : decode cX9_next 110 = .ok (.aload_n 0, 1) := by decide +kernel
theorem dX9_next_111 : decode cX9_next 111 = .ok (.getfield 45, 3) := by decide +kernel
theorem dX9_next_114 : decode cX9_next 114 = .ok (.iaload, 1) := by decide +kernel
theorem dX9_next_115 : decode cX9_next 115 = .ok (.putfield 34, 3) := by decide +kernel
theorem dX9_next_49 : decode cX9_next 49 = .ok (.aload_n 0, 1) := by decide +kernel
theorem dX9_next_50 : decode cX9_next 50 = .ok (.getfield 30, 3) := by decide +kernel
theorem dX9_next_53 : decode cX9_next 53 = .ok (.sipush 264, 3) := by decide +kernel
theorem dX9_next_56 : decode cX9_next 56 = .ok (.if_icmp .eq 62, 3) := by decide +kernel
theorem dX9_next_59 : decode cX9_next 59 = .ok (.aload_n 0, 1) := by decide +kernel
theorem dX9_next_60 : decode cX9_next 60 = .ok (.getfield 30, 3) := by decide +kernel
theorem dX9_next_63 : decode cX9_next 63 = .ok (.sipush 263, 3) := by decide +kernel
theorem dX9_next_66 : decode cX9_next 66 = .ok (.if_icmp .eq 52, 3) := by decide +kernel
end
section
theorem cd_X9_keep : Cond.code yX9_keep cX9_keep 2 none ∈ pWW := pw3 (List.mem_of_getElem? (i := 53) rfl) rfl
abbrev m_X9_keep : MT := (yX9_keep, cX9_keep, 2, none)
theorem ok_X9_keep : pOk m_X9_keep := ⟨⟨cd_X9_keep, ini_9⟩, by decide +kernel, ⟨by decide +kernel, by decide +kernel⟩, Nat.le_of_ble_eq_true rfl⟩
theorem np_X9_keep : (parseMethodDescriptor yX9_keep.desc).map (fun d => d.parameters.length) = some 1 := by decide +kernel
theorem im_X9_keep : Cond.instanceMethod yX9_keep ∈ pWW := pw3 (List.mem_of_getElem? (i := 52) rfl) rfl
theorem se_X9_keep : Cond.selects RX9 yX9_keep yX9_keep ∈ pWW := pws (List.mem_map.mpr ⟨_, lw_pin 3 rfl, rfl⟩) rfl
theorem nl9_51 : (RX9, 51, yX11_put, "LineKeeper") ∈ nst_M := List.mem_of_getElem? (i := 6) rfl
theorem dX9_keep_0 : decode cX9_keep 0 = .ok (.aload_n 0, 1) := by decide +kernel
theorem dX9_keep_1 : decode cX9_keep 1 = .ok (.getfield 9, 3) := by decide +kernel
theorem dX9_keep_4 : decode cX9_keep 4 = .ok (.iload_n 1, 1) := by decide +kernel
theorem dX9_keep_5 : decode cX9_keep 5 = .ok (.aload_n 0, 1) := by decide +kernel
theorem dX9_keep_6 : decode cX9_keep 6 = .ok (.getfield 30, 3) := by decide +kernel
theorem dX9_keep_9 : decode cX9_keep 9 = .ok (.invokestatic 51, 3) := by decide +kernel
theorem dX9_keep_12 : decode cX9_keep 12 = .ok (.aload_n 0, 1) := by decide +kernel
theorem dX9_keep_13 : decode cX9_keep 13 = .ok (.getfield 15, 3) := by decide +kernel
theorem dX9_keep_16 : decode cX9_keep 16 = .ok (.iload_n 1, 1) := by decide +kernel
theorem dX9_keep_17 : decode cX9_keep 17 = .ok (.aload_n 0, 1) := by decide +kernel
theorem dX9_keep_18 : decode cX9_keep 18 = .ok (.getfield 55, 3) := by decide +kernel
theorem dX9_keep_21 : decode cX9_keep 21 = .ok (.invokestatic 51, 3) := by decide +kernel
theorem dX9_keep_24 : decode cX9_keep 24 = .ok (.aload_n 0, 1) := by decide +kernel
theorem dX9_keep_25 : decode cX9_keep 25 = .ok (.getfield 18, 3) := by decide +kernel
theorem dX9_keep_28 : decode cX9_keep 28 = .ok (.iload_n 1, 1) := by decide +kernel
theorem dX9_keep_29 : decode cX9_keep 29 = .ok (.aload_n 0, 1) := by decide +kernel
theorem dX9_keep_30 : decode cX9_keep 30 = .ok (.getfield 34, 3) := by decide +kernel
theorem dX9_keep_33 : decode cX9_keep 33 = .ok (.invokestatic 51, 3) := by decide +kernel
theorem dX9_keep_36 : decode cX9_keep 36 = .ok (.return_, 1) := by decide +kernel
end
section
theorem cd_X9_scanOne : Cond.code yX9_scanOne cX9_scanOne 5 (some .int) ∈ pWW := pw3 (List.mem_of_getElem? (i := 38) rfl) rfl
abbrev m_X9_scanOne : MT := (yX9_scanOne, cX9_scanOne, 5, (some .int))
theorem ok_X9_scanOne : pOk m_X9_scanOne := ⟨⟨cd_X9_scanOne, ini_9⟩, by decide +kernel, ⟨by decide +kernel, by decide +kernel⟩, Nat.le_of_ble_eq_true rfl⟩
theorem np_X9_scanOne : (parseMethodDescriptor yX9_scanOne.desc).map (fun d => d.parameters.length) = some 3 := by decide +kernel
theorem im_X9_scanOne : Cond.instanceMethod yX9_scanOne ∈ pWW := pw3 (List.mem_of_getElem? (i := 37) rfl) rfl
theorem se_X9_scanOne : Cond.selects RX9 yX9_scanOne yX9_scanOne ∈ pWW := pws (List.mem_map.mpr ⟨_, lw_pin 1 rfl, rfl⟩) rfl
theorem dX9_scanOne_0 : decode cX9_scanOne 0 = .ok (.iload_n 3, 1) := by decide +kernel
theorem dX9_scanOne_1 : decode cX9_scanOne 1 = .ok (.istore 4, 2) := by decide +kernel
theorem dX9_scanOne_3 : decode cX9_scanOne 3 = .ok (.aload_n 0, 1) := by decide +kernel
theorem dX9_scanOne_4 : decode cX9_scanOne 4 = .ok (.iconst 0, 1) := by decide +kernel
theorem dX9_scanOne_5 : decode cX9_scanOne 5 = .ok (.putfield 55, 3) := by decide +kernel
theorem dX9_scanOne_8 : decode cX9_scanOne 8 = .ok (.iload 4, 2) := by decide +kernel
theorem dX9_scanOne_10 : decode cX9_scanOne 10 = .ok (.iload_n 2, 1) := by decide +kernel
theorem dX9_scanOne_11 : decode cX9_scanOne 11 = .ok (.if_icmp .ge 45, 3) := by decide +kernel
theorem dX9_scanOne_14 : decode cX9_scanOne 14 = .ok (.aload_n 1, 1) := by decide +kernel
theorem dX9_scanOne_15 : decode cX9_scanOne 15 = .ok (.iload 4, 2) := by decide +kernel
theorem dX9_scanOne_17 : decode cX9_scanOne 17 = .ok (.baload, 1) := by decide +kernel
theorem dX9_scanOne_18 : decode cX9_scanOne 18 = .ok (.bipush 97, 2) := by decide +kernel
theorem dX9_scanOne_20 : decode cX9_scanOne 20 = .ok (.if_icmp .lt 36, 3) := by decide +kernel
theorem dX9_scanOne_23 : decode cX9_scanOne 23 = .ok (.aload_n 1, 1) := by decide +kernel
theorem dX9_scanOne_24 : decode cX9_scanOne 24 = .ok (.iload 4, 2) := by decide +kernel
theorem dX9_scanOne_26 : decode cX9_scanOne 26 = .ok (.baload, 1) := by decide +kernel
theorem dX9_scanOne_27 : decode cX9_scanOne 27 = .ok (.bipush 122, 2) := by decide +kernel
theorem dX9_scanOne_29 : decode cX9_scanOne 29 = .ok (.if_icmp .gt 27, 3) := by decide +kernel
theorem dX9_scanOne_32 : decode cX9_scanOne 32 = .ok (.aload_n 0, 1) := by decide +kernel
theorem dX9_scanOne_33 : decode cX9_scanOne 33 = .ok (.aload_n 0, 1) := by decide +kernel
theorem dX9_scanOne_34 : decode cX9_scanOne 34 = .ok (.getfield 55, 3) := by decide +kernel
theorem dX9_scanOne_37 : decode cX9_scanOne 37 = .ok (.iconst 5, 1) := by decide +kernel
theorem dX9_scanOne_38 : decode cX9_scanOne 38 = .ok (.ishl, 1) := by decide +kernel
theorem dX9_scanOne_39 : decode cX9_scanOne 39 = .ok (.aload_n 1, 1) := by decide +kernel
theorem dX9_scanOne_40 : decode cX9_scanOne 40 = .ok (.iload 4, 2) := by decide +kernel
theorem dX9_scanOne_42 : decode cX9_scanOne 42 = .ok (.baload, 1) := by decide +kernel
theorem dX9_scanOne_43 : decode cX9_scanOne 43 = .ok (.bipush 96, 2) := by decide +kernel
theorem dX9_scanOne_45 : decode cX9_scanOne 45 = .ok (.isub, 1) := by decide +kernel
theorem dX9_scanOne_46 : decode cX9_scanOne 46 = .ok (.ior, 1) := by decide +kernel
theorem dX9_scanOne_47 : decode cX9_scanOne 47 = .ok (.putfield 55, 3) := by decide +kernel
theorem dX9_scanOne_50 : decode cX9_scanOne 50 = .ok (.iinc 4 1, 3) := by decide +kernel
theorem dX9_scanOne_53 : decode cX9_scanOne 53 = .ok (.goto (-45), 3) := by decide +kernel
theorem dX9_scanOne_56 : decode cX9_scanOne 56 = .ok (.iload 4, 2) := by decide +kernel
theorem dX9_scanOne_58 : decode cX9_scanOne 58 = .ok (.iload_n 3, 1) := by decide +kernel
theorem dX9_scanOne_59 : decode cX9_scanOne 59 = .ok (.if_icmp .le 29, 3) := by decide +kernel
theorem dX9_scanOne_88 : decode cX9_scanOne 88 = .ok (.iload 4, 2) := by decide +kernel
theorem dX9_scanOne_90 : decode cX9_scanOne 90 = .ok (.iload_n 2, 1) := by decide +kernel
theorem dX9_scanOne_91 : decode cX9_scanOne 91 = .ok (.if_icmp .ge 46, 3) := by decide +kernel
theorem dX9_scanOne_94 : decode cX9_scanOne 94 = .ok (.aload_n 1, 1) := by decide +kernel
theorem dX9_scanOne_95 : decode cX9_scanOne 95 = .ok (.iload 4, 2) := by decide +kernel
theorem dX9_scanOne_97 : decode cX9_scanOne 97 = .ok (.baload, 1) := by decide +kernel
theorem dX9_scanOne_98 : decode cX9_scanOne 98 = .ok (.bipush 48, 2) := by decide +kernel
theorem dX9_scanOne_100 : decode cX9_scanOne 100 = .ok (.if_icmp .lt 37, 3) := by decide +kernel
theorem dX9_scanOne_103 : decode cX9_scanOne 103 = .ok (.aload_n 1, 1) := by decide +kernel
theorem dX9_scanOne_104 : decode cX9_scanOne 104 = .ok (.iload 4, 2) := by decide +kernel
theorem dX9_scanOne_106 : decode cX9_scanOne 106 = .ok (.baload, 1) := by decide +kernel
theorem dX9_scanOne_107 : decode cX9_scanOne 107 = .ok (.bipush 57, 2) := by decide +kernel
theorem dX9_scanOne_109 : decode cX9_scanOne 109 = .ok (.if_icmp .gt 28, 3) := by decide +kernel
theorem dX9_scanOne_112 : decode cX9_scanOne 112 = .ok (.aload_n 0, 1) := by decide +kernel
theorem dX9_scanOne_113 : decode cX9_scanOne 113 = .ok (.aload_n 0, 1) := by decide +kernel
theorem dX9_scanOne_114 : decode cX9_scanOne 114 = .ok (.getfield 55, 3) := by decide +kernel
theorem dX9_scanOne_117 : decode cX9_scanOne 117 = .ok (.bipush 10, 2) := by decide +kernel
theorem dX9_scanOne_119 : decode cX9_scanOne 119 = .ok (.imul, 1) := by decide +kernel
theorem dX9_scanOne_120 : decode cX9_scanOne 120 = .ok (.aload_n 1, 1) := by decide +kernel
theorem dX9_scanOne_121 : decode cX9_scanOne 121 = .ok (.iload 4, 2) := by decide +kernel
theorem dX9_scanOne_123 : decode cX9_scanOne 123 = .ok (.baload, 1) := by decide +kernel
theorem dX9_scanOne_124 : decode cX9_scanOne 124 = .ok (.bipush 48, 2) := by decide +kernel
theorem dX9_scanOne_126 : decode cX9_scanOne 126 = .ok (.isub, 1) := by decide +kernel
theorem dX9_scanOne_127 : decode cX9_scanOne 127 = .ok (.iadd, 1) := by decide +kernel
theorem dX9_scanOne_128 : decode cX9_scanOne 128 = .ok (.putfield 55, 3) := by decide +kernel
theorem dX9_scanOne_131 : decode cX9_scanOne 131 = .ok (.iinc 4 1, 3) := by decide +kernel
theorem dX9_scanOne_134 : decode cX9_scanOne 134 = .ok (.goto (-46), 3) := by decide +kernel
theorem ml9_62 : Cond.methodLink RX9 62 yX9_isSign ∈ pWW := pw3 (List.mem_of_getElem? (i := 45) rfl) rfl
theorem ml9_58 : Cond.methodLink RX9 58 yX9_wordKind ∈ pWW := pw3 (List.mem_of_getElem? (i := 39) rfl) rfl
theorem dX9_scanOne_137 : decode cX9_scanOne 137 = .ok (.iload 4, 2) := by decide +kernel
theorem dX9_scanOne_139 : decode cX9_scanOne 139 = .ok (.iload_n 3, 1) := by decide +kernel
theorem dX9_scanOne_140 : decode cX9_scanOne 140 = .ok (.if_icmp .le 28, 3) := by decide +kernel
theorem dX9_scanOne_168 : decode cX9_scanOne 168 = .ok (.aload_n 0, 1) := by decide +kernel
theorem dX9_scanOne_169 : decode cX9_scanOne 169 = .ok (.aload_n 1, 1) := by decide +kernel
theorem dX9_scanOne_170 : decode cX9_scanOne 170 = .ok (.iload_n 3, 1) := by decide +kernel
theorem dX9_scanOne_171 : decode cX9_scanOne 171 = .ok (.baload, 1) := by decide +kernel
theorem dX9_scanOne_172 : decode cX9_scanOne 172 = .ok (.invokestatic 62, 3) := by decide +kernel
theorem dX9_scanOne_175 : decode cX9_scanOne 175 = .ok (.ifCond .eq 9, 3) := by decide +kernel
theorem dX9_scanOne_184 : decode cX9_scanOne 184 = .ok (.sipush 263, 3) := by decide +kernel
theorem dX9_scanOne_187 : decode cX9_scanOne 187 = .ok (.putfield 30, 3) := by decide +kernel
theorem dX9_scanOne_190 : decode cX9_scanOne 190 = .ok (.iload_n 3, 1) := by decide +kernel
theorem dX9_scanOne_191 : decode cX9_scanOne 191 = .ok (.iconst 1, 1) := by decide +kernel
theorem dX9_scanOne_192 : decode cX9_scanOne 192 = .ok (.iadd, 1) := by decide +kernel
theorem dX9_scanOne_193 : decode cX9_scanOne 193 = .ok (.ireturn, 1) := by decide +kernel
theorem dX9_scanOne_178 : decode cX9_scanOne 178 = .ok (.aload_n 1, 1) := by decide +kernel
theorem dX9_scanOne_179 : decode cX9_scanOne 179 = .ok (.iload_n 3, 1) := by decide +kernel
theorem dX9_scanOne_180 : decode cX9_scanOne 180 = .ok (.baload, 1) := by decide +kernel
theorem dX9_scanOne_181 : decode cX9_scanOne 181 = .ok (.goto 6, 3) := by decide +kernel
theorem dX9_scanOne_143 : decode cX9_scanOne 143 = .ok (.aload_n 0, 1) := by decide +kernel
theorem dX9_scanOne_144 : decode cX9_scanOne 144 = .ok (.iload 4, 2) := by decide +kernel
theorem dX9_scanOne_146 : decode cX9_scanOne 146 = .ok (.iload_n 3, 1) := by decide +kernel
theorem dX9_scanOne_147 : decode cX9_scanOne 147 = .ok (.isub, 1) := by decide +kernel
theorem dX9_scanOne_148 : decode cX9_scanOne 148 = .ok (.bipush 7, 2) := by decide +kernel
theorem dX9_scanOne_150 : decode cX9_scanOne 150 = .ok (.if_icmp .le 9, 3) := by decide +kernel
theorem dX9_scanOne_159 : decode cX9_scanOne 159 = .ok (.sipush 257, 3) := by decide +kernel
theorem dX9_scanOne_162 : decode cX9_scanOne 162 = .ok (.putfield 30, 3) := by decide +kernel
theorem dX9_scanOne_165 : decode cX9_scanOne 165 = .ok (.iload 4, 2) := by decide +kernel
theorem dX9_scanOne_167 : decode cX9_scanOne 167 = .ok (.ireturn, 1) := by decide +kernel
theorem dX9_scanOne_153 : decode cX9_scanOne 153 = .ok (.sipush 263, 3) := by decide +kernel
theorem dX9_scanOne_156 : decode cX9_scanOne 156 = .ok (.goto 6, 3) := by decide +kernel
theorem dX9_scanOne_62 : decode cX9_scanOne 62 = .ok (.aload_n 0, 1) := by decide +kernel
theorem dX9_scanOne_63 : decode cX9_scanOne 63 = .ok (.iload 4, 2) := by decide +kernel
theorem dX9_scanOne_65 : decode cX9_scanOne 65 = .ok (.iload_n 3, 1) := by decide +kernel
theorem dX9_scanOne_66 : decode cX9_scanOne 66 = .ok (.isub, 1) := by decide +kernel
theorem dX9_scanOne_67 : decode cX9_scanOne 67 = .ok (.bipush 6, 2) := by decide +kernel
theorem dX9_scanOne_69 : decode cX9_scanOne 69 = .ok (.if_icmp .le 9, 3) := by decide +kernel
theorem dX9_scanOne_78 : decode cX9_scanOne 78 = .ok (.aload_n 0, 1) := by decide +kernel
theorem dX9_scanOne_79 : decode cX9_scanOne 79 = .ok (.invokevirtual 58, 3) := by decide +kernel
theorem dX9_scanOne_82 : decode cX9_scanOne 82 = .ok (.putfield 30, 3) := by decide +kernel
theorem dX9_scanOne_85 : decode cX9_scanOne 85 = .ok (.iload 4, 2) := by decide +kernel
theorem dX9_scanOne_87 : decode cX9_scanOne 87 = .ok (.ireturn, 1) := by decide +kernel
theorem dX9_scanOne_72 : decode cX9_scanOne 72 = .ok (.sipush 263, 3) := by decide +kernel
theorem dX9_scanOne_75 : decode cX9_scanOne 75 = .ok (.goto 7, 3) := by decide +kernel
end
section
theorem cd_X9_scan : Cond.code yX9_scan cX9_scan 6 none ∈ pWW := pw3 (List.mem_of_getElem? (i := 28) rfl) rfl
abbrev m_X9_scan : MT := (yX9_scan, cX9_scan, 6, none)
theorem ok_X9_scan : pOk m_X9_scan := ⟨⟨cd_X9_scan, ini_9⟩, by decide +kernel, ⟨by decide +kernel, by decide +kernel⟩, Nat.le_of_ble_eq_true rfl⟩
theorem np_X9_scan : (parseMethodDescriptor yX9_scan.desc).map (fun d => d.parameters.length) = some 2 := by decide +kernel
theorem im_X9_scan : Cond.instanceMethod yX9_scan ∈ pWW := pw3 (List.mem_of_getElem? (i := 26) rfl) rfl
theorem se_X9_scan : Cond.selects RX9 yX9_scan yX9_scan ∈ pWW := pw3 (List.mem_of_getElem? (i := 27) rfl) rfl
theorem mlm9_21 : Cond.methodLink RX9 21 Lib.Math.min.name ∈ pWW := pw3 (List.mem_of_getElem? (i := 29) rfl) rfl
theorem mlm9_27 : Cond.methodLink RX9 27 Lib.Math.max.name ∈ pWW := pw3 (List.mem_of_getElem? (i := 32) rfl) rfl
theorem ml9_37 : Cond.methodLink RX9 37 yX9_scanOne ∈ pWW := pw3 (List.mem_of_getElem? (i := 35) rfl) rfl
theorem ml9_41 : Cond.methodLink RX9 41 yX9_keep ∈ pWW := pw3 (List.mem_of_getElem? (i := 50) rfl) rfl
theorem dX9_scan_0 : decode cX9_scan 0 = .ok (.iconst 0, 1) := by decide +kernel
theorem dX9_scan_1 : decode cX9_scan 1 = .ok (.iload_n 2, 1) := by decide +kernel
theorem dX9_scan_2 : decode cX9_scan 2 = .ok (.aload_n 1, 1) := by decide +kernel
theorem dX9_scan_3 : decode cX9_scan 3 = .ok (.arraylength, 1) := by decide +kernel
theorem dX9_scan_4 : decode cX9_scan 4 = .ok (.invokestatic 21, 3) := by decide +kernel
theorem dX9_scan_7 : decode cX9_scan 7 = .ok (.invokestatic 27, 3) := by decide +kernel
theorem dX9_scan_10 : decode cX9_scan 10 = .ok (.istore_n 3, 1) := by decide +kernel
theorem dX9_scan_11 : decode cX9_scan 11 = .ok (.iconst 0, 1) := by decide +kernel
theorem dX9_scan_12 : decode cX9_scan 12 = .ok (.istore 4, 2) := by decide +kernel
theorem dX9_scan_14 : decode cX9_scan 14 = .ok (.iconst 0, 1) := by decide +kernel
theorem dX9_scan_15 : decode cX9_scan 15 = .ok (.istore 5, 2) := by decide +kernel
theorem dX9_scan_17 : decode cX9_scan 17 = .ok (.aload_n 0, 1) := by decide +kernel
theorem dX9_scan_18 : decode cX9_scan 18 = .ok (.sipush 264, 3) := by decide +kernel
theorem dX9_scan_21 : decode cX9_scan 21 = .ok (.putfield 30, 3) := by decide +kernel
theorem dX9_scan_24 : decode cX9_scan 24 = .ok (.iload 5, 2) := by decide +kernel
theorem dX9_scan_26 : decode cX9_scan 26 = .ok (.iload_n 3, 1) := by decide +kernel
theorem dX9_scan_27 : decode cX9_scan 27 = .ok (.if_icmp .ge 65, 3) := by decide +kernel
theorem dX9_scan_30 : decode cX9_scan 30 = .ok (.aload_n 0, 1) := by decide +kernel
theorem dX9_scan_31 : decode cX9_scan 31 = .ok (.getfield 30, 3) := by decide +kernel
theorem dX9_scan_34 : decode cX9_scan 34 = .ok (.sipush 263, 3) := by decide +kernel
theorem dX9_scan_37 : decode cX9_scan 37 = .ok (.if_icmp .eq 55, 3) := by decide +kernel
theorem dX9_scan_40 : decode cX9_scan 40 = .ok (.aload_n 1, 1) := by decide +kernel
theorem dX9_scan_41 : decode cX9_scan 41 = .ok (.iload 5, 2) := by decide +kernel
theorem dX9_scan_43 : decode cX9_scan 43 = .ok (.baload, 1) := by decide +kernel
theorem dX9_scan_44 : decode cX9_scan 44 = .ok (.bipush 32, 2) := by decide +kernel
theorem dX9_scan_46 : decode cX9_scan 46 = .ok (.if_icmp .eq 12, 3) := by decide +kernel
theorem dX9_scan_58 : decode cX9_scan 58 = .ok (.iinc 5 1, 3) := by decide +kernel
theorem dX9_scan_61 : decode cX9_scan 61 = .ok (.goto (-37), 3) := by decide +kernel
theorem dX9_scan_49 : decode cX9_scan 49 = .ok (.aload_n 1, 1) := by decide +kernel
theorem dX9_scan_50 : decode cX9_scan 50 = .ok (.iload 5, 2) := by decide +kernel
theorem dX9_scan_52 : decode cX9_scan 52 = .ok (.baload, 1) := by decide +kernel
theorem dX9_scan_53 : decode cX9_scan 53 = .ok (.bipush 10, 2) := by decide +kernel
theorem dX9_scan_55 : decode cX9_scan 55 = .ok (.if_icmp .ne 9, 3) := by decide +kernel
theorem dX9_scan_64 : decode cX9_scan 64 = .ok (.aload_n 0, 1) := by decide +kernel
theorem dX9_scan_65 : decode cX9_scan 65 = .ok (.iload 5, 2) := by decide +kernel
theorem dX9_scan_67 : decode cX9_scan 67 = .ok (.putfield 34, 3) := by decide +kernel
theorem dX9_scan_70 : decode cX9_scan 70 = .ok (.aload_n 0, 1) := by decide +kernel
theorem dX9_scan_71 : decode cX9_scan 71 = .ok (.aload_n 1, 1) := by decide +kernel
theorem dX9_scan_72 : decode cX9_scan 72 = .ok (.iload_n 3, 1) := by decide +kernel
theorem dX9_scan_73 : decode cX9_scan 73 = .ok (.iload 5, 2) := by decide +kernel
theorem dX9_scan_75 : decode cX9_scan 75 = .ok (.invokevirtual 37, 3) := by decide +kernel
theorem dX9_scan_78 : decode cX9_scan 78 = .ok (.istore 5, 2) := by decide +kernel
theorem dX9_scan_80 : decode cX9_scan 80 = .ok (.aload_n 0, 1) := by decide +kernel
theorem dX9_scan_81 : decode cX9_scan 81 = .ok (.iload 4, 2) := by decide +kernel
theorem dX9_scan_83 : decode cX9_scan 83 = .ok (.invokevirtual 41, 3) := by decide +kernel
theorem dX9_scan_86 : decode cX9_scan 86 = .ok (.iinc 4 1, 3) := by decide +kernel
theorem dX9_scan_89 : decode cX9_scan 89 = .ok (.goto (-65), 3) := by decide +kernel
theorem ml9_48 : Cond.methodLink RX9 48 yX9_next ∈ pWW := pw3 (List.mem_of_getElem? (i := 57) rfl) rfl
theorem dX9_scan_92 : decode cX9_scan 92 = .ok (.aload_n 0, 1) := by decide +kernel
theorem dX9_scan_93 : decode cX9_scan 93 = .ok (.getfield 30, 3) := by decide +kernel
theorem dX9_scan_96 : decode cX9_scan 96 = .ok (.sipush 263, 3) := by decide +kernel
theorem dX9_scan_99 : decode cX9_scan 99 = .ok (.if_icmp .eq 21, 3) := by decide +kernel
theorem dX9_scan_120 : decode cX9_scan 120 = .ok (.aload_n 0, 1) := by decide +kernel
theorem dX9_scan_121 : decode cX9_scan 121 = .ok (.iconst (-1), 1) := by decide +kernel
theorem dX9_scan_122 : decode cX9_scan 122 = .ok (.putfield 45, 3) := by decide +kernel
theorem dX9_scan_125 : decode cX9_scan 125 = .ok (.aload_n 0, 1) := by decide +kernel
theorem dX9_scan_126 : decode cX9_scan 126 = .ok (.invokevirtual 48, 3) := by decide +kernel
theorem dX9_scan_129 : decode cX9_scan 129 = .ok (.return_, 1) := by decide +kernel
theorem dX9_scan_102 : decode cX9_scan 102 = .ok (.aload_n 0, 1) := by decide +kernel
theorem dX9_scan_103 : decode cX9_scan 103 = .ok (.sipush 264, 3) := by decide +kernel
theorem dX9_scan_106 : decode cX9_scan 106 = .ok (.putfield 30, 3) := by decide +kernel
theorem dX9_scan_109 : decode cX9_scan 109 = .ok (.aload_n 0, 1) := by decide +kernel
theorem dX9_scan_110 : decode cX9_scan 110 = .ok (.iload_n 3, 1) := by decide +kernel
theorem dX9_scan_111 : decode cX9_scan 111 = .ok (.putfield 34, 3) := by decide +kernel
theorem dX9_scan_114 : decode cX9_scan 114 = .ok (.aload_n 0, 1) := by decide +kernel
theorem dX9_scan_115 : decode cX9_scan 115 = .ok (.iload 4, 2) := by decide +kernel
theorem dX9_scan_117 : decode cX9_scan 117 = .ok (.invokevirtual 41, 3) := by decide +kernel
end
section
theorem cd_X10_spoil : Cond.code yX10_spoil cX10_spoil 2 none ∈ pWW := pw4 (List.mem_of_getElem? (i := 45) rfl) rfl
theorem ini_10 : Cond.initialized RX10 ∈ pWW := pw1 (List.mem_of_getElem? (i := 6) rfl) rfl
abbrev m_X10_spoil : MT := (yX10_spoil, cX10_spoil, 2, none)
theorem ok_X10_spoil : pOk m_X10_spoil := ⟨⟨cd_X10_spoil, ini_10⟩, by decide +kernel, ⟨by decide +kernel, by decide +kernel⟩, Nat.le_of_ble_eq_true rfl⟩
theorem np_X10_spoil : (parseMethodDescriptor yX10_spoil.desc).map (fun d => d.parameters.length) = some 1 := by decide +kernel
theorem im_X10_spoil : Cond.instanceMethod yX10_spoil ∈ pWW := pw4 (List.mem_of_getElem? (i := 43) rfl) rfl
theorem se_X10_spoil : Cond.selects RX10 yX10_spoil yX10_spoil ∈ pWW := pw4 (List.mem_of_getElem? (i := 44) rfl) rfl
theorem fl10_17 : Cond.fieldLink RX10 17 (TX10 1).1 (TX10 1).2.1 (TX10 1).2.2.1 ∈ pWW := pw2 (List.mem_of_getElem? (i := 8) rfl) rfl
theorem nl10_26 : (RX10, 26, yX11_put, "LineKeeper") ∈ nst_M := List.mem_of_getElem? (i := 12) rfl
theorem dX10_spoil_0 : decode cX10_spoil 0 = .ok (.aload_n 0, 1) := by decide +kernel
theorem dX10_spoil_1 : decode cX10_spoil 1 = .ok (.getfield 17, 3) := by decide +kernel
theorem dX10_spoil_4 : decode cX10_spoil 4 = .ok (.iload_n 1, 1) := by decide +kernel
theorem dX10_spoil_5 : decode cX10_spoil 5 = .ok (.iconst 0, 1) := by decide +kernel
theorem dX10_spoil_6 : decode cX10_spoil 6 = .ok (.invokestatic 26, 3) := by decide +kernel
theorem dX10_spoil_9 : decode cX10_spoil 9 = .ok (.return_, 1) := by decide +kernel
set_option maxRecDepth 20000 in
theorem k_X10_spoil (d : Nat) {T : CT} {σ : MS} {a : Nat} {p1 : Int} (ha : OB T a 10) (h_p1 : -2147483648 ≤ p1 ∧ p1 ≤ 2147483647) (hw : WT T σ) : Tn (d + 2) m_X10_spoil 0 T σ [(0, .ref a), (1, .int (iI p1))] [] (fun ro T2 σ2 => ro = none ∧ T = T2 ∧ WT T2 σ2 ∧ FrC T [] σ σ2) := by
  refine tn_aload_n dX10_spoil_0 rfl 0 rfl ?_
  obtain ⟨x1, hx2, hk3, hl4⟩ : ∃ x : Nat, σ.2.1 89 a = (x : Int) ∧ AR T x 1 6 6 := wf_89 hw ha
  have hk3i : IA T x1 := by unfold IA; omega
  refine tn_getR (ci := 10) (i := 1) (n := 89) (x := x1) dX10_spoil_1 rfl lay_10 (by decide) fl10_17 ha rfl rfl (hx2) ?_
  refine tn_iload_n dX10_spoil_4 rfl 1 rfl ?_
  refine tn_iconst dX10_spoil_5 ?_
  refine tn_callSN (M := m_X10_spoil) (pc := 6) (ix := 26) (M' := m_X11_put) (As := [.ref x1, .int (iI p1), .int (iI 0)]) (rest := []) dX10_spoil_6 ok_X11_put stt_X11_put nl10_26 np_X11_put rfl (Nat.le_of_ble_eq_true rfl) (Nat.le_of_ble_eq_true rfl) rfl (k_X11_put (d) (T := T) (σ := σ) (x := x1) (i := p1) (y := 0) hk3i (by omega) (by omega) (by decide) hw (nh_k hk3 (by unfold HT; omega)) vok_0) (fun r5 T7 σ6 gt8 hp => ?_)
  obtain ⟨rfl, rfl, w10, F11⟩ := hp
  clear gt8
  show Tn _ _ 9 T σ6 [(0, .ref a), (1, .int (iI p1))] [] _
  exact tn_vret rfl dX10_spoil_9 ⟨rfl, rfl, w10, (FrC.rfl.trans (FrC.sub F11 (by decide)))⟩
end
section
theorem cd_X10_slotAt : Cond.code yX10_slotAt cX10_slotAt 4 (some .int) ∈ pWW := pw4 (List.mem_of_getElem? (i := 163) rfl) rfl
abbrev m_X10_slotAt : MT := (yX10_slotAt, cX10_slotAt, 4, (some .int))
theorem ok_X10_slotAt : pOk m_X10_slotAt := ⟨⟨cd_X10_slotAt, ini_10⟩, by decide +kernel, ⟨by decide +kernel, by decide +kernel⟩, Nat.le_of_ble_eq_true rfl⟩
theorem np_X10_slotAt : (parseMethodDescriptor yX10_slotAt.desc).map (fun d => d.parameters.length) = some 3 := by decide +kernel
theorem im_X10_slotAt : Cond.instanceMethod yX10_slotAt ∈ pWW := pw4 (List.mem_of_getElem? (i := 161) rfl) rfl
theorem se_X10_slotAt : Cond.selects RX10 yX10_slotAt yX10_slotAt ∈ pWW := pw4 (List.mem_of_getElem? (i := 162) rfl) rfl
theorem fl10_30 : Cond.fieldLink RX10 30 (TX1 5).1 (TX1 5).2.1 (TX1 5).2.2.1 ∈ pWW := pw1 (List.mem_of_getElem? (i := 103) rfl) rfl
theorem ml10_36 : Cond.methodLink RX10 36 yX1_slotOf ∈ pWW := pw4 (List.mem_of_getElem? (i := 109) rfl) rfl
theorem dX10_slotAt_0 : decode cX10_slotAt 0 = .ok (.aload_n 1, 1) := by decide +kernel
theorem dX10_slotAt_1 : decode cX10_slotAt 1 = .ok (.ifnonnull 7, 3) := by decide +kernel
theorem dX10_slotAt_8 : decode cX10_slotAt 8 = .ok (.iload_n 2, 1) := by decide +kernel
theorem dX10_slotAt_9 : decode cX10_slotAt 9 = .ok (.aload_n 1, 1) := by decide +kernel
theorem dX10_slotAt_10 : decode cX10_slotAt 10 = .ok (.aload_n 1, 1) := by decide +kernel
theorem dX10_slotAt_11 : decode cX10_slotAt 11 = .ok (.getfield 30, 3) := by decide +kernel
theorem dX10_slotAt_14 : decode cX10_slotAt 14 = .ok (.iconst 0, 1) := by decide +kernel
theorem dX10_slotAt_15 : decode cX10_slotAt 15 = .ok (.invokevirtual 36, 3) := by decide +kernel
theorem dX10_slotAt_18 : decode cX10_slotAt 18 = .ok (.imul, 1) := by decide +kernel
theorem dX10_slotAt_19 : decode cX10_slotAt 19 = .ok (.aload_n 1, 1) := by decide +kernel
theorem dX10_slotAt_20 : decode cX10_slotAt 20 = .ok (.iload_n 3, 1) := by decide +kernel
theorem dX10_slotAt_21 : decode cX10_slotAt 21 = .ok (.iconst 0, 1) := by decide +kernel
theorem dX10_slotAt_22 : decode cX10_slotAt 22 = .ok (.invokevirtual 36, 3) := by decide +kernel
theorem dX10_slotAt_25 : decode cX10_slotAt 25 = .ok (.iadd, 1) := by decide +kernel
theorem dX10_slotAt_26 : decode cX10_slotAt 26 = .ok (.ireturn, 1) := by decide +kernel
set_option maxRecDepth 20000 in
theorem k_X10_slotAt (d : Nat) {T : CT} {σ : MS} {a : Nat} {c : Nat} {k : Int} {f : Int} (ha : OB T a 10) (h_c : OB T c 1) (h_k : -2147483648 ≤ k ∧ k ≤ 2147483647) (h_f : -2147483648 ≤ f ∧ f ≤ 2147483647) (hw : WT T σ) : Tn (d + 2) m_X10_slotAt 0 T σ [(0, .ref a), (1, .ref c), (2, .int (iI k)), (3, .int (iI f))] [] (fun ro T2 σ2 => ∃ v : Int, ro = some (.int (iI v)) ∧ T = T2 ∧ σ = σ2 ∧ (-2147483648 ≤ v ∧ v ≤ 2147483647)) := by
  refine tn_aload_n dX10_slotAt_0 rfl 1 rfl ?_
  refine tn_ifnonnull (tgt := 8) dX10_slotAt_1 (by decide) ?_
  refine tn_iload_n dX10_slotAt_8 rfl 2 rfl ?_
  refine tn_aload_n dX10_slotAt_9 rfl 1 rfl ?_
  refine tn_aload_n dX10_slotAt_10 rfl 1 rfl ?_
  refine tn_getI (ci := 1) (i := 5) (n := 10) (t := σ.2.1 10 c) dX10_slotAt_11 rfl lay_1 (by decide) fl10_30 h_c rfl rfl (rfl) ?_
  have g1 : ((0 : Int) ≤ σ.2.1 10 c ∧ σ.2.1 10 c ≤ 12) := wf_10 hw h_c
  refine tn_iconst dX10_slotAt_14 ?_
  refine tn_callV (M := m_X10_slotAt) (pc := 15) (ix := 36) (ci := 1) (M' := m_X1_slotOf) (As := [.int (iI (σ.2.1 10 c)), .int (iI 0)]) (rest := [.int (iI k)]) dX10_slotAt_15 ok_X1_slotOf im_X1_slotOf se_X1_slotOf ml10_36 np_X1_slotOf rfl rfl h_c rfl (Nat.le_of_ble_eq_true rfl) (Nat.le_of_ble_eq_true rfl) rfl (k_X1_slotOf (d) (T := T) (σ := σ) (a := c) (f := σ.2.1 10 c) (m := 0) h_c (by omega) (by decide) hw (by omega)) (fun r2 T4 σ3 gt5 hp => ?_)
  obtain ⟨v8, rfl, rfl, rfl, f6, f7⟩ := hp
  clear gt5
  show Tn _ _ 18 T σ [(0, .ref a), (1, .ref c), (2, .int (iI k)), (3, .int (iI f))] [.int (iI v8), .int (iI k)] _
  refine tn_imul dX10_slotAt_18 ?_
  refine tn_any (fun z9 g10 => ?_)
  have g10r : -2147483648 ≤ z9 ∧ z9 ≤ 2147483647 := g10
  refine tn_aload_n dX10_slotAt_19 rfl 1 rfl ?_
  refine tn_iload_n dX10_slotAt_20 rfl 3 rfl ?_
  refine tn_iconst dX10_slotAt_21 ?_
  refine tn_callV (M := m_X10_slotAt) (pc := 22) (ix := 36) (ci := 1) (M' := m_X1_slotOf) (As := [.int (iI f), .int (iI 0)]) (rest := [.int (iI z9)]) dX10_slotAt_22 ok_X1_slotOf im_X1_slotOf se_X1_slotOf ml10_36 np_X1_slotOf rfl rfl h_c rfl (Nat.le_of_ble_eq_true rfl) (Nat.le_of_ble_eq_true rfl) rfl (k_X1_slotOf (d) (T := T) (σ := σ) (a := c) (f := f) (m := 0) h_c (by omega) (by decide) hw (by omega)) (fun r11 T13 σ12 gt14 hp => ?_)
  obtain ⟨v17, rfl, rfl, rfl, f15, f16⟩ := hp
  clear gt14
  show Tn _ _ 25 T σ [(0, .ref a), (1, .ref c), (2, .int (iI k)), (3, .int (iI f))] [.int (iI v17), .int (iI z9)] _
  refine tn_iadd dX10_slotAt_25 ?_
  refine tn_any (fun z18 g19 => ?_)
  have g19r : -2147483648 ≤ z18 ∧ z18 ≤ 2147483647 := g19
  exact tn_iret rfl dX10_slotAt_26 ⟨_, rfl, rfl, rfl, by omega⟩
end
section
theorem dX10_slotAt_4 : decode cX10_slotAt 4 = .ok (.iconst (-1), 1) := by decide +kernel
theorem dX10_slotAt_5 : decode cX10_slotAt 5 = .ok (.goto 21, 3) := by decide +kernel
set_option maxRecDepth 20000 in
theorem k_X10_slotAt_0 (d : Nat) {T : CT} {σ : MS} {a : Nat} {k : Int} {f : Int} (ha : OB T a 10) (h_k : -2147483648 ≤ k ∧ k ≤ 2147483647) (h_f : -2147483648 ≤ f ∧ f ≤ 2147483647) (hw : WT T σ) : Tn (d + 2) m_X10_slotAt 0 T σ [(0, .ref a), (1, .null), (2, .int (iI k)), (3, .int (iI f))] [] (fun ro T2 σ2 => ∃ v : Int, ro = some (.int (iI v)) ∧ T = T2 ∧ σ = σ2 ∧ (-2147483648 ≤ v ∧ v ≤ 2147483647)) := by
  refine tn_aload_nN dX10_slotAt_0 rfl 1 rfl ?_
  refine tn_ifnonnullN dX10_slotAt_1 ?_
  refine tn_iconst dX10_slotAt_4 ?_
  refine tn_goto (tgt := 26) dX10_slotAt_5 (by decide) ?_
  exact tn_iret rfl dX10_slotAt_26 ⟨_, rfl, rfl, rfl, by omega⟩
end
section
theorem cd_X10_idIn : Cond.code yX10_idIn cX10_idIn 4 (some .int) ∈ pWW := pw4 (List.mem_of_getElem? (i := 167) rfl) rfl
abbrev m_X10_idIn : MT := (yX10_idIn, cX10_idIn, 4, (some .int))
theorem ok_X10_idIn : pOk m_X10_idIn := ⟨⟨cd_X10_idIn, ini_10⟩, by decide +kernel, ⟨by decide +kernel, by decide +kernel⟩, Nat.le_of_ble_eq_true rfl⟩
theorem np_X10_idIn : (parseMethodDescriptor yX10_idIn.desc).map (fun d => d.parameters.length) = some 2 := by decide +kernel
theorem im_X10_idIn : Cond.instanceMethod yX10_idIn ∈ pWW := pw4 (List.mem_of_getElem? (i := 165) rfl) rfl
theorem se_X10_idIn : Cond.selects RX10 yX10_idIn yX10_idIn ∈ pWW := pw4 (List.mem_of_getElem? (i := 166) rfl) rfl
theorem fl10_11 : Cond.fieldLink RX10 11 (TX10 0).1 (TX10 0).2.1 (TX10 0).2.2.1 ∈ pWW := pw2 (List.mem_of_getElem? (i := 7) rfl) rfl
theorem nl10_40 : (RX10, 40, yX11_at, "LineKeeper") ∈ nst_M := List.mem_of_getElem? (i := 15) rfl
theorem dX10_idIn_0 : decode cX10_idIn 0 = .ok (.iload_n 1, 1) := by decide +kernel
theorem dX10_idIn_1 : decode cX10_idIn 1 = .ok (.ifCond .lt 25, 3) := by decide +kernel
theorem dX10_idIn_26 : decode cX10_idIn 26 = .ok (.iconst 0, 1) := by decide +kernel
theorem dX10_idIn_27 : decode cX10_idIn 27 = .ok (.istore_n 3, 1) := by decide +kernel
theorem dX10_idIn_28 : decode cX10_idIn 28 = .ok (.iload_n 3, 1) := by decide +kernel
theorem dX10_idIn_29 : decode cX10_idIn 29 = .ok (.ifCond .ne 7, 3) := by decide +kernel
theorem dX10_idIn_32 : decode cX10_idIn 32 = .ok (.iconst 1, 1) := by decide +kernel
theorem dX10_idIn_33 : decode cX10_idIn 33 = .ok (.goto 4, 3) := by decide +kernel
theorem dX10_idIn_37 : decode cX10_idIn 37 = .ok (.ireturn, 1) := by decide +kernel
theorem dX10_idIn_4 : decode cX10_idIn 4 = .ok (.iload_n 1, 1) := by decide +kernel
theorem dX10_idIn_5 : decode cX10_idIn 5 = .ok (.aload_n 0, 1) := by decide +kernel
theorem dX10_idIn_6 : decode cX10_idIn 6 = .ok (.getfield 11, 3) := by decide +kernel
theorem dX10_idIn_9 : decode cX10_idIn 9 = .ok (.arraylength, 1) := by decide +kernel
theorem dX10_idIn_10 : decode cX10_idIn 10 = .ok (.if_icmp .ge 16, 3) := by decide +kernel
theorem dX10_idIn_13 : decode cX10_idIn 13 = .ok (.aload_n 0, 1) := by decide +kernel
theorem dX10_idIn_14 : decode cX10_idIn 14 = .ok (.getfield 11, 3) := by decide +kernel
theorem dX10_idIn_17 : decode cX10_idIn 17 = .ok (.iload_n 1, 1) := by decide +kernel
theorem dX10_idIn_18 : decode cX10_idIn 18 = .ok (.aaload, 1) := by decide +kernel
theorem dX10_idIn_19 : decode cX10_idIn 19 = .ok (.iload_n 2, 1) := by decide +kernel
theorem dX10_idIn_20 : decode cX10_idIn 20 = .ok (.invokestatic 40, 3) := by decide +kernel
theorem dX10_idIn_23 : decode cX10_idIn 23 = .ok (.goto 4, 3) := by decide +kernel
theorem dX10_idIn_36 : decode cX10_idIn 36 = .ok (.iload_n 3, 1) := by decide +kernel
set_option maxRecDepth 20000 in
theorem k_X10_idIn (d : Nat) {T : CT} {σ : MS} {a : Nat} {p1 : Int} {p2 : Int} (ha : OB T a 10) (h_p1 : -2147483648 ≤ p1 ∧ p1 ≤ 2147483647) (h_p2 : -2147483648 ≤ p2 ∧ p2 ≤ 2147483647) (hw : WT T σ) : Tn (d + 2) m_X10_idIn 0 T σ [(0, .ref a), (1, .int (iI p1)), (2, .int (iI p2))] [] (fun ro T2 σ2 => ∃ v : Int, ro = some (.int (iI v)) ∧ T = T2 ∧ σ = σ2 ∧ (-2147483648 ≤ v ∧ v ≤ 2147483647)) := by
  refine tn_iload_n dX10_idIn_0 rfl 1 rfl ?_
  refine tn_if_lt (tgt := 26) dX10_idIn_1 (by decide) ⟨by omega, by omega⟩ (fun h1 => ?_) (fun h1 => ?_)
  · refine tn_iconst dX10_idIn_26 ?_
    refine tn_istore_n (L' := [(3, .int (iI 0)), (0, .ref a), (1, .int (iI p1)), (2, .int (iI p2))]) dX10_idIn_27 rfl (by decide) rfl ?_
    refine tn_iload_n dX10_idIn_28 rfl 0 rfl ?_
    refine tn_if_ne (tgt := 36) dX10_idIn_29 (by decide) ⟨by decide, by decide⟩ (fun h => absurd h (by decide)) (fun _ => ?_)
    refine tn_iconst dX10_idIn_32 ?_
    refine tn_goto (tgt := 37) dX10_idIn_33 (by decide) ?_
    exact tn_iret rfl dX10_idIn_37 ⟨_, rfl, rfl, rfl, by omega⟩
  · refine tn_iload_n dX10_idIn_4 rfl 1 rfl ?_
    refine tn_aload_n dX10_idIn_5 rfl 0 rfl ?_
    obtain ⟨x3, hx4, hk5, hl6⟩ : ∃ x : Nat, σ.2.1 88 a = (x : Int) ∧ AR T x 7 6 6 := wf_88 hw ha
    refine tn_getR (ci := 10) (i := 0) (n := 88) (x := x3) dX10_idIn_6 rfl lay_10 (by decide) fl10_11 ha rfl rfl (hx4) ?_
    refine tn_alenX dX10_idIn_9 (Or.inr (Or.inr (Or.inr (Or.inr (Or.inr hk5))))) ?_
    refine tn_icmp_ge (tgt := 26) dX10_idIn_10 (by decide) ⟨by omega, by omega⟩ ⟨by omega, by omega⟩ (fun h7 => ?_) (fun h7 => ?_)
    · refine tn_iconst dX10_idIn_26 ?_
      refine tn_istore_n (L' := [(3, .int (iI 0)), (0, .ref a), (1, .int (iI p1)), (2, .int (iI p2))]) dX10_idIn_27 rfl (by decide) rfl ?_
      refine tn_iload_n dX10_idIn_28 rfl 0 rfl ?_
      refine tn_if_ne (tgt := 36) dX10_idIn_29 (by decide) ⟨by decide, by decide⟩ (fun h => absurd h (by decide)) (fun _ => ?_)
      refine tn_iconst dX10_idIn_32 ?_
      refine tn_goto (tgt := 37) dX10_idIn_33 (by decide) ?_
      exact tn_iret rfl dX10_idIn_37 ⟨_, rfl, rfl, rfl, by omega⟩
    · refine tn_aload_n dX10_idIn_13 rfl 0 rfl ?_
      refine tn_getR (ci := 10) (i := 0) (n := 88) (x := x3) dX10_idIn_14 rfl lay_10 (by decide) fl10_11 ha rfl rfl (hx4) ?_
      refine tn_iload_n dX10_idIn_17 rfl 1 rfl ?_
      rcases (hw).2.2.2.2.1.2 (p1) (by omega) (by omega) with hx9 | ⟨x10, hx9, hk11, hl12⟩
      · refine tn_aaldMN (z := p1) dX10_idIn_18 hk5 (by omega) (by omega) (by omega) hx9 ?_
        refine tn_iload_n dX10_idIn_19 rfl 2 rfl ?_
        refine tn_callSN (M := m_X10_idIn) (pc := 20) (ix := 40) (M' := m_X11_at) (As := [.null, .int (iI p2)]) (rest := []) dX10_idIn_20 ok_X11_at stt_X11_at nl10_40 np_X11_at rfl (Nat.le_of_ble_eq_true rfl) (Nat.le_of_ble_eq_true rfl) rfl (k_X11_at_0 (d) (T := T) (σ := σ) (i := p2) (by omega) hw ) (fun r13 T15 σ14 gt16 hp => ?_)
        obtain ⟨v18, rfl, rfl, rfl, f17⟩ := hp
        clear gt16
        show Tn _ _ 23 T σ [(0, .ref a), (1, .int (iI p1)), (2, .int (iI p2))] [.int (iI v18)] _
        refine tn_goto (tgt := 27) dX10_idIn_23 (by decide) ?_
        refine tn_istore_n (L' := [(3, .int (iI v18)), (0, .ref a), (1, .int (iI p1)), (2, .int (iI p2))]) dX10_idIn_27 rfl (by decide) rfl ?_
        refine tn_iload_n dX10_idIn_28 rfl 0 rfl ?_
        refine tn_if_ne (tgt := 36) dX10_idIn_29 (by decide) ⟨by omega, by omega⟩ (fun h19 => absurd h19 (by omega)) (fun h19 => ?_)
        refine tn_iconst dX10_idIn_32 ?_
        refine tn_goto (tgt := 37) dX10_idIn_33 (by decide) ?_
        exact tn_iret rfl dX10_idIn_37 ⟨_, rfl, rfl, rfl, by omega⟩
      · refine tn_aaldM (z := p1) (x := x10) dX10_idIn_18 hk5 (by omega) (by omega) (by omega) hx9 ?_
        have hk11i : IA T x10 := by unfold IA; omega
        refine tn_iload_n dX10_idIn_19 rfl 2 rfl ?_
        refine tn_callSN (M := m_X10_idIn) (pc := 20) (ix := 40) (M' := m_X11_at) (As := [.ref x10, .int (iI p2)]) (rest := []) dX10_idIn_20 ok_X11_at stt_X11_at nl10_40 np_X11_at rfl (Nat.le_of_ble_eq_true rfl) (Nat.le_of_ble_eq_true rfl) rfl (k_X11_at (d) (T := T) (σ := σ) (x := x10) (i := p2) hk11i (by omega) (by omega) hw ) (fun r20 T22 σ21 gt23 hp => ?_)
        obtain ⟨v27, rfl, rfl, rfl, f24, f25, f26⟩ := hp
        clear gt23
        clear f25 f26
        show Tn _ _ 23 T σ [(0, .ref a), (1, .int (iI p1)), (2, .int (iI p2))] [.int (iI v27)] _
        refine tn_goto (tgt := 27) dX10_idIn_23 (by decide) ?_
        refine tn_istore_n (L' := [(3, .int (iI v27)), (0, .ref a), (1, .int (iI p1)), (2, .int (iI p2))]) dX10_idIn_27 rfl (by decide) rfl ?_
        refine tn_iload_n dX10_idIn_28 rfl 0 rfl ?_
        refine tn_if_ne (tgt := 36) dX10_idIn_29 (by decide) ⟨by omega, by omega⟩ (fun h28 => ?_) (fun h28 => ?_)
        · refine tn_iload_n dX10_idIn_36 rfl 0 rfl ?_
          exact tn_iret rfl dX10_idIn_37 ⟨_, rfl, rfl, rfl, by omega⟩
        · refine tn_iconst dX10_idIn_32 ?_
          refine tn_goto (tgt := 37) dX10_idIn_33 (by decide) ?_
          exact tn_iret rfl dX10_idIn_37 ⟨_, rfl, rfl, rfl, by omega⟩
end
section
theorem cd_X10_whereOf : Cond.code yX10_whereOf cX10_whereOf 3 (some .int) ∈ pWW := pw4 (List.mem_of_getElem? (i := 171) rfl) rfl
abbrev m_X10_whereOf : MT := (yX10_whereOf, cX10_whereOf, 3, (some .int))
theorem ok_X10_whereOf : pOk m_X10_whereOf := ⟨⟨cd_X10_whereOf, ini_10⟩, by decide +kernel, ⟨by decide +kernel, by decide +kernel⟩, Nat.le_of_ble_eq_true rfl⟩
theorem np_X10_whereOf : (parseMethodDescriptor yX10_whereOf.desc).map (fun d => d.parameters.length) = some 2 := by decide +kernel
theorem im_X10_whereOf : Cond.instanceMethod yX10_whereOf ∈ pWW := pw4 (List.mem_of_getElem? (i := 169) rfl) rfl
theorem se_X10_whereOf : Cond.selects RX10 yX10_whereOf yX10_whereOf ∈ pWW := pw4 (List.mem_of_getElem? (i := 170) rfl) rfl
theorem ml10_44 : Cond.methodLink RX10 44 yX1_get ∈ pWW := pw4 (List.mem_of_getElem? (i := 119) rfl) rfl
theorem dX10_whereOf_0 : decode cX10_whereOf 0 = .ok (.iload_n 2, 1) := by decide +kernel
theorem dX10_whereOf_1 : decode cX10_whereOf 1 = .ok (.iconst 5, 1) := by decide +kernel
theorem dX10_whereOf_2 : decode cX10_whereOf 2 = .ok (.if_icmp .ge 8, 3) := by decide +kernel
theorem dX10_whereOf_10 : decode cX10_whereOf 10 = .ok (.iload_n 2, 1) := by decide +kernel
theorem dX10_whereOf_11 : decode cX10_whereOf 11 = .ok (.bipush 10, 2) := by decide +kernel
theorem dX10_whereOf_13 : decode cX10_whereOf 13 = .ok (.if_icmp .ge 14, 3) := by decide +kernel
theorem dX10_whereOf_27 : decode cX10_whereOf 27 = .ok (.aload_n 1, 1) := by decide +kernel
theorem dX10_whereOf_28 : decode cX10_whereOf 28 = .ok (.iload_n 2, 1) := by decide +kernel
theorem dX10_whereOf_29 : decode cX10_whereOf 29 = .ok (.bipush 10, 2) := by decide +kernel
theorem dX10_whereOf_31 : decode cX10_whereOf 31 = .ok (.isub, 1) := by decide +kernel
theorem dX10_whereOf_32 : decode cX10_whereOf 32 = .ok (.bipush 11, 2) := by decide +kernel
theorem dX10_whereOf_34 : decode cX10_whereOf 34 = .ok (.invokevirtual 44, 3) := by decide +kernel
theorem dX10_whereOf_37 : decode cX10_whereOf 37 = .ok (.ireturn, 1) := by decide +kernel
theorem dX10_whereOf_16 : decode cX10_whereOf 16 = .ok (.iload_n 2, 1) := by decide +kernel
theorem dX10_whereOf_17 : decode cX10_whereOf 17 = .ok (.iconst 5, 1) := by decide +kernel
theorem dX10_whereOf_18 : decode cX10_whereOf 18 = .ok (.if_icmp .ne 7, 3) := by decide +kernel
theorem dX10_whereOf_25 : decode cX10_whereOf 25 = .ok (.iconst 2, 1) := by decide +kernel
theorem dX10_whereOf_26 : decode cX10_whereOf 26 = .ok (.ireturn, 1) := by decide +kernel
theorem dX10_whereOf_21 : decode cX10_whereOf 21 = .ok (.iconst 1, 1) := by decide +kernel
theorem dX10_whereOf_22 : decode cX10_whereOf 22 = .ok (.goto 4, 3) := by decide +kernel
theorem dX10_whereOf_5 : decode cX10_whereOf 5 = .ok (.bipush 10, 2) := by decide +kernel
theorem dX10_whereOf_7 : decode cX10_whereOf 7 = .ok (.iload_n 2, 1) := by decide +kernel
theorem dX10_whereOf_8 : decode cX10_whereOf 8 = .ok (.iadd, 1) := by decide +kernel
theorem dX10_whereOf_9 : decode cX10_whereOf 9 = .ok (.ireturn, 1) := by decide +kernel
set_option maxRecDepth 20000 in
theorem k_X10_whereOf (d : Nat) {T : CT} {σ : MS} {a : Nat} {c : Nat} {i : Int} (ha : OB T a 10) (h_c : OB T c 1) (h_i : -2147483648 ≤ i ∧ i ≤ 2147483647) (hw : WT T σ) : Tn (d + 2) m_X10_whereOf 0 T σ [(0, .ref a), (1, .ref c), (2, .int (iI i))] [] (fun ro T2 σ2 => ∃ v : Int, ro = some (.int (iI v)) ∧ T = T2 ∧ σ = σ2 ∧ (-2147483648 ≤ v ∧ v ≤ 2147483647)) := by
  refine tn_iload_n dX10_whereOf_0 rfl 2 rfl ?_
  refine tn_iconst dX10_whereOf_1 ?_
  refine tn_icmp_ge (tgt := 10) dX10_whereOf_2 (by decide) ⟨by omega, by omega⟩ ⟨by decide, by decide⟩ (fun h1 => ?_) (fun h1 => ?_)
  · refine tn_iload_n dX10_whereOf_10 rfl 2 rfl ?_
    refine tn_bipush dX10_whereOf_11 (by decide) ?_
    refine tn_icmp_ge (tgt := 27) dX10_whereOf_13 (by decide) ⟨by omega, by omega⟩ ⟨by decide, by decide⟩ (fun h2 => ?_) (fun h2 => ?_)
    · refine tn_aload_n dX10_whereOf_27 rfl 1 rfl ?_
      refine tn_iload_n dX10_whereOf_28 rfl 2 rfl ?_
      refine tn_bipush dX10_whereOf_29 (by decide) ?_
      refine tn_isub dX10_whereOf_31 ?_
      refine tn_bipush dX10_whereOf_32 (by decide) ?_
      refine tn_callV (M := m_X10_whereOf) (pc := 34) (ix := 44) (ci := 1) (M' := m_X1_get) (As := [.int (iI (i - 10)), .int (iI 11)]) (rest := []) dX10_whereOf_34 ok_X1_get im_X1_get se_X1_get ml10_44 np_X1_get rfl rfl h_c rfl (Nat.le_of_ble_eq_true rfl) (Nat.le_of_ble_eq_true rfl) rfl (k_X1_get (d) (T := T) (σ := σ) (a := c) (k := i - 10) (c := 11) h_c (by omega) (by decide) hw (by omega)) (fun r3 T5 σ4 gt6 hp => ?_)
      obtain ⟨v8, rfl, rfl, rfl, f7⟩ := hp
      clear gt6
      show Tn _ _ 37 T σ [(0, .ref a), (1, .ref c), (2, .int (iI i))] [.int (iI v8)] _
      exact tn_iret rfl dX10_whereOf_37 ⟨_, rfl, rfl, rfl, by omega⟩
    · refine tn_iload_n dX10_whereOf_16 rfl 2 rfl ?_
      refine tn_iconst dX10_whereOf_17 ?_
      refine tn_icmp_ne (tgt := 25) dX10_whereOf_18 (by decide) ⟨by omega, by omega⟩ ⟨by decide, by decide⟩ (fun h9 => ?_) (fun h9 => ?_)
      · refine tn_iconst dX10_whereOf_25 ?_
        exact tn_iret rfl dX10_whereOf_26 ⟨_, rfl, rfl, rfl, by omega⟩
      · refine tn_iconst dX10_whereOf_21 ?_
        refine tn_goto (tgt := 26) dX10_whereOf_22 (by decide) ?_
        exact tn_iret rfl dX10_whereOf_26 ⟨_, rfl, rfl, rfl, by omega⟩
  · refine tn_bipush dX10_whereOf_5 (by decide) ?_
    refine tn_iload_n dX10_whereOf_7 rfl 2 rfl ?_
    refine tn_iadd dX10_whereOf_8 ?_
    exact tn_iret rfl dX10_whereOf_9 ⟨_, rfl, rfl, rfl, by omega⟩
end
section
theorem cd_X10_part : Cond.code yX10_part cX10_part 4 (some .int) ∈ pWW := pw4 (List.mem_of_getElem? (i := 175) rfl) rfl
abbrev m_X10_part : MT := (yX10_part, cX10_part, 4, (some .int))
theorem ok_X10_part : pOk m_X10_part := ⟨⟨cd_X10_part, ini_10⟩, by decide +kernel, ⟨by decide +kernel, by decide +kernel⟩, Nat.le_of_ble_eq_true rfl⟩
theorem np_X10_part : (parseMethodDescriptor yX10_part.desc).map (fun d => d.parameters.length) = some 3 := by decide +kernel
theorem im_X10_part : Cond.instanceMethod yX10_part ∈ pWW := pw4 (List.mem_of_getElem? (i := 173) rfl) rfl
theorem se_X10_part : Cond.selects RX10 yX10_part yX10_part ∈ pWW := pw4 (List.mem_of_getElem? (i := 174) rfl) rfl
theorem ml10_47 : Cond.methodLink RX10 47 yX1_homeOf ∈ pWW := pw4 (List.mem_of_getElem? (i := 120) rfl) rfl
theorem dX10_part_0 : decode cX10_part 0 = .ok (.iload_n 2, 1) := by decide +kernel
theorem dX10_part_1 : decode cX10_part 1 = .ok (.bipush 10, 2) := by decide +kernel
theorem dX10_part_3 : decode cX10_part 3 = .ok (.if_icmp .lt 13, 3) := by decide +kernel
theorem dX10_part_16 : decode cX10_part 16 = .ok (.iload_n 2, 1) := by decide +kernel
theorem dX10_part_17 : decode cX10_part 17 = .ok (.bipush 6, 2) := by decide +kernel
theorem dX10_part_19 : decode cX10_part 19 = .ok (.if_icmp .lt 20, 3) := by decide +kernel
theorem dX10_part_39 : decode cX10_part 39 = .ok (.iconst 0, 1) := by decide +kernel
theorem dX10_part_40 : decode cX10_part 40 = .ok (.ireturn, 1) := by decide +kernel
theorem dX10_part_22 : decode cX10_part 22 = .ok (.iload_n 3, 1) := by decide +kernel
theorem dX10_part_23 : decode cX10_part 23 = .ok (.iconst 4, 1) := by decide +kernel
theorem dX10_part_24 : decode cX10_part 24 = .ok (.if_icmp .ne 15, 3) := by decide +kernel
theorem dX10_part_27 : decode cX10_part 27 = .ok (.aload_n 1, 1) := by decide +kernel
theorem dX10_part_28 : decode cX10_part 28 = .ok (.iconst 0, 1) := by decide +kernel
theorem dX10_part_29 : decode cX10_part 29 = .ok (.iload_n 2, 1) := by decide +kernel
theorem dX10_part_30 : decode cX10_part 30 = .ok (.bipush 6, 2) := by decide +kernel
theorem dX10_part_32 : decode cX10_part 32 = .ok (.isub, 1) := by decide +kernel
theorem dX10_part_33 : decode cX10_part 33 = .ok (.invokevirtual 47, 3) := by decide +kernel
theorem dX10_part_36 : decode cX10_part 36 = .ok (.goto 4, 3) := by decide +kernel
theorem dX10_part_6 : decode cX10_part 6 = .ok (.aload_n 1, 1) := by decide +kernel
theorem dX10_part_7 : decode cX10_part 7 = .ok (.iload_n 2, 1) := by decide +kernel
theorem dX10_part_8 : decode cX10_part 8 = .ok (.bipush 10, 2) := by decide +kernel
theorem dX10_part_10 : decode cX10_part 10 = .ok (.isub, 1) := by decide +kernel
theorem dX10_part_11 : decode cX10_part 11 = .ok (.iload_n 3, 1) := by decide +kernel
theorem dX10_part_12 : decode cX10_part 12 = .ok (.invokevirtual 44, 3) := by decide +kernel
theorem dX10_part_15 : decode cX10_part 15 = .ok (.ireturn, 1) := by decide +kernel
set_option maxRecDepth 20000 in
theorem k_X10_part (d : Nat) {T : CT} {σ : MS} {a : Nat} {c : Nat} {i : Int} {e : Int} (ha : OB T a 10) (h_c : OB T c 1) (h_i : -2147483648 ≤ i ∧ i ≤ 2147483647) (h_e : -2147483648 ≤ e ∧ e ≤ 2147483647) (hw : WT T σ) (hc : 0 ≤ e ∧ e ≤ 12) : Tn (d + 3) m_X10_part 0 T σ [(0, .ref a), (1, .ref c), (2, .int (iI i)), (3, .int (iI e))] [] (fun ro T2 σ2 => ∃ v : Int, ro = some (.int (iI v)) ∧ T = T2 ∧ σ = σ2 ∧ (-2147483648 ≤ v ∧ v ≤ 2147483647)) := by
  refine tn_iload_n dX10_part_0 rfl 2 rfl ?_
  refine tn_bipush dX10_part_1 (by decide) ?_
  refine tn_icmp_lt (tgt := 16) dX10_part_3 (by decide) ⟨by omega, by omega⟩ ⟨by decide, by decide⟩ (fun h1 => ?_) (fun h1 => ?_)
  · refine tn_iload_n dX10_part_16 rfl 2 rfl ?_
    refine tn_bipush dX10_part_17 (by decide) ?_
    refine tn_icmp_lt (tgt := 39) dX10_part_19 (by decide) ⟨by omega, by omega⟩ ⟨by decide, by decide⟩ (fun h2 => ?_) (fun h2 => ?_)
    · refine tn_iconst dX10_part_39 ?_
      exact tn_iret rfl dX10_part_40 ⟨_, rfl, rfl, rfl, by omega⟩
    · refine tn_iload_n dX10_part_22 rfl 3 rfl ?_
      refine tn_iconst dX10_part_23 ?_
      refine tn_icmp_ne (tgt := 39) dX10_part_24 (by decide) ⟨by omega, by omega⟩ ⟨by decide, by decide⟩ (fun h3 => ?_) (fun h3 => ?_)
      · refine tn_iconst dX10_part_39 ?_
        exact tn_iret rfl dX10_part_40 ⟨_, rfl, rfl, rfl, by omega⟩
      · refine tn_aload_n dX10_part_27 rfl 1 rfl ?_
        refine tn_iconst dX10_part_28 ?_
        refine tn_iload_n dX10_part_29 rfl 2 rfl ?_
        refine tn_bipush dX10_part_30 (by decide) ?_
        refine tn_isub dX10_part_32 ?_
        refine tn_callV (M := m_X10_part) (pc := 33) (ix := 47) (ci := 1) (M' := m_X1_homeOf) (As := [.int (iI 0), .int (iI (i - 6))]) (rest := []) dX10_part_33 ok_X1_homeOf im_X1_homeOf se_X1_homeOf ml10_47 np_X1_homeOf rfl rfl h_c rfl (Nat.le_of_ble_eq_true rfl) (Nat.le_of_ble_eq_true rfl) rfl (k_X1_homeOf (d) (T := T) (σ := σ) (a := c) (f := 0) (m := i - 6) h_c (by decide) (by omega) hw ) (fun r4 T6 σ5 gt7 hp => ?_)
        obtain ⟨v9, rfl, rfl, rfl, f8⟩ := hp
        clear gt7
        show Tn _ _ 36 T σ [(0, .ref a), (1, .ref c), (2, .int (iI i)), (3, .int (iI e))] [.int (iI v9)] _
        refine tn_goto (tgt := 40) dX10_part_36 (by decide) ?_
        exact tn_iret rfl dX10_part_40 ⟨_, rfl, rfl, rfl, by omega⟩
  · refine tn_aload_n dX10_part_6 rfl 1 rfl ?_
    refine tn_iload_n dX10_part_7 rfl 2 rfl ?_
    refine tn_bipush dX10_part_8 (by decide) ?_
    refine tn_isub dX10_part_10 ?_
    refine tn_iload_n dX10_part_11 rfl 3 rfl ?_
    refine tn_callV (M := m_X10_part) (pc := 12) (ix := 44) (ci := 1) (M' := m_X1_get) (As := [.int (iI (i - 10)), .int (iI e)]) (rest := []) dX10_part_12 ok_X1_get im_X1_get se_X1_get ml10_44 np_X1_get rfl rfl h_c rfl (Nat.le_of_ble_eq_true rfl) (Nat.le_of_ble_eq_true rfl) rfl (k_X1_get (d + 1) (T := T) (σ := σ) (a := c) (k := i - 10) (c := e) h_c (by omega) (by omega) hw (by omega)) (fun r10 T12 σ11 gt13 hp => ?_)
    obtain ⟨v15, rfl, rfl, rfl, f14⟩ := hp
    clear gt13
    show Tn _ _ 15 T σ [(0, .ref a), (1, .ref c), (2, .int (iI i)), (3, .int (iI e))] [.int (iI v15)] _
    exact tn_iret rfl dX10_part_15 ⟨_, rfl, rfl, rfl, by omega⟩
end
section
theorem cd_X10_leans : Cond.code yX10_leans cX10_leans 4 (some .boolean) ∈ pWW := pw4 (List.mem_of_getElem? (i := 143) rfl) rfl
abbrev m_X10_leans : MT := (yX10_leans, cX10_leans, 4, (some .boolean))
theorem ok_X10_leans : pOk m_X10_leans := ⟨⟨cd_X10_leans, ini_10⟩, by decide +kernel, ⟨by decide +kernel, by decide +kernel⟩, Nat.le_of_ble_eq_true rfl⟩
theorem np_X10_leans : (parseMethodDescriptor yX10_leans.desc).map (fun d => d.parameters.length) = some 3 := by decide +kernel
theorem im_X10_leans : Cond.instanceMethod yX10_leans ∈ pWW := pw4 (List.mem_of_getElem? (i := 142) rfl) rfl
theorem se_X10_leans : Cond.selects RX10 yX10_leans yX10_leans ∈ pWW := pws (List.mem_map.mpr ⟨_, lw_pin 42 rfl, rfl⟩) rfl
theorem ml10_117 : Cond.methodLink RX10 117 yX1_leansOn ∈ pWW := pw4 (List.mem_of_getElem? (i := 144) rfl) rfl
theorem dX10_leans_0 : decode cX10_leans 0 = .ok (.iload_n 2, 1) := by decide +kernel
theorem dX10_leans_1 : decode cX10_leans 1 = .ok (.bipush 6, 2) := by decide +kernel
theorem dX10_leans_3 : decode cX10_leans 3 = .ok (.if_icmp .ge 5, 3) := by decide +kernel
theorem dX10_leans_8 : decode cX10_leans 8 = .ok (.iload_n 2, 1) := by decide +kernel
theorem dX10_leans_9 : decode cX10_leans 9 = .ok (.bipush 10, 2) := by decide +kernel
theorem dX10_leans_11 : decode cX10_leans 11 = .ok (.if_icmp .ge 24, 3) := by decide +kernel
theorem dX10_leans_35 : decode cX10_leans 35 = .ok (.aload_n 1, 1) := by decide +kernel
theorem dX10_leans_36 : decode cX10_leans 36 = .ok (.iload_n 2, 1) := by decide +kernel
theorem dX10_leans_37 : decode cX10_leans 37 = .ok (.bipush 10, 2) := by decide +kernel
theorem dX10_leans_39 : decode cX10_leans 39 = .ok (.isub, 1) := by decide +kernel
theorem dX10_leans_40 : decode cX10_leans 40 = .ok (.iload_n 3, 1) := by decide +kernel
theorem dX10_leans_41 : decode cX10_leans 41 = .ok (.invokevirtual 117, 3) := by decide +kernel
theorem dX10_leans_44 : decode cX10_leans 44 = .ok (.ireturn, 1) := by decide +kernel
theorem dX10_leans_14 : decode cX10_leans 14 = .ok (.aload_n 1, 1) := by decide +kernel
theorem dX10_leans_15 : decode cX10_leans 15 = .ok (.iconst 0, 1) := by decide +kernel
theorem dX10_leans_16 : decode cX10_leans 16 = .ok (.iload_n 2, 1) := by decide +kernel
theorem dX10_leans_17 : decode cX10_leans 17 = .ok (.bipush 6, 2) := by decide +kernel
theorem dX10_leans_19 : decode cX10_leans 19 = .ok (.isub, 1) := by decide +kernel
theorem dX10_leans_20 : decode cX10_leans 20 = .ok (.invokevirtual 47, 3) := by decide +kernel
theorem dX10_leans_23 : decode cX10_leans 23 = .ok (.iload_n 3, 1) := by decide +kernel
theorem dX10_leans_24 : decode cX10_leans 24 = .ok (.if_icmp .ne 7, 3) := by decide +kernel
theorem dX10_leans_31 : decode cX10_leans 31 = .ok (.iconst 0, 1) := by decide +kernel
theorem dX10_leans_32 : decode cX10_leans 32 = .ok (.goto 12, 3) := by decide +kernel
theorem dX10_leans_27 : decode cX10_leans 27 = .ok (.iconst 1, 1) := by decide +kernel
theorem dX10_leans_28 : decode cX10_leans 28 = .ok (.goto 16, 3) := by decide +kernel
theorem dX10_leans_6 : decode cX10_leans 6 = .ok (.iconst 0, 1) := by decide +kernel
theorem dX10_leans_7 : decode cX10_leans 7 = .ok (.ireturn, 1) := by decide +kernel
end
section
theorem cd_X10_nameBind : Cond.code yX10_nameBind cX10_nameBind 5 none ∈ pWW := pw4 (List.mem_of_getElem? (i := 118) rfl) rfl
abbrev m_X10_nameBind : MT := (yX10_nameBind, cX10_nameBind, 5, none)
theorem ok_X10_nameBind : pOk m_X10_nameBind := ⟨⟨cd_X10_nameBind, ini_10⟩, by decide +kernel, ⟨by decide +kernel, by decide +kernel⟩, Nat.le_of_ble_eq_true rfl⟩
theorem np_X10_nameBind : (parseMethodDescriptor yX10_nameBind.desc).map (fun d => d.parameters.length) = some 2 := by decide +kernel
theorem im_X10_nameBind : Cond.instanceMethod yX10_nameBind ∈ pWW := pw4 (List.mem_of_getElem? (i := 117) rfl) rfl
theorem se_X10_nameBind : Cond.selects RX10 yX10_nameBind yX10_nameBind ∈ pWW := pws (List.mem_map.mpr ⟨_, lw_pin 39 rfl, rfl⟩) rfl
theorem fl10_86 : Cond.fieldLink RX10 86 (TX1 3).1 (TX1 3).2.1 (TX1 3).2.2.1 ∈ pWW := pw1 (List.mem_of_getElem? (i := 97) rfl) rfl
theorem dX10_nameBind_0 : decode cX10_nameBind 0 = .ok (.aload_n 1, 1) := by decide +kernel
theorem dX10_nameBind_1 : decode cX10_nameBind 1 = .ok (.iload_n 2, 1) := by decide +kernel
theorem dX10_nameBind_2 : decode cX10_nameBind 2 = .ok (.iconst 0, 1) := by decide +kernel
theorem dX10_nameBind_3 : decode cX10_nameBind 3 = .ok (.invokevirtual 44, 3) := by decide +kernel
theorem dX10_nameBind_6 : decode cX10_nameBind 6 = .ok (.bipush 12, 2) := by decide +kernel
theorem dX10_nameBind_8 : decode cX10_nameBind 8 = .ok (.if_icmp .eq 4, 3) := by decide +kernel
theorem dX10_nameBind_12 : decode cX10_nameBind 12 = .ok (.aload_n 1, 1) := by decide +kernel
theorem dX10_nameBind_13 : decode cX10_nameBind 13 = .ok (.iload_n 2, 1) := by decide +kernel
theorem dX10_nameBind_14 : decode cX10_nameBind 14 = .ok (.bipush 11, 2) := by decide +kernel
theorem dX10_nameBind_16 : decode cX10_nameBind 16 = .ok (.invokevirtual 44, 3) := by decide +kernel
theorem dX10_nameBind_19 : decode cX10_nameBind 19 = .ok (.istore_n 3, 1) := by decide +kernel
theorem dX10_nameBind_20 : decode cX10_nameBind 20 = .ok (.iload_n 3, 1) := by decide +kernel
theorem dX10_nameBind_21 : decode cX10_nameBind 21 = .ok (.bipush 10, 2) := by decide +kernel
theorem dX10_nameBind_23 : decode cX10_nameBind 23 = .ok (.if_icmp .lt 16, 3) := by decide +kernel
theorem dX10_nameBind_39 : decode cX10_nameBind 39 = .ok (.iload_n 3, 1) := by decide +kernel
theorem dX10_nameBind_40 : decode cX10_nameBind 40 = .ok (.iconst 1, 1) := by decide +kernel
theorem dX10_nameBind_41 : decode cX10_nameBind 41 = .ok (.if_icmp .ne 22, 3) := by decide +kernel
theorem dX10_nameBind_63 : decode cX10_nameBind 63 = .ok (.iconst 0, 1) := by decide +kernel
theorem dX10_nameBind_64 : decode cX10_nameBind 64 = .ok (.istore 4, 2) := by decide +kernel
theorem dX10_nameBind_66 : decode cX10_nameBind 66 = .ok (.iload_n 3, 1) := by decide +kernel
theorem dX10_nameBind_67 : decode cX10_nameBind 67 = .ok (.iconst 2, 1) := by decide +kernel
theorem dX10_nameBind_68 : decode cX10_nameBind 68 = .ok (.if_icmp .ne 48, 3) := by decide +kernel
theorem dX10_nameBind_71 : decode cX10_nameBind 71 = .ok (.iload 4, 2) := by decide +kernel
theorem dX10_nameBind_73 : decode cX10_nameBind 73 = .ok (.aload_n 1, 1) := by decide +kernel
theorem dX10_nameBind_74 : decode cX10_nameBind 74 = .ok (.getfield 86, 3) := by decide +kernel
theorem dX10_nameBind_77 : decode cX10_nameBind 77 = .ok (.if_icmp .ge 39, 3) := by decide +kernel
theorem dX10_nameBind_80 : decode cX10_nameBind 80 = .ok (.aload_n 1, 1) := by decide +kernel
theorem dX10_nameBind_81 : decode cX10_nameBind 81 = .ok (.iconst 0, 1) := by decide +kernel
theorem dX10_nameBind_82 : decode cX10_nameBind 82 = .ok (.iload 4, 2) := by decide +kernel
theorem dX10_nameBind_84 : decode cX10_nameBind 84 = .ok (.invokevirtual 47, 3) := by decide +kernel
theorem dX10_nameBind_87 : decode cX10_nameBind 87 = .ok (.aload_n 1, 1) := by decide +kernel
theorem dX10_nameBind_88 : decode cX10_nameBind 88 = .ok (.iload_n 2, 1) := by decide +kernel
theorem dX10_nameBind_89 : decode cX10_nameBind 89 = .ok (.iconst 4, 1) := by decide +kernel
theorem dX10_nameBind_90 : decode cX10_nameBind 90 = .ok (.invokevirtual 44, 3) := by decide +kernel
theorem dX10_nameBind_93 : decode cX10_nameBind 93 = .ok (.if_icmp .ne 17, 3) := by decide +kernel
theorem dX10_nameBind_110 : decode cX10_nameBind 110 = .ok (.iinc 4 1, 3) := by decide +kernel
theorem dX10_nameBind_113 : decode cX10_nameBind 113 = .ok (.goto (-47), 3) := by decide +kernel
theorem fl10_20 : Cond.fieldLink RX10 20 (TX10 2).1 (TX10 2).2.1 (TX10 2).2.2.1 ∈ pWW := pw2 (List.mem_of_getElem? (i := 9) rfl) rfl
theorem ml10_89 : Cond.methodLink RX10 89 yX1_sameWhere ∈ pWW := pw4 (List.mem_of_getElem? (i := 121) rfl) rfl
theorem dX10_nameBind_96 : decode cX10_nameBind 96 = .ok (.aload_n 0, 1) := by decide +kernel
theorem dX10_nameBind_97 : decode cX10_nameBind 97 = .ok (.getfield 20, 3) := by decide +kernel
theorem dX10_nameBind_100 : decode cX10_nameBind 100 = .ok (.iload_n 2, 1) := by decide +kernel
theorem dX10_nameBind_101 : decode cX10_nameBind 101 = .ok (.bipush 6, 2) := by decide +kernel
theorem dX10_nameBind_103 : decode cX10_nameBind 103 = .ok (.iload 4, 2) := by decide +kernel
theorem dX10_nameBind_105 : decode cX10_nameBind 105 = .ok (.iadd, 1) := by decide +kernel
theorem dX10_nameBind_106 : decode cX10_nameBind 106 = .ok (.invokestatic 26, 3) := by decide +kernel
theorem dX10_nameBind_109 : decode cX10_nameBind 109 = .ok (.return_, 1) := by decide +kernel
theorem dX10_nameBind_116 : decode cX10_nameBind 116 = .ok (.iconst 0, 1) := by decide +kernel
theorem dX10_nameBind_117 : decode cX10_nameBind 117 = .ok (.istore 4, 2) := by decide +kernel
theorem dX10_nameBind_119 : decode cX10_nameBind 119 = .ok (.iload 4, 2) := by decide +kernel
theorem dX10_nameBind_121 : decode cX10_nameBind 121 = .ok (.iload_n 2, 1) := by decide +kernel
theorem dX10_nameBind_122 : decode cX10_nameBind 122 = .ok (.if_icmp .ge 31, 3) := by decide +kernel
theorem dX10_nameBind_125 : decode cX10_nameBind 125 = .ok (.aload_n 1, 1) := by decide +kernel
theorem dX10_nameBind_126 : decode cX10_nameBind 126 = .ok (.iload 4, 2) := by decide +kernel
theorem dX10_nameBind_128 : decode cX10_nameBind 128 = .ok (.iconst 0, 1) := by decide +kernel
theorem dX10_nameBind_129 : decode cX10_nameBind 129 = .ok (.invokevirtual 44, 3) := by decide +kernel
theorem dX10_nameBind_132 : decode cX10_nameBind 132 = .ok (.bipush 12, 2) := by decide +kernel
theorem dX10_nameBind_134 : decode cX10_nameBind 134 = .ok (.if_icmp .ne 13, 3) := by decide +kernel
theorem dX10_nameBind_147 : decode cX10_nameBind 147 = .ok (.iinc 4 1, 3) := by decide +kernel
theorem dX10_nameBind_150 : decode cX10_nameBind 150 = .ok (.goto (-31), 3) := by decide +kernel
theorem dX10_nameBind_137 : decode cX10_nameBind 137 = .ok (.aload_n 1, 1) := by decide +kernel
theorem dX10_nameBind_138 : decode cX10_nameBind 138 = .ok (.iload 4, 2) := by decide +kernel
theorem dX10_nameBind_140 : decode cX10_nameBind 140 = .ok (.iload_n 2, 1) := by decide +kernel
theorem dX10_nameBind_141 : decode cX10_nameBind 141 = .ok (.invokevirtual 89, 3) := by decide +kernel
theorem dX10_nameBind_144 : decode cX10_nameBind 144 = .ok (.ifCond .ne 9, 3) := by decide +kernel
theorem dX10_nameBind_153 : decode cX10_nameBind 153 = .ok (.aload_n 0, 1) := by decide +kernel
theorem dX10_nameBind_154 : decode cX10_nameBind 154 = .ok (.getfield 20, 3) := by decide +kernel
theorem dX10_nameBind_157 : decode cX10_nameBind 157 = .ok (.iload_n 2, 1) := by decide +kernel
theorem dX10_nameBind_158 : decode cX10_nameBind 158 = .ok (.bipush 10, 2) := by decide +kernel
theorem dX10_nameBind_160 : decode cX10_nameBind 160 = .ok (.iload 4, 2) := by decide +kernel
theorem dX10_nameBind_162 : decode cX10_nameBind 162 = .ok (.iadd, 1) := by decide +kernel
theorem dX10_nameBind_163 : decode cX10_nameBind 163 = .ok (.invokestatic 26, 3) := by decide +kernel
theorem dX10_nameBind_166 : decode cX10_nameBind 166 = .ok (.return_, 1) := by decide +kernel
theorem dX10_nameBind_44 : decode cX10_nameBind 44 = .ok (.aload_n 1, 1) := by decide +kernel
theorem dX10_nameBind_45 : decode cX10_nameBind 45 = .ok (.iload_n 2, 1) := by decide +kernel
theorem dX10_nameBind_46 : decode cX10_nameBind 46 = .ok (.iconst 4, 1) := by decide +kernel
theorem dX10_nameBind_47 : decode cX10_nameBind 47 = .ok (.invokevirtual 44, 3) := by decide +kernel
theorem dX10_nameBind_50 : decode cX10_nameBind 50 = .ok (.ifCond .ne 13, 3) := by decide +kernel
theorem dX10_nameBind_53 : decode cX10_nameBind 53 = .ok (.aload_n 0, 1) := by decide +kernel
theorem dX10_nameBind_54 : decode cX10_nameBind 54 = .ok (.getfield 20, 3) := by decide +kernel
theorem dX10_nameBind_57 : decode cX10_nameBind 57 = .ok (.iload_n 2, 1) := by decide +kernel
theorem dX10_nameBind_58 : decode cX10_nameBind 58 = .ok (.iconst 5, 1) := by decide +kernel
theorem dX10_nameBind_59 : decode cX10_nameBind 59 = .ok (.invokestatic 26, 3) := by decide +kernel
theorem dX10_nameBind_62 : decode cX10_nameBind 62 = .ok (.return_, 1) := by decide +kernel
theorem dX10_nameBind_26 : decode cX10_nameBind 26 = .ok (.aload_n 0, 1) := by decide +kernel
theorem dX10_nameBind_27 : decode cX10_nameBind 27 = .ok (.getfield 20, 3) := by decide +kernel
theorem dX10_nameBind_30 : decode cX10_nameBind 30 = .ok (.iload_n 2, 1) := by decide +kernel
theorem dX10_nameBind_31 : decode cX10_nameBind 31 = .ok (.iload_n 3, 1) := by decide +kernel
theorem dX10_nameBind_32 : decode cX10_nameBind 32 = .ok (.bipush 10, 2) := by decide +kernel
theorem dX10_nameBind_34 : decode cX10_nameBind 34 = .ok (.isub, 1) := by decide +kernel
theorem dX10_nameBind_35 : decode cX10_nameBind 35 = .ok (.invokestatic 26, 3) := by decide +kernel
theorem dX10_nameBind_38 : decode cX10_nameBind 38 = .ok (.return_, 1) := by decide +kernel
theorem dX10_nameBind_11 : decode cX10_nameBind 11 = .ok (.return_, 1) := by decide +kernel
end
section
theorem cd_X10_begin : Cond.code yX10_begin cX10_begin 3 none ∈ pWW := pw4 (List.mem_of_getElem? (i := 132) rfl) rfl
abbrev m_X10_begin : MT := (yX10_begin, cX10_begin, 3, none)
theorem ok_X10_begin : pOk m_X10_begin := ⟨⟨cd_X10_begin, ini_10⟩, by decide +kernel, ⟨by decide +kernel, by decide +kernel⟩, Nat.le_of_ble_eq_true rfl⟩
theorem np_X10_begin : (parseMethodDescriptor yX10_begin.desc).map (fun d => d.parameters.length) = some 1 := by decide +kernel
theorem im_X10_begin : Cond.instanceMethod yX10_begin ∈ pWW := pw4 (List.mem_of_getElem? (i := 131) rfl) rfl
theorem se_X10_begin : Cond.selects RX10 yX10_begin yX10_begin ∈ pWW := pws (List.mem_map.mpr ⟨_, lw_pin 40 rfl, rfl⟩) rfl
theorem fl10_50 : Cond.fieldLink RX10 50 (TX10 5).1 (TX10 5).2.1 (TX10 5).2.2.1 ∈ pWW := pw2 (List.mem_of_getElem? (i := 12) rfl) rfl
theorem fl10_61 : Cond.fieldLink RX10 61 (TX10 4).1 (TX10 4).2.1 (TX10 4).2.2.1 ∈ pWW := pw2 (List.mem_of_getElem? (i := 11) rfl) rfl
theorem dX10_begin_0 : decode cX10_begin 0 = .ok (.iconst 0, 1) := by decide +kernel
theorem dX10_begin_1 : decode cX10_begin 1 = .ok (.istore_n 2, 1) := by decide +kernel
theorem dX10_begin_2 : decode cX10_begin 2 = .ok (.iload_n 2, 1) := by decide +kernel
theorem dX10_begin_3 : decode cX10_begin 3 = .ok (.aload_n 0, 1) := by decide +kernel
theorem dX10_begin_4 : decode cX10_begin 4 = .ok (.getfield 50, 3) := by decide +kernel
theorem dX10_begin_7 : decode cX10_begin 7 = .ok (.if_icmp .ge 18, 3) := by decide +kernel
theorem dX10_begin_10 : decode cX10_begin 10 = .ok (.aload_n 0, 1) := by decide +kernel
theorem dX10_begin_11 : decode cX10_begin 11 = .ok (.getfield 61, 3) := by decide +kernel
theorem dX10_begin_14 : decode cX10_begin 14 = .ok (.iload_n 2, 1) := by decide +kernel
theorem dX10_begin_15 : decode cX10_begin 15 = .ok (.iconst 1, 1) := by decide +kernel
theorem dX10_begin_16 : decode cX10_begin 16 = .ok (.invokestatic 26, 3) := by decide +kernel
theorem dX10_begin_19 : decode cX10_begin 19 = .ok (.iinc 2 1, 3) := by decide +kernel
theorem dX10_begin_22 : decode cX10_begin 22 = .ok (.goto (-20), 3) := by decide +kernel
theorem fl10_93 : Cond.fieldLink RX10 93 (TX1 2).1 (TX1 2).2.1 (TX1 2).2.2.1 ∈ pWW := pw1 (List.mem_of_getElem? (i := 90) rfl) rfl
theorem dX10_begin_25 : decode cX10_begin 25 = .ok (.iconst 0, 1) := by decide +kernel
theorem dX10_begin_26 : decode cX10_begin 26 = .ok (.istore_n 2, 1) := by decide +kernel
theorem dX10_begin_27 : decode cX10_begin 27 = .ok (.iload_n 2, 1) := by decide +kernel
theorem dX10_begin_28 : decode cX10_begin 28 = .ok (.aload_n 1, 1) := by decide +kernel
theorem dX10_begin_29 : decode cX10_begin 29 = .ok (.getfield 93, 3) := by decide +kernel
theorem dX10_begin_32 : decode cX10_begin 32 = .ok (.if_icmp .ge 38, 3) := by decide +kernel
theorem dX10_begin_35 : decode cX10_begin 35 = .ok (.aload_n 0, 1) := by decide +kernel
theorem dX10_begin_36 : decode cX10_begin 36 = .ok (.getfield 61, 3) := by decide +kernel
theorem dX10_begin_39 : decode cX10_begin 39 = .ok (.aload_n 1, 1) := by decide +kernel
theorem dX10_begin_40 : decode cX10_begin 40 = .ok (.iconst 0, 1) := by decide +kernel
theorem dX10_begin_41 : decode cX10_begin 41 = .ok (.iload_n 2, 1) := by decide +kernel
theorem dX10_begin_42 : decode cX10_begin 42 = .ok (.invokevirtual 36, 3) := by decide +kernel
theorem dX10_begin_45 : decode cX10_begin 45 = .ok (.iload_n 2, 1) := by decide +kernel
theorem dX10_begin_46 : decode cX10_begin 46 = .ok (.aload_n 1, 1) := by decide +kernel
theorem dX10_begin_47 : decode cX10_begin 47 = .ok (.getfield 86, 3) := by decide +kernel
theorem dX10_begin_50 : decode cX10_begin 50 = .ok (.if_icmp .ge 10, 3) := by decide +kernel
theorem dX10_begin_60 : decode cX10_begin 60 = .ok (.iconst 5, 1) := by decide +kernel
theorem dX10_begin_61 : decode cX10_begin 61 = .ok (.invokestatic 26, 3) := by decide +kernel
theorem dX10_begin_64 : decode cX10_begin 64 = .ok (.iinc 2 1, 3) := by decide +kernel
theorem dX10_begin_67 : decode cX10_begin 67 = .ok (.goto (-40), 3) := by decide +kernel
theorem dX10_begin_53 : decode cX10_begin 53 = .ok (.bipush 6, 2) := by decide +kernel
theorem dX10_begin_55 : decode cX10_begin 55 = .ok (.iload_n 2, 1) := by decide +kernel
theorem dX10_begin_56 : decode cX10_begin 56 = .ok (.iadd, 1) := by decide +kernel
theorem dX10_begin_57 : decode cX10_begin 57 = .ok (.goto 4, 3) := by decide +kernel
theorem dX10_begin_70 : decode cX10_begin 70 = .ok (.return_, 1) := by decide +kernel
end
section
theorem cd_X10_comeTo : Cond.code yX10_comeTo cX10_comeTo 6 none ∈ pWW := pw4 (List.mem_of_getElem? (i := 155) rfl) rfl
abbrev m_X10_comeTo : MT := (yX10_comeTo, cX10_comeTo, 6, none)
theorem ok_X10_comeTo : pOk m_X10_comeTo := ⟨⟨cd_X10_comeTo, ini_10⟩, by decide +kernel, ⟨by decide +kernel, by decide +kernel⟩, Nat.le_of_ble_eq_true rfl⟩
theorem np_X10_comeTo : (parseMethodDescriptor yX10_comeTo.desc).map (fun d => d.parameters.length) = some 2 := by decide +kernel
theorem im_X10_comeTo : Cond.instanceMethod yX10_comeTo ∈ pWW := pw4 (List.mem_of_getElem? (i := 154) rfl) rfl
theorem se_X10_comeTo : Cond.selects RX10 yX10_comeTo yX10_comeTo ∈ pWW := pws (List.mem_map.mpr ⟨_, lw_pin 43 rfl, rfl⟩) rfl
theorem fl10_53 : Cond.fieldLink RX10 53 (TX1 1).1 (TX1 1).2.1 (TX1 1).2.2.1 ∈ pWW := pw1 (List.mem_of_getElem? (i := 85) rfl) rfl
theorem fl10_23 : Cond.fieldLink RX10 23 (TX10 3).1 (TX10 3).2.1 (TX10 3).2.2.1 ∈ pWW := pw2 (List.mem_of_getElem? (i := 10) rfl) rfl
theorem fl10_78 : Cond.fieldLink RX10 78 (TX10 6).1 (TX10 6).2.1 (TX10 6).2.2.1 ∈ pWW := pw2 (List.mem_of_getElem? (i := 13) rfl) rfl
theorem dX10_comeTo_0 : decode cX10_comeTo 0 = .ok (.iload_n 2, 1) := by decide +kernel
theorem dX10_comeTo_1 : decode cX10_comeTo 1 = .ok (.ifCond .lt 11, 3) := by decide +kernel
theorem dX10_comeTo_12 : decode cX10_comeTo 12 = .ok (.return_, 1) := by decide +kernel
theorem dX10_comeTo_4 : decode cX10_comeTo 4 = .ok (.iload_n 2, 1) := by decide +kernel
theorem dX10_comeTo_5 : decode cX10_comeTo 5 = .ok (.aload_n 1, 1) := by decide +kernel
theorem dX10_comeTo_6 : decode cX10_comeTo 6 = .ok (.getfield 53, 3) := by decide +kernel
theorem dX10_comeTo_9 : decode cX10_comeTo 9 = .ok (.if_icmp .le 4, 3) := by decide +kernel
theorem dX10_comeTo_13 : decode cX10_comeTo 13 = .ok (.iconst 0, 1) := by decide +kernel
theorem dX10_comeTo_14 : decode cX10_comeTo 14 = .ok (.istore_n 3, 1) := by decide +kernel
theorem dX10_comeTo_15 : decode cX10_comeTo 15 = .ok (.iload_n 3, 1) := by decide +kernel
theorem dX10_comeTo_16 : decode cX10_comeTo 16 = .ok (.aload_n 0, 1) := by decide +kernel
theorem dX10_comeTo_17 : decode cX10_comeTo 17 = .ok (.getfield 50, 3) := by decide +kernel
theorem dX10_comeTo_20 : decode cX10_comeTo 20 = .ok (.if_icmp .ge 80, 3) := by decide +kernel
theorem dX10_comeTo_23 : decode cX10_comeTo 23 = .ok (.aload_n 0, 1) := by decide +kernel
theorem dX10_comeTo_24 : decode cX10_comeTo 24 = .ok (.getfield 61, 3) := by decide +kernel
theorem dX10_comeTo_27 : decode cX10_comeTo 27 = .ok (.iload_n 2, 1) := by decide +kernel
theorem dX10_comeTo_28 : decode cX10_comeTo 28 = .ok (.aload_n 0, 1) := by decide +kernel
theorem dX10_comeTo_29 : decode cX10_comeTo 29 = .ok (.getfield 50, 3) := by decide +kernel
theorem dX10_comeTo_32 : decode cX10_comeTo 32 = .ok (.imul, 1) := by decide +kernel
theorem dX10_comeTo_33 : decode cX10_comeTo 33 = .ok (.iload_n 3, 1) := by decide +kernel
theorem dX10_comeTo_34 : decode cX10_comeTo 34 = .ok (.iadd, 1) := by decide +kernel
theorem dX10_comeTo_35 : decode cX10_comeTo 35 = .ok (.invokestatic 40, 3) := by decide +kernel
theorem dX10_comeTo_38 : decode cX10_comeTo 38 = .ok (.istore 4, 2) := by decide +kernel
theorem dX10_comeTo_40 : decode cX10_comeTo 40 = .ok (.aload_n 0, 1) := by decide +kernel
theorem dX10_comeTo_41 : decode cX10_comeTo 41 = .ok (.getfield 23, 3) := by decide +kernel
theorem dX10_comeTo_44 : decode cX10_comeTo 44 = .ok (.iload_n 3, 1) := by decide +kernel
theorem dX10_comeTo_45 : decode cX10_comeTo 45 = .ok (.invokestatic 40, 3) := by decide +kernel
theorem dX10_comeTo_48 : decode cX10_comeTo 48 = .ok (.istore 5, 2) := by decide +kernel
theorem dX10_comeTo_50 : decode cX10_comeTo 50 = .ok (.iload 4, 2) := by decide +kernel
theorem dX10_comeTo_52 : decode cX10_comeTo 52 = .ok (.iload 5, 2) := by decide +kernel
theorem dX10_comeTo_54 : decode cX10_comeTo 54 = .ok (.if_icmp .eq 40, 3) := by decide +kernel
theorem dX10_comeTo_94 : decode cX10_comeTo 94 = .ok (.iinc 3 1, 3) := by decide +kernel
theorem dX10_comeTo_97 : decode cX10_comeTo 97 = .ok (.goto (-82), 3) := by decide +kernel
theorem dX10_comeTo_57 : decode cX10_comeTo 57 = .ok (.iload 4, 2) := by decide +kernel
theorem dX10_comeTo_59 : decode cX10_comeTo 59 = .ok (.iconst 4, 1) := by decide +kernel
theorem dX10_comeTo_60 : decode cX10_comeTo 60 = .ok (.if_icmp .eq 34, 3) := by decide +kernel
theorem dX10_comeTo_63 : decode cX10_comeTo 63 = .ok (.aload_n 0, 1) := by decide +kernel
theorem dX10_comeTo_64 : decode cX10_comeTo 64 = .ok (.getfield 61, 3) := by decide +kernel
theorem dX10_comeTo_67 : decode cX10_comeTo 67 = .ok (.iload_n 2, 1) := by decide +kernel
theorem dX10_comeTo_68 : decode cX10_comeTo 68 = .ok (.aload_n 0, 1) := by decide +kernel
theorem dX10_comeTo_69 : decode cX10_comeTo 69 = .ok (.getfield 50, 3) := by decide +kernel
theorem dX10_comeTo_72 : decode cX10_comeTo 72 = .ok (.imul, 1) := by decide +kernel
theorem dX10_comeTo_73 : decode cX10_comeTo 73 = .ok (.iload_n 3, 1) := by decide +kernel
theorem dX10_comeTo_74 : decode cX10_comeTo 74 = .ok (.iadd, 1) := by decide +kernel
theorem dX10_comeTo_75 : decode cX10_comeTo 75 = .ok (.iload 4, 2) := by decide +kernel
theorem dX10_comeTo_77 : decode cX10_comeTo 77 = .ok (.ifCond .ne 8, 3) := by decide +kernel
theorem dX10_comeTo_80 : decode cX10_comeTo 80 = .ok (.iload 5, 2) := by decide +kernel
theorem dX10_comeTo_82 : decode cX10_comeTo 82 = .ok (.goto 4, 3) := by decide +kernel
theorem dX10_comeTo_86 : decode cX10_comeTo 86 = .ok (.invokestatic 26, 3) := by decide +kernel
theorem dX10_comeTo_89 : decode cX10_comeTo 89 = .ok (.aload_n 0, 1) := by decide +kernel
theorem dX10_comeTo_90 : decode cX10_comeTo 90 = .ok (.iconst 1, 1) := by decide +kernel
theorem dX10_comeTo_91 : decode cX10_comeTo 91 = .ok (.putfield 78, 3) := by decide +kernel
theorem dX10_comeTo_85 : decode cX10_comeTo 85 = .ok (.iconst 4, 1) := by decide +kernel
theorem dX10_comeTo_100 : decode cX10_comeTo 100 = .ok (.return_, 1) := by decide +kernel
end
section
theorem cd_X10_goThrough : Cond.code yX10_goThrough cX10_goThrough 7 none ∈ pWW := pw4 (List.mem_of_getElem? (i := 137) rfl) rfl
abbrev m_X10_goThrough : MT := (yX10_goThrough, cX10_goThrough, 7, none)
theorem ok_X10_goThrough : pOk m_X10_goThrough := ⟨⟨cd_X10_goThrough, ini_10⟩, by decide +kernel, ⟨by decide +kernel, by decide +kernel⟩, Nat.le_of_ble_eq_true rfl⟩
theorem np_X10_goThrough : (parseMethodDescriptor yX10_goThrough.desc).map (fun d => d.parameters.length) = some 2 := by decide +kernel
theorem im_X10_goThrough : Cond.instanceMethod yX10_goThrough ∈ pWW := pw4 (List.mem_of_getElem? (i := 136) rfl) rfl
theorem se_X10_goThrough : Cond.selects RX10 yX10_goThrough yX10_goThrough ∈ pWW := pws (List.mem_map.mpr ⟨_, lw_pin 41 rfl, rfl⟩) rfl
theorem ml10_96 : Cond.methodLink RX10 96 yX1_writtenBy ∈ pWW := pw4 (List.mem_of_getElem? (i := 139) rfl) rfl
theorem ml10_100 : Cond.methodLink RX10 100 yX10_leans ∈ pWW := pw4 (List.mem_of_getElem? (i := 140) rfl) rfl
theorem dX10_goThrough_0 : decode cX10_goThrough 0 = .ok (.aload_n 0, 1) := by decide +kernel
theorem dX10_goThrough_1 : decode cX10_goThrough 1 = .ok (.getfield 61, 3) := by decide +kernel
theorem dX10_goThrough_4 : decode cX10_goThrough 4 = .ok (.iload_n 2, 1) := by decide +kernel
theorem dX10_goThrough_5 : decode cX10_goThrough 5 = .ok (.aload_n 0, 1) := by decide +kernel
theorem dX10_goThrough_6 : decode cX10_goThrough 6 = .ok (.getfield 50, 3) := by decide +kernel
theorem dX10_goThrough_9 : decode cX10_goThrough 9 = .ok (.imul, 1) := by decide +kernel
theorem dX10_goThrough_10 : decode cX10_goThrough 10 = .ok (.invokestatic 40, 3) := by decide +kernel
theorem dX10_goThrough_13 : decode cX10_goThrough 13 = .ok (.ifCond .ne 4, 3) := by decide +kernel
theorem dX10_goThrough_16 : decode cX10_goThrough 16 = .ok (.return_, 1) := by decide +kernel
theorem dX10_goThrough_17 : decode cX10_goThrough 17 = .ok (.aload_n 1, 1) := by decide +kernel
theorem dX10_goThrough_18 : decode cX10_goThrough 18 = .ok (.iload_n 2, 1) := by decide +kernel
theorem dX10_goThrough_19 : decode cX10_goThrough 19 = .ok (.iconst 0, 1) := by decide +kernel
theorem dX10_goThrough_20 : decode cX10_goThrough 20 = .ok (.invokevirtual 44, 3) := by decide +kernel
theorem dX10_goThrough_23 : decode cX10_goThrough 23 = .ok (.istore_n 3, 1) := by decide +kernel
theorem dX10_goThrough_24 : decode cX10_goThrough 24 = .ok (.aload_n 1, 1) := by decide +kernel
theorem dX10_goThrough_25 : decode cX10_goThrough 25 = .ok (.iload_n 2, 1) := by decide +kernel
theorem dX10_goThrough_26 : decode cX10_goThrough 26 = .ok (.invokevirtual 96, 3) := by decide +kernel
theorem dX10_goThrough_29 : decode cX10_goThrough 29 = .ok (.istore 4, 2) := by decide +kernel
theorem dX10_goThrough_31 : decode cX10_goThrough 31 = .ok (.iconst 0, 1) := by decide +kernel
theorem dX10_goThrough_32 : decode cX10_goThrough 32 = .ok (.istore 5, 2) := by decide +kernel
theorem dX10_goThrough_34 : decode cX10_goThrough 34 = .ok (.iload 5, 2) := by decide +kernel
theorem dX10_goThrough_36 : decode cX10_goThrough 36 = .ok (.aload_n 0, 1) := by decide +kernel
theorem dX10_goThrough_37 : decode cX10_goThrough 37 = .ok (.getfield 50, 3) := by decide +kernel
theorem dX10_goThrough_40 : decode cX10_goThrough 40 = .ok (.if_icmp .ge 60, 3) := by decide +kernel
theorem dX10_goThrough_43 : decode cX10_goThrough 43 = .ok (.aload_n 0, 1) := by decide +kernel
theorem dX10_goThrough_44 : decode cX10_goThrough 44 = .ok (.getfield 61, 3) := by decide +kernel
theorem dX10_goThrough_47 : decode cX10_goThrough 47 = .ok (.iload_n 2, 1) := by decide +kernel
theorem dX10_goThrough_48 : decode cX10_goThrough 48 = .ok (.aload_n 0, 1) := by decide +kernel
theorem dX10_goThrough_49 : decode cX10_goThrough 49 = .ok (.getfield 50, 3) := by decide +kernel
theorem dX10_goThrough_52 : decode cX10_goThrough 52 = .ok (.imul, 1) := by decide +kernel
theorem dX10_goThrough_53 : decode cX10_goThrough 53 = .ok (.iload 5, 2) := by decide +kernel
theorem dX10_goThrough_55 : decode cX10_goThrough 55 = .ok (.iadd, 1) := by decide +kernel
theorem dX10_goThrough_56 : decode cX10_goThrough 56 = .ok (.invokestatic 40, 3) := by decide +kernel
theorem dX10_goThrough_59 : decode cX10_goThrough 59 = .ok (.istore 6, 2) := by decide +kernel
theorem dX10_goThrough_61 : decode cX10_goThrough 61 = .ok (.aload_n 0, 1) := by decide +kernel
theorem dX10_goThrough_62 : decode cX10_goThrough 62 = .ok (.getfield 23, 3) := by decide +kernel
theorem dX10_goThrough_65 : decode cX10_goThrough 65 = .ok (.iload 5, 2) := by decide +kernel
theorem dX10_goThrough_67 : decode cX10_goThrough 67 = .ok (.iload 4, 2) := by decide +kernel
theorem dX10_goThrough_69 : decode cX10_goThrough 69 = .ok (.iconst (-1), 1) := by decide +kernel
theorem dX10_goThrough_70 : decode cX10_goThrough 70 = .ok (.if_icmp .eq 19, 3) := by decide +kernel
theorem dX10_goThrough_89 : decode cX10_goThrough 89 = .ok (.iload 6, 2) := by decide +kernel
theorem dX10_goThrough_91 : decode cX10_goThrough 91 = .ok (.invokestatic 26, 3) := by decide +kernel
theorem dX10_goThrough_94 : decode cX10_goThrough 94 = .ok (.iinc 5 1, 3) := by decide +kernel
theorem dX10_goThrough_97 : decode cX10_goThrough 97 = .ok (.goto (-63), 3) := by decide +kernel
theorem dX10_goThrough_73 : decode cX10_goThrough 73 = .ok (.aload_n 0, 1) := by decide +kernel
theorem dX10_goThrough_74 : decode cX10_goThrough 74 = .ok (.aload_n 1, 1) := by decide +kernel
theorem dX10_goThrough_75 : decode cX10_goThrough 75 = .ok (.iload 6, 2) := by decide +kernel
theorem dX10_goThrough_77 : decode cX10_goThrough 77 = .ok (.iload 4, 2) := by decide +kernel
theorem dX10_goThrough_79 : decode cX10_goThrough 79 = .ok (.invokevirtual 100, 3) := by decide +kernel
theorem dX10_goThrough_82 : decode cX10_goThrough 82 = .ok (.ifCond .eq 7, 3) := by decide +kernel
theorem dX10_goThrough_85 : decode cX10_goThrough 85 = .ok (.iconst 3, 1) := by decide +kernel
theorem dX10_goThrough_86 : decode cX10_goThrough 86 = .ok (.goto 5, 3) := by decide +kernel
theorem fl10_104 : Cond.fieldLink RX10 104 (TX1 9).1 (TX1 9).2.1 (TX1 9).2.2.1 ∈ pWW := pw1 (List.mem_of_getElem? (i := 121) rfl) rfl
theorem dX10_goThrough_100 : decode cX10_goThrough 100 = .ok (.iload_n 3, 1) := by decide +kernel
theorem dX10_goThrough_101 : decode cX10_goThrough 101 = .ok (.bipush 12, 2) := by decide +kernel
theorem dX10_goThrough_103 : decode cX10_goThrough 103 = .ok (.if_icmp .ne 34, 3) := by decide +kernel
theorem dX10_goThrough_137 : decode cX10_goThrough 137 = .ok (.aload_n 1, 1) := by decide +kernel
theorem dX10_goThrough_138 : decode cX10_goThrough 138 = .ok (.iload_n 2, 1) := by decide +kernel
theorem dX10_goThrough_139 : decode cX10_goThrough 139 = .ok (.iconst 1, 1) := by decide +kernel
theorem dX10_goThrough_140 : decode cX10_goThrough 140 = .ok (.invokevirtual 44, 3) := by decide +kernel
theorem dX10_goThrough_143 : decode cX10_goThrough 143 = .ok (.istore 5, 2) := by decide +kernel
theorem dX10_goThrough_145 : decode cX10_goThrough 145 = .ok (.iconst 0, 1) := by decide +kernel
theorem dX10_goThrough_146 : decode cX10_goThrough 146 = .ok (.istore 6, 2) := by decide +kernel
theorem dX10_goThrough_148 : decode cX10_goThrough 148 = .ok (.iload_n 3, 1) := by decide +kernel
theorem dX10_goThrough_149 : decode cX10_goThrough 149 = .ok (.bipush 15, 2) := by decide +kernel
theorem dX10_goThrough_151 : decode cX10_goThrough 151 = .ok (.if_icmp .ne 39, 3) := by decide +kernel
theorem dX10_goThrough_154 : decode cX10_goThrough 154 = .ok (.iload 6, 2) := by decide +kernel
theorem dX10_goThrough_156 : decode cX10_goThrough 156 = .ok (.aload_n 1, 1) := by decide +kernel
theorem dX10_goThrough_157 : decode cX10_goThrough 157 = .ok (.getfield 104, 3) := by decide +kernel
theorem dX10_goThrough_160 : decode cX10_goThrough 160 = .ok (.iload 5, 2) := by decide +kernel
theorem dX10_goThrough_162 : decode cX10_goThrough 162 = .ok (.invokestatic 40, 3) := by decide +kernel
theorem dX10_goThrough_165 : decode cX10_goThrough 165 = .ok (.if_icmp .ge 25, 3) := by decide +kernel
theorem dX10_goThrough_168 : decode cX10_goThrough 168 = .ok (.aload_n 0, 1) := by decide +kernel
theorem dX10_goThrough_169 : decode cX10_goThrough 169 = .ok (.getfield 23, 3) := by decide +kernel
theorem dX10_goThrough_172 : decode cX10_goThrough 172 = .ok (.aload_n 1, 1) := by decide +kernel
theorem dX10_goThrough_173 : decode cX10_goThrough 173 = .ok (.iload 5, 2) := by decide +kernel
theorem dX10_goThrough_175 : decode cX10_goThrough 175 = .ok (.iload 6, 2) := by decide +kernel
theorem dX10_goThrough_177 : decode cX10_goThrough 177 = .ok (.invokevirtual 36, 3) := by decide +kernel
theorem dX10_goThrough_180 : decode cX10_goThrough 180 = .ok (.iconst 1, 1) := by decide +kernel
theorem dX10_goThrough_181 : decode cX10_goThrough 181 = .ok (.invokestatic 26, 3) := by decide +kernel
theorem dX10_goThrough_184 : decode cX10_goThrough 184 = .ok (.iinc 6 1, 3) := by decide +kernel
theorem dX10_goThrough_187 : decode cX10_goThrough 187 = .ok (.goto (-39), 3) := by decide +kernel
theorem ml10_107 : Cond.methodLink RX10 107 yX1_fallsOn ∈ pWW := pw4 (List.mem_of_getElem? (i := 148) rfl) rfl
theorem ml10_114 : Cond.methodLink RX10 114 yX1_targetOf ∈ pWW := pw4 (List.mem_of_getElem? (i := 156) rfl) rfl
theorem ml10_111 : Cond.methodLink RX10 111 yX10_comeTo ∈ pWW := pw4 (List.mem_of_getElem? (i := 152) rfl) rfl
theorem dX10_goThrough_190 : decode cX10_goThrough 190 = .ok (.aload_n 1, 1) := by decide +kernel
theorem dX10_goThrough_191 : decode cX10_goThrough 191 = .ok (.iload_n 2, 1) := by decide +kernel
theorem dX10_goThrough_192 : decode cX10_goThrough 192 = .ok (.invokevirtual 107, 3) := by decide +kernel
theorem dX10_goThrough_195 : decode cX10_goThrough 195 = .ok (.ifCond .eq 11, 3) := by decide +kernel
theorem dX10_goThrough_206 : decode cX10_goThrough 206 = .ok (.aload_n 0, 1) := by decide +kernel
theorem dX10_goThrough_207 : decode cX10_goThrough 207 = .ok (.aload_n 1, 1) := by decide +kernel
theorem dX10_goThrough_208 : decode cX10_goThrough 208 = .ok (.aload_n 1, 1) := by decide +kernel
theorem dX10_goThrough_209 : decode cX10_goThrough 209 = .ok (.iload_n 2, 1) := by decide +kernel
theorem dX10_goThrough_210 : decode cX10_goThrough 210 = .ok (.invokevirtual 114, 3) := by decide +kernel
theorem dX10_goThrough_213 : decode cX10_goThrough 213 = .ok (.invokevirtual 111, 3) := by decide +kernel
theorem dX10_goThrough_216 : decode cX10_goThrough 216 = .ok (.return_, 1) := by decide +kernel
theorem dX10_goThrough_198 : decode cX10_goThrough 198 = .ok (.aload_n 0, 1) := by decide +kernel
theorem dX10_goThrough_199 : decode cX10_goThrough 199 = .ok (.aload_n 1, 1) := by decide +kernel
theorem dX10_goThrough_200 : decode cX10_goThrough 200 = .ok (.iload_n 2, 1) := by decide +kernel
theorem dX10_goThrough_201 : decode cX10_goThrough 201 = .ok (.iconst 1, 1) := by decide +kernel
theorem dX10_goThrough_202 : decode cX10_goThrough 202 = .ok (.iadd, 1) := by decide +kernel
theorem dX10_goThrough_203 : decode cX10_goThrough 203 = .ok (.invokevirtual 111, 3) := by decide +kernel
theorem dX10_goThrough_106 : decode cX10_goThrough 106 = .ok (.aload_n 0, 1) := by decide +kernel
theorem dX10_goThrough_107 : decode cX10_goThrough 107 = .ok (.getfield 23, 3) := by decide +kernel
theorem dX10_goThrough_110 : decode cX10_goThrough 110 = .ok (.aload_n 1, 1) := by decide +kernel
theorem dX10_goThrough_111 : decode cX10_goThrough 111 = .ok (.aload_n 1, 1) := by decide +kernel
theorem dX10_goThrough_112 : decode cX10_goThrough 112 = .ok (.iload_n 2, 1) := by decide +kernel
theorem dX10_goThrough_113 : decode cX10_goThrough 113 = .ok (.iconst 2, 1) := by decide +kernel
theorem dX10_goThrough_114 : decode cX10_goThrough 114 = .ok (.invokevirtual 44, 3) := by decide +kernel
theorem dX10_goThrough_117 : decode cX10_goThrough 117 = .ok (.aload_n 1, 1) := by decide +kernel
theorem dX10_goThrough_118 : decode cX10_goThrough 118 = .ok (.iload_n 2, 1) := by decide +kernel
theorem dX10_goThrough_119 : decode cX10_goThrough 119 = .ok (.iconst 1, 1) := by decide +kernel
theorem dX10_goThrough_120 : decode cX10_goThrough 120 = .ok (.invokevirtual 44, 3) := by decide +kernel
theorem dX10_goThrough_123 : decode cX10_goThrough 123 = .ok (.invokevirtual 36, 3) := by decide +kernel
theorem dX10_goThrough_126 : decode cX10_goThrough 126 = .ok (.aload_n 0, 1) := by decide +kernel
theorem dX10_goThrough_127 : decode cX10_goThrough 127 = .ok (.getfield 20, 3) := by decide +kernel
theorem dX10_goThrough_130 : decode cX10_goThrough 130 = .ok (.iload_n 2, 1) := by decide +kernel
theorem dX10_goThrough_131 : decode cX10_goThrough 131 = .ok (.invokestatic 40, 3) := by decide +kernel
theorem dX10_goThrough_134 : decode cX10_goThrough 134 = .ok (.invokestatic 26, 3) := by decide +kernel
end
section
theorem cd_X7_forget : Cond.code yX7_forget cX7_forget 1 none ∈ pWW := pw4 (List.mem_of_getElem? (i := 50) rfl) rfl
theorem ini_7 : Cond.initialized RX7 ∈ pWW := pw1 (List.mem_of_getElem? (i := 11) rfl) rfl
abbrev m_X7_forget : MT := (yX7_forget, cX7_forget, 1, none)
theorem ok_X7_forget : pOk m_X7_forget := ⟨⟨cd_X7_forget, ini_7⟩, by decide +kernel, ⟨by decide +kernel, by decide +kernel⟩, Nat.le_of_ble_eq_true rfl⟩
theorem np_X7_forget : (parseMethodDescriptor yX7_forget.desc).map (fun d => d.parameters.length) = some 0 := by decide +kernel
theorem im_X7_forget : Cond.instanceMethod yX7_forget ∈ pWW := pw4 (List.mem_of_getElem? (i := 48) rfl) rfl
theorem se_X7_forget : Cond.selects RX7 yX7_forget yX7_forget ∈ pWW := pw4 (List.mem_of_getElem? (i := 49) rfl) rfl
theorem fl7_34 : Cond.fieldLink RX7 34 (TX7 1).1 (TX7 1).2.1 (TX7 1).2.2.1 ∈ pWW := pw2 (List.mem_of_getElem? (i := 134) rfl) rfl
theorem dX7_forget_0 : decode cX7_forget 0 = .ok (.aload_n 0, 1) := by decide +kernel
theorem dX7_forget_1 : decode cX7_forget 1 = .ok (.iconst 0, 1) := by decide +kernel
theorem dX7_forget_2 : decode cX7_forget 2 = .ok (.putfield 34, 3) := by decide +kernel
theorem dX7_forget_5 : decode cX7_forget 5 = .ok (.return_, 1) := by decide +kernel
set_option maxRecDepth 20000 in
theorem k_X7_forget (d : Nat) {T : CT} {σ : MS} {a : Nat} (ha : OB T a 7) (hw : WT T σ) : Tn (d + 1) m_X7_forget 0 T σ [(0, .ref a)] [] (fun ro T2 σ2 => ro = none ∧ T = T2 ∧ WT T2 σ2 ∧ FrC T [56] σ σ2) := by
  refine tn_aload_n dX7_forget_0 rfl 0 rfl ?_
  refine tn_iconst dX7_forget_1 ?_
  refine tn_putV (ci := 7) (i := 1) (n := 56) (r := false) (v := 0) tyX7 tyX7_ok nmX7 dX7_forget_2 rfl lay_7 (by decide) fl7_34 rfl (tyX7_ok 1 (by decide)) rfl rfl rfl ha rfl rfl ?_
  exact tn_vret rfl dX7_forget_5 ⟨rfl, rfl, (hw.put (by decide) (by decide) (fo_56 (by omega))), (FrC.rfl.put (by decide) (by decide))⟩
end
section
theorem cd_X7_place : Cond.code yX7_place cX7_place 1 (some .int) ∈ pWW := pw6 (List.mem_of_getElem? (i := 63) rfl) rfl
abbrev m_X7_place : MT := (yX7_place, cX7_place, 1, (some .int))
theorem ok_X7_place : pOk m_X7_place := ⟨⟨cd_X7_place, ini_7⟩, by decide +kernel, ⟨by decide +kernel, by decide +kernel⟩, Nat.le_of_ble_eq_true rfl⟩
theorem np_X7_place : (parseMethodDescriptor yX7_place.desc).map (fun d => d.parameters.length) = some 0 := by decide +kernel
theorem im_X7_place : Cond.instanceMethod yX7_place ∈ pWW := pw6 (List.mem_of_getElem? (i := 61) rfl) rfl
theorem se_X7_place : Cond.selects RX7 yX7_place yX7_place ∈ pWW := pw6 (List.mem_of_getElem? (i := 62) rfl) rfl
theorem fl7_15 : Cond.fieldLink RX7 15 (TX7 5).1 (TX7 5).2.1 (TX7 5).2.2.1 ∈ pWW := pw2 (List.mem_of_getElem? (i := 142) rfl) rfl
theorem fl7_65 : Cond.fieldLink RX7 65 (TX7 2).1 (TX7 2).2.1 (TX7 2).2.2.1 ∈ pWW := pw2 (List.mem_of_getElem? (i := 137) rfl) rfl
theorem nl7_91 : (RX7, 91, yX11_at, "LineKeeper") ∈ nst_M := List.mem_of_getElem? (i := 48) rfl
theorem dX7_place_0 : decode cX7_place 0 = .ok (.aload_n 0, 1) := by decide +kernel
theorem dX7_place_1 : decode cX7_place 1 = .ok (.getfield 15, 3) := by decide +kernel
theorem dX7_place_4 : decode cX7_place 4 = .ok (.aload_n 0, 1) := by decide +kernel
theorem dX7_place_5 : decode cX7_place 5 = .ok (.getfield 65, 3) := by decide +kernel
theorem dX7_place_8 : decode cX7_place 8 = .ok (.invokestatic 91, 3) := by decide +kernel
theorem dX7_place_11 : decode cX7_place 11 = .ok (.ireturn, 1) := by decide +kernel
end
section
theorem cd_X7_stops : Cond.code yX7_stops cX7_stops 3 (some .boolean) ∈ pWW := pw6 (List.mem_of_getElem? (i := 96) rfl) rfl
abbrev m_X7_stops : MT := (yX7_stops, cX7_stops, 3, (some .boolean))
theorem ok_X7_stops : pOk m_X7_stops := ⟨⟨cd_X7_stops, ini_7⟩, by decide +kernel, ⟨by decide +kernel, by decide +kernel⟩, Nat.le_of_ble_eq_true rfl⟩
theorem np_X7_stops : (parseMethodDescriptor yX7_stops.desc).map (fun d => d.parameters.length) = some 2 := by decide +kernel
theorem im_X7_stops : Cond.instanceMethod yX7_stops ∈ pWW := pw6 (List.mem_of_getElem? (i := 95) rfl) rfl
theorem se_X7_stops : Cond.selects RX7 yX7_stops yX7_stops ∈ pWW := pws (List.mem_map.mpr ⟨_, lw_pin 94 rfl, rfl⟩) rfl
theorem fl7_38 : Cond.fieldLink RX7 38 (TX7 3).1 (TX7 3).2.1 (TX7 3).2.2.1 ∈ pWW := pw2 (List.mem_of_getElem? (i := 138) rfl) rfl
theorem dX7_stops_0 : decode cX7_stops 0 = .ok (.iload_n 1, 1) := by decide +kernel
theorem dX7_stops_1 : decode cX7_stops 1 = .ok (.ifCond .ne 5, 3) := by decide +kernel
theorem dX7_stops_6 : decode cX7_stops 6 = .ok (.iload_n 1, 1) := by decide +kernel
theorem dX7_stops_7 : decode cX7_stops 7 = .ok (.iconst 1, 1) := by decide +kernel
theorem dX7_stops_8 : decode cX7_stops 8 = .ok (.if_icmp .ne 19, 3) := by decide +kernel
theorem dX7_stops_27 : decode cX7_stops 27 = .ok (.aload_n 0, 1) := by decide +kernel
theorem dX7_stops_28 : decode cX7_stops 28 = .ok (.getfield 38, 3) := by decide +kernel
theorem dX7_stops_31 : decode cX7_stops 31 = .ok (.iload_n 2, 1) := by decide +kernel
theorem dX7_stops_32 : decode cX7_stops 32 = .ok (.if_icmp .ge 7, 3) := by decide +kernel
theorem dX7_stops_39 : decode cX7_stops 39 = .ok (.iconst 0, 1) := by decide +kernel
theorem dX7_stops_40 : decode cX7_stops 40 = .ok (.ireturn, 1) := by decide +kernel
theorem dX7_stops_35 : decode cX7_stops 35 = .ok (.iconst 1, 1) := by decide +kernel
theorem dX7_stops_36 : decode cX7_stops 36 = .ok (.goto 4, 3) := by decide +kernel
theorem dX7_stops_11 : decode cX7_stops 11 = .ok (.aload_n 0, 1) := by decide +kernel
theorem dX7_stops_12 : decode cX7_stops 12 = .ok (.getfield 38, 3) := by decide +kernel
theorem dX7_stops_15 : decode cX7_stops 15 = .ok (.iload_n 2, 1) := by decide +kernel
theorem dX7_stops_16 : decode cX7_stops 16 = .ok (.if_icmp .gt 7, 3) := by decide +kernel
theorem dX7_stops_23 : decode cX7_stops 23 = .ok (.iconst 0, 1) := by decide +kernel
theorem dX7_stops_24 : decode cX7_stops 24 = .ok (.goto 16, 3) := by decide +kernel
theorem dX7_stops_19 : decode cX7_stops 19 = .ok (.iconst 1, 1) := by decide +kernel
theorem dX7_stops_20 : decode cX7_stops 20 = .ok (.goto 20, 3) := by decide +kernel
theorem dX7_stops_4 : decode cX7_stops 4 = .ok (.iconst 1, 1) := by decide +kernel
theorem dX7_stops_5 : decode cX7_stops 5 = .ok (.ireturn, 1) := by decide +kernel
end
section
theorem cd_X7_emit : Cond.code yX7_emit cX7_emit 2 none ∈ pWW := pw6 (List.mem_of_getElem? (i := 74) rfl) rfl
abbrev m_X7_emit : MT := (yX7_emit, cX7_emit, 2, none)
theorem ok_X7_emit : pOk m_X7_emit := ⟨⟨cd_X7_emit, ini_7⟩, by decide +kernel, ⟨by decide +kernel, by decide +kernel⟩, Nat.le_of_ble_eq_true rfl⟩
theorem np_X7_emit : (parseMethodDescriptor yX7_emit.desc).map (fun d => d.parameters.length) = some 1 := by decide +kernel
theorem im_X7_emit : Cond.instanceMethod yX7_emit ∈ pWW := pw6 (List.mem_of_getElem? (i := 73) rfl) rfl
theorem se_X7_emit : Cond.selects RX7 yX7_emit yX7_emit ∈ pWW := pws (List.mem_map.mpr ⟨_, lw_pin 89 rfl, rfl⟩) rfl
theorem fl7_27 : Cond.fieldLink RX7 27 (TX7 9).1 (TX7 9).2.1 (TX7 9).2.2.1 ∈ pWW := pw2 (List.mem_of_getElem? (i := 146) rfl) rfl
theorem fl7_41 : Cond.fieldLink RX7 41 (TX7 10).1 (TX7 10).2.1 (TX7 10).2.2.1 ∈ pWW := pw2 (List.mem_of_getElem? (i := 148) rfl) rfl
theorem nl7_61 : (RX7, 61, yX11_put, "LineKeeper") ∈ nst_M := List.mem_of_getElem? (i := 47) rfl
theorem fl7_44 : Cond.fieldLink RX7 44 (TX7 11).1 (TX7 11).2.1 (TX7 11).2.2.1 ∈ pWW := pw2 (List.mem_of_getElem? (i := 151) rfl) rfl
theorem dX7_emit_0 : decode cX7_emit 0 = .ok (.aload_n 0, 1) := by decide +kernel
theorem dX7_emit_1 : decode cX7_emit 1 = .ok (.getfield 27, 3) := by decide +kernel
theorem dX7_emit_4 : decode cX7_emit 4 = .ok (.aload_n 0, 1) := by decide +kernel
theorem dX7_emit_5 : decode cX7_emit 5 = .ok (.getfield 41, 3) := by decide +kernel
theorem dX7_emit_8 : decode cX7_emit 8 = .ok (.iload_n 1, 1) := by decide +kernel
theorem dX7_emit_9 : decode cX7_emit 9 = .ok (.invokestatic 61, 3) := by decide +kernel
theorem dX7_emit_12 : decode cX7_emit 12 = .ok (.aload_n 0, 1) := by decide +kernel
theorem dX7_emit_13 : decode cX7_emit 13 = .ok (.iload_n 1, 1) := by decide +kernel
theorem dX7_emit_14 : decode cX7_emit 14 = .ok (.putfield 44, 3) := by decide +kernel
theorem dX7_emit_17 : decode cX7_emit 17 = .ok (.aload_n 0, 1) := by decide +kernel
theorem dX7_emit_18 : decode cX7_emit 18 = .ok (.dup, 1) := by decide +kernel
theorem dX7_emit_19 : decode cX7_emit 19 = .ok (.getfield 41, 3) := by decide +kernel
theorem dX7_emit_22 : decode cX7_emit 22 = .ok (.iconst 1, 1) := by decide +kernel
theorem dX7_emit_23 : decode cX7_emit 23 = .ok (.iadd, 1) := by decide +kernel
theorem dX7_emit_24 : decode cX7_emit 24 = .ok (.putfield 41, 3) := by decide +kernel
theorem dX7_emit_27 : decode cX7_emit 27 = .ok (.return_, 1) := by decide +kernel
end
section
theorem cd_X7_codeAt : Cond.code yX7_codeAt cX7_codeAt 2 (some (.object "LineKeeper$Code")) ∈ pWW := pw6 (List.mem_of_getElem? (i := 40) rfl) rfl
abbrev m_X7_codeAt : MT := (yX7_codeAt, cX7_codeAt, 2, (some (.object "LineKeeper$Code")))
theorem ok_X7_codeAt : pOk m_X7_codeAt := ⟨⟨cd_X7_codeAt, ini_7⟩, by decide +kernel, ⟨by decide +kernel, by decide +kernel⟩, Nat.le_of_ble_eq_true rfl⟩
theorem np_X7_codeAt : (parseMethodDescriptor yX7_codeAt.desc).map (fun d => d.parameters.length) = some 1 := by decide +kernel
theorem im_X7_codeAt : Cond.instanceMethod yX7_codeAt ∈ pWW := pw6 (List.mem_of_getElem? (i := 39) rfl) rfl
theorem se_X7_codeAt : Cond.selects RX7 yX7_codeAt yX7_codeAt ∈ pWW := pws (List.mem_map.mpr ⟨_, lw_pin 86 rfl, rfl⟩) rfl
theorem fl7_30 : Cond.fieldLink RX7 30 (TX7 0).1 (TX7 0).2.1 (TX7 0).2.2.1 ∈ pWW := pw2 (List.mem_of_getElem? (i := 133) rfl) rfl
theorem dX7_codeAt_0 : decode cX7_codeAt 0 = .ok (.iload_n 1, 1) := by decide +kernel
theorem dX7_codeAt_1 : decode cX7_codeAt 1 = .ok (.ifCond .lt 21, 3) := by decide +kernel
theorem dX7_codeAt_22 : decode cX7_codeAt 22 = .ok (.aconst_null, 1) := by decide +kernel
theorem dX7_codeAt_23 : decode cX7_codeAt 23 = .ok (.areturn, 1) := by decide +kernel
theorem dX7_codeAt_4 : decode cX7_codeAt 4 = .ok (.iload_n 1, 1) := by decide +kernel
theorem dX7_codeAt_5 : decode cX7_codeAt 5 = .ok (.aload_n 0, 1) := by decide +kernel
theorem dX7_codeAt_6 : decode cX7_codeAt 6 = .ok (.getfield 30, 3) := by decide +kernel
theorem dX7_codeAt_9 : decode cX7_codeAt 9 = .ok (.arraylength, 1) := by decide +kernel
theorem dX7_codeAt_10 : decode cX7_codeAt 10 = .ok (.if_icmp .ge 12, 3) := by decide +kernel
theorem dX7_codeAt_13 : decode cX7_codeAt 13 = .ok (.aload_n 0, 1) := by decide +kernel
theorem dX7_codeAt_14 : decode cX7_codeAt 14 = .ok (.getfield 30, 3) := by decide +kernel
theorem dX7_codeAt_17 : decode cX7_codeAt 17 = .ok (.iload_n 1, 1) := by decide +kernel
theorem dX7_codeAt_18 : decode cX7_codeAt 18 = .ok (.aaload, 1) := by decide +kernel
theorem dX7_codeAt_19 : decode cX7_codeAt 19 = .ok (.goto 4, 3) := by decide +kernel
set_option maxRecDepth 20000 in
theorem k_X7_codeAt (d : Nat) {T : CT} {σ : MS} {a : Nat} {r : Int} (ha : OB T a 7) (h_r : -2147483648 ≤ r ∧ r ≤ 2147483647) (hw : WT T σ) : Tn (d + 1) m_X7_codeAt 0 T σ [(0, .ref a), (1, .int (iI r))] [] (fun ro T2 σ2 => ∃ v : Int, ro = some (vl true v) ∧ T = T2 ∧ σ = σ2 ∧ (v < 0 ∨ ∃ x : Nat, v = (x : Int) ∧ OB T2 x 1 ∧ RC T2 a x) ∧ (CAT r v)) := by
  refine tn_iload_n dX7_codeAt_0 rfl 1 rfl ?_
  refine tn_if_lt (tgt := 22) dX7_codeAt_1 (by decide) ⟨by omega, by omega⟩ (fun h1 => ?_) (fun h1 => ?_)
  · refine tn_null dX7_codeAt_22 ?_
    exact tn_aret rfl (Or.inl ⟨_, rfl⟩) (Or.inl rfl) dX7_codeAt_23 ⟨-1, congrArg some (vl_null (by decide)).symm, rfl, rfl, Or.inl (by decide), by unfold CAT; omega⟩
  · refine tn_iload_n dX7_codeAt_4 rfl 1 rfl ?_
    refine tn_aload_n dX7_codeAt_5 rfl 0 rfl ?_
    obtain ⟨x2, hx3, hl5, hk4a, hk4b⟩ := wf_55 hw ha
    have hk4i : (T x2).1 = 4 ∨ (T x2).1 = 5 := by omega
    have hk4c : RROW T a x2 := ⟨hk4a, hk4b⟩
    clear hk4a hk4b
    refine tn_getR (ci := 7) (i := 0) (n := 55) (x := x2) dX7_codeAt_6 rfl lay_7 (by decide) fl7_30 ha rfl rfl (hx3) ?_
    refine tn_alenX dX7_codeAt_9 (by have q9 := hk4i; omega) ?_
    refine tn_icmp_ge (tgt := 22) dX7_codeAt_10 (by decide) ⟨by omega, by omega⟩ ⟨by omega, by omega⟩ (fun h6 => ?_) (fun h6 => ?_)
    · refine tn_null dX7_codeAt_22 ?_
      exact tn_aret rfl (Or.inl ⟨_, rfl⟩) (Or.inl rfl) dX7_codeAt_23 ⟨-1, congrArg some (vl_null (by decide)).symm, rfl, rfl, Or.inl (by decide), by unfold CAT; omega⟩
    · refine tn_aload_n dX7_codeAt_13 rfl 0 rfl ?_
      refine tn_getR (ci := 7) (i := 0) (n := 55) (x := x2) dX7_codeAt_14 rfl lay_7 (by decide) fl7_30 ha rfl rfl (hx3) ?_
      refine tn_iload_n dX7_codeAt_17 rfl 1 rfl ?_
      obtain ⟨x7, hx8, hk9o, hk9⟩ := codeRow (hw) hk4i (i := r) (by omega) (by omega)
      refine tn_aald (z := r) (x := x7) dX7_codeAt_18 hk4i (by omega) (by omega) (by omega) hx8 ?_
      refine tn_goto (tgt := 23) dX7_codeAt_19 (by decide) ?_
      exact tn_aret rfl (Or.inl ⟨_, rfl⟩) (Or.inr ⟨_, rfl⟩) dX7_codeAt_23 ⟨(x7 : Int), congrArg some (vl_ref rfl).symm, rfl, rfl, Or.inr ⟨_, rfl, hk9o, RROW.rc hk4c hk9⟩, by unfold CAT; omega⟩
end
section
theorem cd_X7_homeOfParam : Cond.code yX7_homeOfParam cX7_homeOfParam 2 (some .int) ∈ pWW := pw6 (List.mem_of_getElem? (i := 46) rfl) rfl
abbrev m_X7_homeOfParam : MT := (yX7_homeOfParam, cX7_homeOfParam, 2, (some .int))
theorem ok_X7_homeOfParam : pOk m_X7_homeOfParam := ⟨⟨cd_X7_homeOfParam, ini_7⟩, by decide +kernel, ⟨by decide +kernel, by decide +kernel⟩, Nat.le_of_ble_eq_true rfl⟩
theorem np_X7_homeOfParam : (parseMethodDescriptor yX7_homeOfParam.desc).map (fun d => d.parameters.length) = some 1 := by decide +kernel
theorem im_X7_homeOfParam : Cond.instanceMethod yX7_homeOfParam ∈ pWW := pw6 (List.mem_of_getElem? (i := 45) rfl) rfl
theorem se_X7_homeOfParam : Cond.selects RX7 yX7_homeOfParam yX7_homeOfParam ∈ pWW := pws (List.mem_map.mpr ⟨_, lw_pin 87 rfl, rfl⟩) rfl
theorem fl7_72 : Cond.fieldLink RX7 72 (TX7 14).1 (TX7 14).2.1 (TX7 14).2.2.1 ∈ pWW := pw2 (List.mem_of_getElem? (i := 158) rfl) rfl
theorem fl7_82 : Cond.fieldLink RX7 82 (TX1 3).1 (TX1 3).2.1 (TX1 3).2.2.1 ∈ pWW := pw1 (List.mem_of_getElem? (i := 95) rfl) rfl
theorem ml7_87 : Cond.methodLink RX7 87 yX1_homeOf ∈ pWW := pw6 (List.mem_of_getElem? (i := 47) rfl) rfl
theorem dX7_homeOfParam_0 : decode cX7_homeOfParam 0 = .ok (.aload_n 0, 1) := by decide +kernel
theorem dX7_homeOfParam_1 : decode cX7_homeOfParam 1 = .ok (.getfield 72, 3) := by decide +kernel
theorem dX7_homeOfParam_4 : decode cX7_homeOfParam 4 = .ok (.ifnull 35, 3) := by decide +kernel
theorem dX7_homeOfParam_39 : decode cX7_homeOfParam 39 = .ok (.iconst (-1), 1) := by decide +kernel
theorem dX7_homeOfParam_40 : decode cX7_homeOfParam 40 = .ok (.ireturn, 1) := by decide +kernel
theorem dX7_homeOfParam_7 : decode cX7_homeOfParam 7 = .ok (.iload_n 1, 1) := by decide +kernel
theorem dX7_homeOfParam_8 : decode cX7_homeOfParam 8 = .ok (.aload_n 0, 1) := by decide +kernel
theorem dX7_homeOfParam_9 : decode cX7_homeOfParam 9 = .ok (.getfield 72, 3) := by decide +kernel
theorem dX7_homeOfParam_12 : decode cX7_homeOfParam 12 = .ok (.getfield 82, 3) := by decide +kernel
theorem dX7_homeOfParam_15 : decode cX7_homeOfParam 15 = .ok (.if_icmp .ge 24, 3) := by decide +kernel
theorem dX7_homeOfParam_18 : decode cX7_homeOfParam 18 = .ok (.aload_n 0, 1) := by decide +kernel
theorem dX7_homeOfParam_19 : decode cX7_homeOfParam 19 = .ok (.getfield 65, 3) := by decide +kernel
theorem dX7_homeOfParam_22 : decode cX7_homeOfParam 22 = .ok (.sipush 192, 3) := by decide +kernel
theorem dX7_homeOfParam_25 : decode cX7_homeOfParam 25 = .ok (.imul, 1) := by decide +kernel
theorem dX7_homeOfParam_26 : decode cX7_homeOfParam 26 = .ok (.aload_n 0, 1) := by decide +kernel
theorem dX7_homeOfParam_27 : decode cX7_homeOfParam 27 = .ok (.getfield 72, 3) := by decide +kernel
theorem dX7_homeOfParam_30 : decode cX7_homeOfParam 30 = .ok (.iconst 0, 1) := by decide +kernel
theorem dX7_homeOfParam_31 : decode cX7_homeOfParam 31 = .ok (.iload_n 1, 1) := by decide +kernel
theorem dX7_homeOfParam_32 : decode cX7_homeOfParam 32 = .ok (.invokevirtual 87, 3) := by decide +kernel
theorem dX7_homeOfParam_35 : decode cX7_homeOfParam 35 = .ok (.iadd, 1) := by decide +kernel
theorem dX7_homeOfParam_36 : decode cX7_homeOfParam 36 = .ok (.goto 4, 3) := by decide +kernel
set_option maxRecDepth 20000 in
theorem k_X7_homeOfParam (d : Nat) {T : CT} {σ : MS} {a : Nat} {p1 : Int} (ha : OB T a 7) (h_p1 : -2147483648 ≤ p1 ∧ p1 ≤ 2147483647) (hw : WT T σ) : Tn (d + 3) m_X7_homeOfParam 0 T σ [(0, .ref a), (1, .int (iI p1))] [] (fun ro T2 σ2 => ∃ v : Int, ro = some (.int (iI v)) ∧ T = T2 ∧ σ = σ2 ∧ (-2147483648 ≤ v ∧ v ≤ 2147483647)) := by
  refine tn_aload_n dX7_homeOfParam_0 rfl 0 rfl ?_
  rcases wf_69 hw ha with hx1 | ⟨x2, hx1, hk3a, hk3b⟩
  · refine tn_getN (ci := 7) (i := 14) (n := 69) dX7_homeOfParam_1 rfl lay_7 (by decide) fl7_72 ha rfl rfl (Int.lt_of_le_of_lt (Int.le_of_eq (Eq.refl _)) hx1) ?_
    refine tn_ifnullN (tgt := 39) dX7_homeOfParam_4 (by decide) ?_
    refine tn_iconst dX7_homeOfParam_39 ?_
    exact tn_iret rfl dX7_homeOfParam_40 ⟨_, rfl, rfl, rfl, by omega⟩
  · have hk3o : OB T x2 1 := by
      by_cases q9 : (T a).1 = 57
      · have w9 := hk3a q9; exact ⟨by omega, by rw [w9]; rfl, by omega⟩
      · have w9 := hk3b q9; exact ⟨by omega, by rw [w9]; rfl, by omega⟩
    refine tn_getR (ci := 7) (i := 14) (n := 69) (x := x2) dX7_homeOfParam_1 rfl lay_7 (by decide) fl7_72 ha rfl rfl (hx1) ?_
    refine tn_ifnull dX7_homeOfParam_4 ?_
    refine tn_iload_n dX7_homeOfParam_7 rfl 1 rfl ?_
    refine tn_aload_n dX7_homeOfParam_8 rfl 0 rfl ?_
    refine tn_getR (ci := 7) (i := 14) (n := 69) (x := x2) dX7_homeOfParam_9 rfl lay_7 (by decide) fl7_72 ha rfl rfl (hx1) ?_
    refine tn_getI (ci := 1) (i := 3) (n := 8) (t := σ.2.1 8 x2) dX7_homeOfParam_12 rfl lay_1 (by decide) fl7_82 hk3o rfl rfl (rfl) ?_
    have g5 : ((0 : Int) ≤ σ.2.1 8 x2 ∧ σ.2.1 8 x2 ≤ 4) := wf_8 hw hk3o
    refine tn_icmp_ge (tgt := 39) dX7_homeOfParam_15 (by decide) ⟨by omega, by omega⟩ ⟨by omega, by omega⟩ (fun h6 => ?_) (fun h6 => ?_)
    · refine tn_iconst dX7_homeOfParam_39 ?_
      exact tn_iret rfl dX7_homeOfParam_40 ⟨_, rfl, rfl, rfl, by omega⟩
    · refine tn_aload_n dX7_homeOfParam_18 rfl 0 rfl ?_
      refine tn_getI (ci := 7) (i := 2) (n := 57) (t := σ.2.1 57 a) dX7_homeOfParam_19 rfl lay_7 (by decide) fl7_65 ha rfl rfl (rfl) ?_
      have g7 : ((0 : Int) ≤ σ.2.1 57 a ∧ σ.2.1 57 a ≤ 11184800) ∧ ((T a).1 = 57 → σ.2.1 57 a ≤ 8) := wf_57 hw ha
      have g7x := g7.2
      replace g7 := g7.1
      clear g7x
      refine tn_sipush dX7_homeOfParam_22 (by decide) ?_
      refine tn_imul dX7_homeOfParam_25 ?_
      refine tn_aload_n dX7_homeOfParam_26 rfl 0 rfl ?_
      refine tn_getR (ci := 7) (i := 14) (n := 69) (x := x2) dX7_homeOfParam_27 rfl lay_7 (by decide) fl7_72 ha rfl rfl (hx1) ?_
      refine tn_iconst dX7_homeOfParam_30 ?_
      refine tn_iload_n dX7_homeOfParam_31 rfl 1 rfl ?_
      refine tn_callV (M := m_X7_homeOfParam) (pc := 32) (ix := 87) (ci := 1) (M' := m_X1_homeOf) (As := [.int (iI 0), .int (iI p1)]) (rest := [.int (iI ((σ.2.1 57 a) * 192))]) dX7_homeOfParam_32 ok_X1_homeOf im_X1_homeOf se_X1_homeOf ml7_87 np_X1_homeOf rfl rfl hk3o rfl (Nat.le_of_ble_eq_true rfl) (Nat.le_of_ble_eq_true rfl) rfl (k_X1_homeOf (d) (T := T) (σ := σ) (a := x2) (f := 0) (m := p1) hk3o (by decide) (by omega) hw ) (fun r8 T10 σ9 gt11 hp => ?_)
      obtain ⟨v13, rfl, rfl, rfl, f12⟩ := hp
      clear gt11
      show Tn _ _ 35 T σ [(0, .ref a), (1, .int (iI p1))] [.int (iI v13), .int (iI ((σ.2.1 57 a) * 192))] _
      refine tn_iadd dX7_homeOfParam_35 ?_
      refine tn_any (fun z14 g15 => ?_)
      have g15r : -2147483648 ≤ z14 ∧ z14 ≤ 2147483647 := g15
      refine tn_goto (tgt := 40) dX7_homeOfParam_36 (by decide) ?_
      exact tn_iret rfl dX7_homeOfParam_40 ⟨_, rfl, rfl, rfl, by omega⟩
end
section
theorem cd_X7_operand : Cond.code yX7_operand cX7_operand 4 (some .int) ∈ pWW := pw6 (List.mem_of_getElem? (i := 69) rfl) rfl
abbrev m_X7_operand : MT := (yX7_operand, cX7_operand, 4, (some .int))
theorem ok_X7_operand : pOk m_X7_operand := ⟨⟨cd_X7_operand, ini_7⟩, by decide +kernel, ⟨by decide +kernel, by decide +kernel⟩, Nat.le_of_ble_eq_true rfl⟩
theorem np_X7_operand : (parseMethodDescriptor yX7_operand.desc).map (fun d => d.parameters.length) = some 2 := by decide +kernel
theorem im_X7_operand : Cond.instanceMethod yX7_operand ∈ pWW := pw6 (List.mem_of_getElem? (i := 68) rfl) rfl
theorem se_X7_operand : Cond.selects RX7 yX7_operand yX7_operand ∈ pWW := pws (List.mem_map.mpr ⟨_, lw_pin 88 rfl, rfl⟩) rfl
theorem ml7_117 : Cond.methodLink RX7 117 yX1_get ∈ pWW := pw6 (List.mem_of_getElem? (i := 70) rfl) rfl
theorem fl7_24 : Cond.fieldLink RX7 24 (TX7 8).1 (TX7 8).2.1 (TX7 8).2.2.1 ∈ pWW := pw2 (List.mem_of_getElem? (i := 145) rfl) rfl
theorem dX7_operand_0 : decode cX7_operand 0 = .ok (.aload_n 0, 1) := by decide +kernel
theorem dX7_operand_1 : decode cX7_operand 1 = .ok (.getfield 72, 3) := by decide +kernel
theorem dX7_operand_4 : decode cX7_operand 4 = .ok (.iload_n 1, 1) := by decide +kernel
theorem dX7_operand_5 : decode cX7_operand 5 = .ok (.iload_n 2, 1) := by decide +kernel
theorem dX7_operand_6 : decode cX7_operand 6 = .ok (.iconst 1, 1) := by decide +kernel
theorem dX7_operand_7 : decode cX7_operand 7 = .ok (.iadd, 1) := by decide +kernel
theorem dX7_operand_8 : decode cX7_operand 8 = .ok (.invokevirtual 117, 3) := by decide +kernel
theorem dX7_operand_11 : decode cX7_operand 11 = .ok (.istore_n 3, 1) := by decide +kernel
theorem dX7_operand_12 : decode cX7_operand 12 = .ok (.aload_n 0, 1) := by decide +kernel
theorem dX7_operand_13 : decode cX7_operand 13 = .ok (.getfield 72, 3) := by decide +kernel
theorem dX7_operand_16 : decode cX7_operand 16 = .ok (.iload_n 1, 1) := by decide +kernel
theorem dX7_operand_17 : decode cX7_operand 17 = .ok (.iload_n 2, 1) := by decide +kernel
theorem dX7_operand_18 : decode cX7_operand 18 = .ok (.invokevirtual 117, 3) := by decide +kernel
theorem dX7_operand_21 : decode cX7_operand 21 = .ok (.iconst 2, 1) := by decide +kernel
theorem dX7_operand_22 : decode cX7_operand 22 = .ok (.if_icmp .ne 23, 3) := by decide +kernel
theorem dX7_operand_45 : decode cX7_operand 45 = .ok (.iload_n 3, 1) := by decide +kernel
theorem dX7_operand_46 : decode cX7_operand 46 = .ok (.ireturn, 1) := by decide +kernel
theorem dX7_operand_25 : decode cX7_operand 25 = .ok (.aload_n 0, 1) := by decide +kernel
theorem dX7_operand_26 : decode cX7_operand 26 = .ok (.getfield 24, 3) := by decide +kernel
theorem dX7_operand_29 : decode cX7_operand 29 = .ok (.aload_n 0, 1) := by decide +kernel
theorem dX7_operand_30 : decode cX7_operand 30 = .ok (.getfield 65, 3) := by decide +kernel
theorem dX7_operand_33 : decode cX7_operand 33 = .ok (.sipush 192, 3) := by decide +kernel
theorem dX7_operand_36 : decode cX7_operand 36 = .ok (.imul, 1) := by decide +kernel
theorem dX7_operand_37 : decode cX7_operand 37 = .ok (.iload_n 3, 1) := by decide +kernel
theorem dX7_operand_38 : decode cX7_operand 38 = .ok (.iadd, 1) := by decide +kernel
theorem dX7_operand_39 : decode cX7_operand 39 = .ok (.invokestatic 91, 3) := by decide +kernel
theorem dX7_operand_42 : decode cX7_operand 42 = .ok (.goto 4, 3) := by decide +kernel
end
section
theorem cd_X7_reckonAt : Cond.code yX7_reckonAt cX7_reckonAt 4 none ∈ pWW := pw6 (List.mem_of_getElem? (i := 90) rfl) rfl
abbrev m_X7_reckonAt : MT := (yX7_reckonAt, cX7_reckonAt, 4, none)
theorem ok_X7_reckonAt : pOk m_X7_reckonAt := ⟨⟨cd_X7_reckonAt, ini_7⟩, by decide +kernel, ⟨by decide +kernel, by decide +kernel⟩, Nat.le_of_ble_eq_true rfl⟩
theorem np_X7_reckonAt : (parseMethodDescriptor yX7_reckonAt.desc).map (fun d => d.parameters.length) = some 2 := by decide +kernel
theorem im_X7_reckonAt : Cond.instanceMethod yX7_reckonAt ∈ pWW := pw6 (List.mem_of_getElem? (i := 89) rfl) rfl
theorem se_X7_reckonAt : Cond.selects RX7 yX7_reckonAt yX7_reckonAt ∈ pWW := pws (List.mem_map.mpr ⟨_, lw_pin 93 rfl, rfl⟩) rfl
theorem nl7_132 : (RX7, 132, yX11_isPure, "LineKeeper") ∈ nst_M := List.mem_of_getElem? (i := 49) rfl
theorem ml7_110 : Cond.methodLink RX7 110 yX7_operand ∈ pWW := pw6 (List.mem_of_getElem? (i := 66) rfl) rfl
theorem nl7_136 : (RX7, 136, yX11_reckon, "LineKeeper") ∈ nst_M := List.mem_of_getElem? (i := 50) rfl
theorem dX7_reckonAt_0 : decode cX7_reckonAt 0 = .ok (.iload_n 2, 1) := by decide +kernel
theorem dX7_reckonAt_1 : decode cX7_reckonAt 1 = .ok (.invokestatic 132, 3) := by decide +kernel
theorem dX7_reckonAt_4 : decode cX7_reckonAt 4 = .ok (.ifCond .eq 54, 3) := by decide +kernel
theorem dX7_reckonAt_58 : decode cX7_reckonAt 58 = .ok (.return_, 1) := by decide +kernel
theorem dX7_reckonAt_7 : decode cX7_reckonAt 7 = .ok (.iload_n 2, 1) := by decide +kernel
theorem dX7_reckonAt_8 : decode cX7_reckonAt 8 = .ok (.ifCond .ne 7, 3) := by decide +kernel
theorem dX7_reckonAt_15 : decode cX7_reckonAt 15 = .ok (.aload_n 0, 1) := by decide +kernel
theorem dX7_reckonAt_16 : decode cX7_reckonAt 16 = .ok (.iload_n 1, 1) := by decide +kernel
theorem dX7_reckonAt_17 : decode cX7_reckonAt 17 = .ok (.iconst 5, 1) := by decide +kernel
theorem dX7_reckonAt_18 : decode cX7_reckonAt 18 = .ok (.invokevirtual 110, 3) := by decide +kernel
theorem dX7_reckonAt_21 : decode cX7_reckonAt 21 = .ok (.istore_n 3, 1) := by decide +kernel
theorem dX7_reckonAt_22 : decode cX7_reckonAt 22 = .ok (.aload_n 0, 1) := by decide +kernel
theorem dX7_reckonAt_23 : decode cX7_reckonAt 23 = .ok (.getfield 24, 3) := by decide +kernel
theorem dX7_reckonAt_26 : decode cX7_reckonAt 26 = .ok (.aload_n 0, 1) := by decide +kernel
theorem dX7_reckonAt_27 : decode cX7_reckonAt 27 = .ok (.getfield 65, 3) := by decide +kernel
theorem dX7_reckonAt_30 : decode cX7_reckonAt 30 = .ok (.sipush 192, 3) := by decide +kernel
theorem dX7_reckonAt_33 : decode cX7_reckonAt 33 = .ok (.imul, 1) := by decide +kernel
theorem dX7_reckonAt_34 : decode cX7_reckonAt 34 = .ok (.aload_n 0, 1) := by decide +kernel
theorem dX7_reckonAt_35 : decode cX7_reckonAt 35 = .ok (.getfield 72, 3) := by decide +kernel
theorem dX7_reckonAt_38 : decode cX7_reckonAt 38 = .ok (.iload_n 1, 1) := by decide +kernel
theorem dX7_reckonAt_39 : decode cX7_reckonAt 39 = .ok (.iconst 1, 1) := by decide +kernel
theorem dX7_reckonAt_40 : decode cX7_reckonAt 40 = .ok (.invokevirtual 117, 3) := by decide +kernel
theorem dX7_reckonAt_43 : decode cX7_reckonAt 43 = .ok (.iadd, 1) := by decide +kernel
theorem dX7_reckonAt_44 : decode cX7_reckonAt 44 = .ok (.iload_n 2, 1) := by decide +kernel
theorem dX7_reckonAt_45 : decode cX7_reckonAt 45 = .ok (.aload_n 0, 1) := by decide +kernel
theorem dX7_reckonAt_46 : decode cX7_reckonAt 46 = .ok (.iload_n 1, 1) := by decide +kernel
theorem dX7_reckonAt_47 : decode cX7_reckonAt 47 = .ok (.iconst 3, 1) := by decide +kernel
theorem dX7_reckonAt_48 : decode cX7_reckonAt 48 = .ok (.invokevirtual 110, 3) := by decide +kernel
theorem dX7_reckonAt_51 : decode cX7_reckonAt 51 = .ok (.iload_n 3, 1) := by decide +kernel
theorem dX7_reckonAt_52 : decode cX7_reckonAt 52 = .ok (.invokestatic 136, 3) := by decide +kernel
theorem dX7_reckonAt_55 : decode cX7_reckonAt 55 = .ok (.invokestatic 61, 3) := by decide +kernel
theorem dX7_reckonAt_11 : decode cX7_reckonAt 11 = .ok (.iconst 0, 1) := by decide +kernel
theorem dX7_reckonAt_12 : decode cX7_reckonAt 12 = .ok (.goto 9, 3) := by decide +kernel
end
section
theorem cd_X7_chainOf : Cond.code yX7_chainOf cX7_chainOf 5 (some .int) ∈ pWW := pw6 (List.mem_of_getElem? (i := 86) rfl) rfl
abbrev m_X7_chainOf : MT := (yX7_chainOf, cX7_chainOf, 5, (some .int))
theorem ok_X7_chainOf : pOk m_X7_chainOf := ⟨⟨cd_X7_chainOf, ini_7⟩, by decide +kernel, ⟨by decide +kernel, by decide +kernel⟩, Nat.le_of_ble_eq_true rfl⟩
theorem np_X7_chainOf : (parseMethodDescriptor yX7_chainOf.desc).map (fun d => d.parameters.length) = some 1 := by decide +kernel
theorem im_X7_chainOf : Cond.instanceMethod yX7_chainOf ∈ pWW := pw6 (List.mem_of_getElem? (i := 85) rfl) rfl
theorem se_X7_chainOf : Cond.selects RX7 yX7_chainOf yX7_chainOf ∈ pWW := pws (List.mem_map.mpr ⟨_, lw_pin 92 rfl, rfl⟩) rfl
theorem fl7_9 : Cond.fieldLink RX7 9 (TX7 4).1 (TX7 4).2.1 (TX7 4).2.2.1 ∈ pWW := pw2 (List.mem_of_getElem? (i := 141) rfl) rfl
theorem ml7_68 : Cond.methodLink RX7 68 yX7_codeAt ∈ pWW := pw6 (List.mem_of_getElem? (i := 37) rfl) rfl
theorem fl7_18 : Cond.fieldLink RX7 18 (TX7 6).1 (TX7 6).2.1 (TX7 6).2.2.1 ∈ pWW := pw2 (List.mem_of_getElem? (i := 143) rfl) rfl
theorem dX7_chainOf_0 : decode cX7_chainOf 0 = .ok (.aload_n 0, 1) := by decide +kernel
theorem dX7_chainOf_1 : decode cX7_chainOf 1 = .ok (.aload_n 0, 1) := by decide +kernel
theorem dX7_chainOf_2 : decode cX7_chainOf 2 = .ok (.getfield 9, 3) := by decide +kernel
theorem dX7_chainOf_5 : decode cX7_chainOf 5 = .ok (.iload_n 1, 1) := by decide +kernel
theorem dX7_chainOf_6 : decode cX7_chainOf 6 = .ok (.invokestatic 91, 3) := by decide +kernel
theorem dX7_chainOf_9 : decode cX7_chainOf 9 = .ok (.invokevirtual 68, 3) := by decide +kernel
theorem dX7_chainOf_12 : decode cX7_chainOf 12 = .ok (.astore_n 2, 1) := by decide +kernel
theorem dX7_chainOf_13 : decode cX7_chainOf 13 = .ok (.aload_n 0, 1) := by decide +kernel
theorem dX7_chainOf_14 : decode cX7_chainOf 14 = .ok (.getfield 18, 3) := by decide +kernel
theorem dX7_chainOf_17 : decode cX7_chainOf 17 = .ok (.iload_n 1, 1) := by decide +kernel
theorem dX7_chainOf_18 : decode cX7_chainOf 18 = .ok (.invokestatic 91, 3) := by decide +kernel
theorem dX7_chainOf_21 : decode cX7_chainOf 21 = .ok (.istore_n 3, 1) := by decide +kernel
theorem dX7_chainOf_22 : decode cX7_chainOf 22 = .ok (.iconst 1, 1) := by decide +kernel
theorem dX7_chainOf_23 : decode cX7_chainOf 23 = .ok (.istore 4, 2) := by decide +kernel
theorem dX7_chainOf_25 : decode cX7_chainOf 25 = .ok (.aload_n 2, 1) := by decide +kernel
theorem dX7_chainOf_26 : decode cX7_chainOf 26 = .ok (.ifnull 29, 3) := by decide +kernel
theorem fl7_126 : Cond.fieldLink RX7 126 (TX1 7).1 (TX1 7).2.1 (TX1 7).2.2.1 ∈ pWW := pw1 (List.mem_of_getElem? (i := 114) rfl) rfl
theorem dX7_chainOf_55 : decode cX7_chainOf 55 = .ok (.iload 4, 2) := by decide +kernel
theorem dX7_chainOf_57 : decode cX7_chainOf 57 = .ok (.ireturn, 1) := by decide +kernel
theorem dX7_chainOf_29 : decode cX7_chainOf 29 = .ok (.iload_n 3, 1) := by decide +kernel
theorem dX7_chainOf_30 : decode cX7_chainOf 30 = .ok (.ifCond .le 25, 3) := by decide +kernel
theorem dX7_chainOf_33 : decode cX7_chainOf 33 = .ok (.iload 4, 2) := by decide +kernel
theorem dX7_chainOf_35 : decode cX7_chainOf 35 = .ok (.bipush 12, 2) := by decide +kernel
theorem dX7_chainOf_37 : decode cX7_chainOf 37 = .ok (.if_icmp .gt 18, 3) := by decide +kernel
theorem dX7_chainOf_40 : decode cX7_chainOf 40 = .ok (.aload_n 2, 1) := by decide +kernel
theorem dX7_chainOf_41 : decode cX7_chainOf 41 = .ok (.getfield 126, 3) := by decide +kernel
theorem dX7_chainOf_44 : decode cX7_chainOf 44 = .ok (.iload_n 3, 1) := by decide +kernel
theorem dX7_chainOf_45 : decode cX7_chainOf 45 = .ok (.invokestatic 91, 3) := by decide +kernel
theorem dX7_chainOf_48 : decode cX7_chainOf 48 = .ok (.istore_n 3, 1) := by decide +kernel
theorem dX7_chainOf_49 : decode cX7_chainOf 49 = .ok (.iinc 4 1, 3) := by decide +kernel
theorem dX7_chainOf_52 : decode cX7_chainOf 52 = .ok (.goto (-27), 3) := by decide +kernel
end
section
theorem CAT.neg {r v : Int} (h : CAT r v) (hv : v < 0) : CAT r (-1) := by unfold CAT at *; omega
end
