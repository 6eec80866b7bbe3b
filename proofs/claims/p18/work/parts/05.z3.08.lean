section
theorem cd_X5_newLabel : Cond.code yX5_newLabel cX5_newLabel 1 (some .int) ∈ pWW := pw3 (List.mem_of_getElem? (i := 221) rfl) rfl
abbrev m_X5_newLabel : MT := (yX5_newLabel, cX5_newLabel, 1, (some .int))
theorem ok_X5_newLabel : pOk m_X5_newLabel := ⟨⟨cd_X5_newLabel, ini_5⟩, by decide +kernel, ⟨by decide +kernel, by decide +kernel⟩, Nat.le_of_ble_eq_true rfl⟩
theorem np_X5_newLabel : (parseMethodDescriptor yX5_newLabel.desc).map (fun d => d.parameters.length) = some 0 := by decide +kernel
theorem im_X5_newLabel : Cond.instanceMethod yX5_newLabel ∈ pWW := pw3 (List.mem_of_getElem? (i := 220) rfl) rfl
theorem se_X5_newLabel : Cond.selects RX5 yX5_newLabel yX5_newLabel ∈ pWW := pws (List.mem_map.mpr ⟨_, lw_pin 29 rfl, rfl⟩) rfl
theorem fl5_133 : Cond.fieldLink RX5 133 (TX5 13).1 (TX5 13).2.1 (TX5 13).2.2.1 ∈ pWW := pw1 (List.mem_of_getElem? (i := 169) rfl) rfl
theorem dX5_newLabel_0 : decode cX5_newLabel 0 = .ok (.aload_n 0, 1) := by decide +kernel
theorem dX5_newLabel_1 : decode cX5_newLabel 1 = .ok (.dup, 1) := by decide +kernel
theorem dX5_newLabel_2 : decode cX5_newLabel 2 = .ok (.getfield 133, 3) := by decide +kernel
theorem dX5_newLabel_5 : decode cX5_newLabel 5 = .ok (.iconst 1, 1) := by decide +kernel
theorem dX5_newLabel_6 : decode cX5_newLabel 6 = .ok (.iadd, 1) := by decide +kernel
theorem dX5_newLabel_7 : decode cX5_newLabel 7 = .ok (.putfield 133, 3) := by decide +kernel
theorem dX5_newLabel_10 : decode cX5_newLabel 10 = .ok (.aload_n 0, 1) := by decide +kernel
theorem dX5_newLabel_11 : decode cX5_newLabel 11 = .ok (.getfield 133, 3) := by decide +kernel
theorem dX5_newLabel_14 : decode cX5_newLabel 14 = .ok (.iconst 1, 1) := by decide +kernel
theorem dX5_newLabel_15 : decode cX5_newLabel 15 = .ok (.isub, 1) := by decide +kernel
theorem dX5_newLabel_16 : decode cX5_newLabel 16 = .ok (.ireturn, 1) := by decide +kernel
set_option maxRecDepth 20000 in
theorem k_X5_newLabel (d : Nat) {T : CT} {σ : MS} {a : Nat} (ha : OB T a 5) (hw : WT T σ) : Tn (d + 1) m_X5_newLabel 0 T σ [(0, .ref a)] [] (fun ro T2 σ2 => ∃ v : Int, ro = some (.int (iI v)) ∧ T = T2 ∧ WT T2 σ2 ∧ FrC T [46] σ σ2 ∧ (-2147483648 ≤ v ∧ v ≤ 2147483647)) := by
  refine tn_aload_n dX5_newLabel_0 rfl 0 rfl ?_
  refine tn_dup dX5_newLabel_1 rfl ?_
  refine tn_getI (ci := 5) (i := 13) (n := 46) (t := σ.2.1 46 a) dX5_newLabel_2 rfl lay_5 (by decide) fl5_133 ha rfl rfl (rfl) ?_
  have g1 : ((-2147483648 : Int) ≤ σ.2.1 46 a ∧ σ.2.1 46 a ≤ 2147483647) := wf_46 hw ha
  refine tn_iconst dX5_newLabel_5 ?_
  refine tn_iadd dX5_newLabel_6 ?_
  refine tn_any (fun z2 g3 => ?_)
  have g3r : -2147483648 ≤ z2 ∧ z2 ≤ 2147483647 := g3
  refine tn_putV (ci := 5) (i := 13) (n := 46) (r := false) (v := z2) tyX5 tyX5_ok nmX5 dX5_newLabel_7 rfl lay_5 (by decide) fl5_133 rfl (tyX5_ok 13 (by decide)) rfl rfl rfl ha rfl rfl ?_
  refine tn_aload_n dX5_newLabel_10 rfl 0 rfl ?_
  refine tn_getI (ci := 5) (i := 13) (n := 46) (t := z2) dX5_newLabel_11 rfl lay_5 (by decide) fl5_133 ha rfl rfl (ra_eq) ?_
  refine tn_iconst dX5_newLabel_14 ?_
  refine tn_isub dX5_newLabel_15 ?_
  refine tn_any (fun z4 g5 => ?_)
  have g5r : -2147483648 ≤ z4 ∧ z4 ≤ 2147483647 := g5
  exact tn_iret rfl dX5_newLabel_16 ⟨_, rfl, rfl, (hw.put (by decide) (by decide) (fo_46 (by omega))), (FrC.rfl.put (by decide) (by decide)), by omega⟩
end
section
theorem cd_X5_listCall : Cond.code yX5_listCall cX5_listCall 4 none ∈ pWW := pw3 (List.mem_of_getElem? (i := 193) rfl) rfl
abbrev m_X5_listCall : MT := (yX5_listCall, cX5_listCall, 4, none)
theorem ok_X5_listCall : pOk m_X5_listCall := ⟨⟨cd_X5_listCall, ini_5⟩, by decide +kernel, ⟨by decide +kernel, by decide +kernel⟩, Nat.le_of_ble_eq_true rfl⟩
theorem np_X5_listCall : (parseMethodDescriptor yX5_listCall.desc).map (fun d => d.parameters.length) = some 3 := by decide +kernel
theorem im_X5_listCall : Cond.instanceMethod yX5_listCall ∈ pWW := pw3 (List.mem_of_getElem? (i := 192) rfl) rfl
theorem se_X5_listCall : Cond.selects RX5 yX5_listCall yX5_listCall ∈ pWW := pws (List.mem_map.mpr ⟨_, lw_pin 24 rfl, rfl⟩) rfl
theorem fl5_31 : Cond.fieldLink RX5 31 (TX5 6).1 (TX5 6).2.1 (TX5 6).2.2.1 ∈ pWW := pw1 (List.mem_of_getElem? (i := 160) rfl) rfl
theorem fl5_61 : Cond.fieldLink RX5 61 (TX5 9).1 (TX5 9).2.1 (TX5 9).2.2.1 ∈ pWW := pw1 (List.mem_of_getElem? (i := 163) rfl) rfl
theorem fl5_34 : Cond.fieldLink RX5 34 (TX5 7).1 (TX5 7).2.1 (TX5 7).2.2.1 ∈ pWW := pw1 (List.mem_of_getElem? (i := 161) rfl) rfl
theorem fl5_37 : Cond.fieldLink RX5 37 (TX5 8).1 (TX5 8).2.1 (TX5 8).2.2.1 ∈ pWW := pw1 (List.mem_of_getElem? (i := 162) rfl) rfl
theorem mlm5_117 : Cond.methodLink RX5 117 Lib.Math.min.name ∈ pWW := pw3 (List.mem_of_getElem? (i := 84) rfl) rfl
theorem dX5_listCall_0 : decode cX5_listCall 0 = .ok (.aload_n 0, 1) := by decide +kernel
theorem dX5_listCall_1 : decode cX5_listCall 1 = .ok (.getfield 31, 3) := by decide +kernel
theorem dX5_listCall_4 : decode cX5_listCall 4 = .ok (.aload_n 0, 1) := by decide +kernel
theorem dX5_listCall_5 : decode cX5_listCall 5 = .ok (.getfield 61, 3) := by decide +kernel
theorem dX5_listCall_8 : decode cX5_listCall 8 = .ok (.iload_n 1, 1) := by decide +kernel
theorem dX5_listCall_9 : decode cX5_listCall 9 = .ok (.invokestatic 129, 3) := by decide +kernel
theorem dX5_listCall_12 : decode cX5_listCall 12 = .ok (.aload_n 0, 1) := by decide +kernel
theorem dX5_listCall_13 : decode cX5_listCall 13 = .ok (.getfield 34, 3) := by decide +kernel
theorem dX5_listCall_16 : decode cX5_listCall 16 = .ok (.aload_n 0, 1) := by decide +kernel
theorem dX5_listCall_17 : decode cX5_listCall 17 = .ok (.getfield 61, 3) := by decide +kernel
theorem dX5_listCall_20 : decode cX5_listCall 20 = .ok (.iload_n 2, 1) := by decide +kernel
theorem dX5_listCall_21 : decode cX5_listCall 21 = .ok (.invokestatic 129, 3) := by decide +kernel
theorem dX5_listCall_24 : decode cX5_listCall 24 = .ok (.aload_n 0, 1) := by decide +kernel
theorem dX5_listCall_25 : decode cX5_listCall 25 = .ok (.getfield 37, 3) := by decide +kernel
theorem dX5_listCall_28 : decode cX5_listCall 28 = .ok (.aload_n 0, 1) := by decide +kernel
theorem dX5_listCall_29 : decode cX5_listCall 29 = .ok (.getfield 61, 3) := by decide +kernel
theorem dX5_listCall_32 : decode cX5_listCall 32 = .ok (.iload_n 3, 1) := by decide +kernel
theorem dX5_listCall_33 : decode cX5_listCall 33 = .ok (.invokestatic 129, 3) := by decide +kernel
theorem dX5_listCall_36 : decode cX5_listCall 36 = .ok (.aload_n 0, 1) := by decide +kernel
theorem dX5_listCall_37 : decode cX5_listCall 37 = .ok (.aload_n 0, 1) := by decide +kernel
theorem dX5_listCall_38 : decode cX5_listCall 38 = .ok (.getfield 61, 3) := by decide +kernel
theorem dX5_listCall_41 : decode cX5_listCall 41 = .ok (.iconst 1, 1) := by decide +kernel
theorem dX5_listCall_42 : decode cX5_listCall 42 = .ok (.iadd, 1) := by decide +kernel
theorem dX5_listCall_43 : decode cX5_listCall 43 = .ok (.sipush 256, 3) := by decide +kernel
theorem dX5_listCall_46 : decode cX5_listCall 46 = .ok (.invokestatic 117, 3) := by decide +kernel
theorem dX5_listCall_49 : decode cX5_listCall 49 = .ok (.putfield 61, 3) := by decide +kernel
theorem dX5_listCall_52 : decode cX5_listCall 52 = .ok (.return_, 1) := by decide +kernel
end
section
theorem cd_X5_zeroToNew : Cond.code yX5_zeroToNew cX5_zeroToNew 2 (some .int) ∈ pWW := pw3 (List.mem_of_getElem? (i := 217) rfl) rfl
abbrev m_X5_zeroToNew : MT := (yX5_zeroToNew, cX5_zeroToNew, 2, (some .int))
theorem ok_X5_zeroToNew : pOk m_X5_zeroToNew := ⟨⟨cd_X5_zeroToNew, ini_5⟩, by decide +kernel, ⟨by decide +kernel, by decide +kernel⟩, Nat.le_of_ble_eq_true rfl⟩
theorem np_X5_zeroToNew : (parseMethodDescriptor yX5_zeroToNew.desc).map (fun d => d.parameters.length) = some 0 := by decide +kernel
theorem im_X5_zeroToNew : Cond.instanceMethod yX5_zeroToNew ∈ pWW := pw3 (List.mem_of_getElem? (i := 216) rfl) rfl
theorem se_X5_zeroToNew : Cond.selects RX5 yX5_zeroToNew yX5_zeroToNew ∈ pWW := pws (List.mem_map.mpr ⟨_, lw_pin 28 rfl, rfl⟩) rfl
theorem ml5_238 : Cond.methodLink RX5 238 yX5_newLabel ∈ pWW := pw3 (List.mem_of_getElem? (i := 218) rfl) rfl
theorem ml5_139 : Cond.methodLink RX5 139 yX1_append ∈ pWW := pw3 (List.mem_of_getElem? (i := 125) rfl) rfl
theorem fl5_216 : Cond.fieldLink RX5 216 (TX5 17).1 (TX5 17).2.1 (TX5 17).2.2.1 ∈ pWW := pw1 (List.mem_of_getElem? (i := 173) rfl) rfl
theorem fl5_219 : Cond.fieldLink RX5 219 (TX5 18).1 (TX5 18).2.1 (TX5 18).2.2.1 ∈ pWW := pw1 (List.mem_of_getElem? (i := 174) rfl) rfl
theorem ml5_143 : Cond.methodLink RX5 143 yX1_lastOperand ∈ pWW := pw3 (List.mem_of_getElem? (i := 186) rfl) rfl
theorem dX5_zeroToNew_0 : decode cX5_zeroToNew 0 = .ok (.aload_n 0, 1) := by decide +kernel
theorem dX5_zeroToNew_1 : decode cX5_zeroToNew 1 = .ok (.invokevirtual 238, 3) := by decide +kernel
theorem dX5_zeroToNew_4 : decode cX5_zeroToNew 4 = .ok (.istore_n 1, 1) := by decide +kernel
theorem dX5_zeroToNew_5 : decode cX5_zeroToNew 5 = .ok (.aload_n 0, 1) := by decide +kernel
theorem dX5_zeroToNew_6 : decode cX5_zeroToNew 6 = .ok (.getfield 47, 3) := by decide +kernel
theorem dX5_zeroToNew_9 : decode cX5_zeroToNew 9 = .ok (.bipush 9, 2) := by decide +kernel
theorem dX5_zeroToNew_11 : decode cX5_zeroToNew 11 = .ok (.iload_n 1, 1) := by decide +kernel
theorem dX5_zeroToNew_12 : decode cX5_zeroToNew 12 = .ok (.iconst 0, 1) := by decide +kernel
theorem dX5_zeroToNew_13 : decode cX5_zeroToNew 13 = .ok (.invokevirtual 139, 3) := by decide +kernel
theorem dX5_zeroToNew_16 : decode cX5_zeroToNew 16 = .ok (.aload_n 0, 1) := by decide +kernel
theorem dX5_zeroToNew_17 : decode cX5_zeroToNew 17 = .ok (.getfield 47, 3) := by decide +kernel
theorem dX5_zeroToNew_20 : decode cX5_zeroToNew 20 = .ok (.iconst 0, 1) := by decide +kernel
theorem dX5_zeroToNew_21 : decode cX5_zeroToNew 21 = .ok (.aload_n 0, 1) := by decide +kernel
theorem dX5_zeroToNew_22 : decode cX5_zeroToNew 22 = .ok (.getfield 216, 3) := by decide +kernel
theorem dX5_zeroToNew_25 : decode cX5_zeroToNew 25 = .ok (.aload_n 0, 1) := by decide +kernel
theorem dX5_zeroToNew_26 : decode cX5_zeroToNew 26 = .ok (.getfield 219, 3) := by decide +kernel
theorem dX5_zeroToNew_29 : decode cX5_zeroToNew 29 = .ok (.invokevirtual 143, 3) := by decide +kernel
theorem dX5_zeroToNew_32 : decode cX5_zeroToNew 32 = .ok (.iload_n 1, 1) := by decide +kernel
theorem dX5_zeroToNew_33 : decode cX5_zeroToNew 33 = .ok (.ireturn, 1) := by decide +kernel
end
section
theorem cd_X5_join : Cond.code yX5_join cX5_join 5 none ∈ pWW := pw3 (List.mem_of_getElem? (i := 185) rfl) rfl
abbrev m_X5_join : MT := (yX5_join, cX5_join, 5, none)
theorem ok_X5_join : pOk m_X5_join := ⟨⟨cd_X5_join, ini_5⟩, by decide +kernel, ⟨by decide +kernel, by decide +kernel⟩, Nat.le_of_ble_eq_true rfl⟩
theorem np_X5_join : (parseMethodDescriptor yX5_join.desc).map (fun d => d.parameters.length) = some 3 := by decide +kernel
theorem im_X5_join : Cond.instanceMethod yX5_join ∈ pWW := pw3 (List.mem_of_getElem? (i := 184) rfl) rfl
theorem se_X5_join : Cond.selects RX5 yX5_join yX5_join ∈ pWW := pws (List.mem_map.mpr ⟨_, lw_pin 23 rfl, rfl⟩) rfl
theorem fl5_136 : Cond.fieldLink RX5 136 (TX5 14).1 (TX5 14).2.1 (TX5 14).2.2.1 ∈ pWW := pw1 (List.mem_of_getElem? (i := 170) rfl) rfl
theorem dX5_join_0 : decode cX5_join 0 = .ok (.sipush 1000, 3) := by decide +kernel
theorem dX5_join_3 : decode cX5_join 3 = .ok (.aload_n 0, 1) := by decide +kernel
theorem dX5_join_4 : decode cX5_join 4 = .ok (.getfield 136, 3) := by decide +kernel
theorem dX5_join_7 : decode cX5_join 7 = .ok (.iadd, 1) := by decide +kernel
theorem dX5_join_8 : decode cX5_join 8 = .ok (.istore 4, 2) := by decide +kernel
theorem dX5_join_10 : decode cX5_join 10 = .ok (.aload_n 0, 1) := by decide +kernel
theorem dX5_join_11 : decode cX5_join 11 = .ok (.dup, 1) := by decide +kernel
theorem dX5_join_12 : decode cX5_join 12 = .ok (.getfield 136, 3) := by decide +kernel
theorem dX5_join_15 : decode cX5_join 15 = .ok (.iconst 1, 1) := by decide +kernel
theorem dX5_join_16 : decode cX5_join 16 = .ok (.iadd, 1) := by decide +kernel
theorem dX5_join_17 : decode cX5_join 17 = .ok (.putfield 136, 3) := by decide +kernel
theorem dX5_join_20 : decode cX5_join 20 = .ok (.aload_n 0, 1) := by decide +kernel
theorem dX5_join_21 : decode cX5_join 21 = .ok (.getfield 47, 3) := by decide +kernel
theorem dX5_join_24 : decode cX5_join 24 = .ok (.iload_n 1, 1) := by decide +kernel
theorem dX5_join_25 : decode cX5_join 25 = .ok (.iload 4, 2) := by decide +kernel
theorem dX5_join_27 : decode cX5_join 27 = .ok (.iconst 0, 1) := by decide +kernel
theorem dX5_join_28 : decode cX5_join 28 = .ok (.invokevirtual 139, 3) := by decide +kernel
theorem dX5_join_31 : decode cX5_join 31 = .ok (.aload_n 0, 1) := by decide +kernel
theorem dX5_join_32 : decode cX5_join 32 = .ok (.getfield 47, 3) := by decide +kernel
theorem dX5_join_35 : decode cX5_join 35 = .ok (.iconst 0, 1) := by decide +kernel
theorem dX5_join_36 : decode cX5_join 36 = .ok (.iload_n 2, 1) := by decide +kernel
theorem dX5_join_37 : decode cX5_join 37 = .ok (.iload_n 3, 1) := by decide +kernel
theorem dX5_join_38 : decode cX5_join 38 = .ok (.invokevirtual 143, 3) := by decide +kernel
theorem dX5_join_41 : decode cX5_join 41 = .ok (.aload_n 0, 1) := by decide +kernel
theorem dX5_join_42 : decode cX5_join 42 = .ok (.getfield 47, 3) := by decide +kernel
theorem dX5_join_45 : decode cX5_join 45 = .ok (.iconst 1, 1) := by decide +kernel
theorem dX5_join_46 : decode cX5_join 46 = .ok (.aload_n 0, 1) := by decide +kernel
theorem dX5_join_47 : decode cX5_join 47 = .ok (.getfield 216, 3) := by decide +kernel
theorem dX5_join_50 : decode cX5_join 50 = .ok (.aload_n 0, 1) := by decide +kernel
theorem dX5_join_51 : decode cX5_join 51 = .ok (.getfield 219, 3) := by decide +kernel
theorem dX5_join_54 : decode cX5_join 54 = .ok (.invokevirtual 143, 3) := by decide +kernel
theorem dX5_join_57 : decode cX5_join 57 = .ok (.aload_n 0, 1) := by decide +kernel
theorem dX5_join_58 : decode cX5_join 58 = .ok (.iconst 2, 1) := by decide +kernel
theorem dX5_join_59 : decode cX5_join 59 = .ok (.putfield 216, 3) := by decide +kernel
theorem dX5_join_62 : decode cX5_join 62 = .ok (.aload_n 0, 1) := by decide +kernel
theorem dX5_join_63 : decode cX5_join 63 = .ok (.iload 4, 2) := by decide +kernel
theorem dX5_join_65 : decode cX5_join 65 = .ok (.putfield 219, 3) := by decide +kernel
theorem dX5_join_68 : decode cX5_join 68 = .ok (.return_, 1) := by decide +kernel
end
section
theorem cd_X5_expression : Cond.code yX5_expression cX5_expression 5 (some .boolean) ∈ pWW := pw3 (List.mem_of_getElem? (i := 165) rfl) rfl
abbrev m_X5_expression : MT := (yX5_expression, cX5_expression, 5, (some .boolean))
theorem ok_X5_expression : pOk m_X5_expression := ⟨⟨cd_X5_expression, ini_5⟩, by decide +kernel, ⟨by decide +kernel, by decide +kernel⟩, Nat.le_of_ble_eq_true rfl⟩
theorem np_X5_expression : (parseMethodDescriptor yX5_expression.desc).map (fun d => d.parameters.length) = some 1 := by decide +kernel
theorem im_X5_expression : Cond.instanceMethod yX5_expression ∈ pWW := pw3 (List.mem_of_getElem? (i := 164) rfl) rfl
theorem se_X5_expression : Cond.selects RX5 yX5_expression yX5_expression ∈ pWW := pws (List.mem_map.mpr ⟨_, lw_pin 18 rfl, rfl⟩) rfl
theorem cd_X5_atom : Cond.code yX5_atom cX5_atom 2 (some .boolean) ∈ pWW := pw3 (List.mem_of_getElem? (i := 181) rfl) rfl
abbrev m_X5_atom : MT := (yX5_atom, cX5_atom, 2, (some .boolean))
theorem ok_X5_atom : pOk m_X5_atom := ⟨⟨cd_X5_atom, ini_5⟩, by decide +kernel, ⟨by decide +kernel, by decide +kernel⟩, Nat.le_of_ble_eq_true rfl⟩
theorem np_X5_atom : (parseMethodDescriptor yX5_atom.desc).map (fun d => d.parameters.length) = some 1 := by decide +kernel
theorem im_X5_atom : Cond.instanceMethod yX5_atom ∈ pWW := pw3 (List.mem_of_getElem? (i := 180) rfl) rfl
theorem se_X5_atom : Cond.selects RX5 yX5_atom yX5_atom ∈ pWW := pws (List.mem_map.mpr ⟨_, lw_pin 22 rfl, rfl⟩) rfl
theorem ml5_176 : Cond.methodLink RX5 176 yX5_register ∈ pWW := pw3 (List.mem_of_getElem? (i := 109) rfl) rfl
theorem ml5_213 : Cond.methodLink RX5 213 yX5_expression ∈ pWW := pw3 (List.mem_of_getElem? (i := 162) rfl) rfl
theorem ml5_102 : Cond.methodLink RX5 102 yX5_taken ∈ pWW := pw3 (List.mem_of_getElem? (i := 93) rfl) rfl
theorem dX5_atom_0 : decode cX5_atom 0 = .ok (.aload_n 0, 1) := by decide +kernel
theorem dX5_atom_1 : decode cX5_atom 1 = .ok (.getfield 12, 3) := by decide +kernel
theorem dX5_atom_4 : decode cX5_atom 4 = .ok (.getfield 71, 3) := by decide +kernel
theorem dX5_atom_7 : decode cX5_atom 7 = .ok (.bipush 40, 2) := by decide +kernel
theorem dX5_atom_9 : decode cX5_atom 9 = .ok (.if_icmp .ne 35, 3) := by decide +kernel
theorem dX5_atom_44 : decode cX5_atom 44 = .ok (.aload_n 0, 1) := by decide +kernel
theorem dX5_atom_45 : decode cX5_atom 45 = .ok (.getfield 12, 3) := by decide +kernel
theorem dX5_atom_48 : decode cX5_atom 48 = .ok (.getfield 71, 3) := by decide +kernel
theorem dX5_atom_51 : decode cX5_atom 51 = .ok (.sipush 257, 3) := by decide +kernel
theorem dX5_atom_54 : decode cX5_atom 54 = .ok (.if_icmp .ne 22, 3) := by decide +kernel
theorem dX5_atom_76 : decode cX5_atom 76 = .ok (.aload_n 0, 1) := by decide +kernel
theorem dX5_atom_77 : decode cX5_atom 77 = .ok (.getfield 12, 3) := by decide +kernel
theorem dX5_atom_80 : decode cX5_atom 80 = .ok (.getfield 71, 3) := by decide +kernel
theorem dX5_atom_83 : decode cX5_atom 83 = .ok (.sipush 256, 3) := by decide +kernel
theorem dX5_atom_86 : decode cX5_atom 86 = .ok (.if_icmp .ne 19, 3) := by decide +kernel
theorem dX5_atom_105 : decode cX5_atom 105 = .ok (.aload_n 0, 1) := by decide +kernel
theorem dX5_atom_106 : decode cX5_atom 106 = .ok (.invokevirtual 90, 3) := by decide +kernel
theorem dX5_atom_109 : decode cX5_atom 109 = .ok (.ireturn, 1) := by decide +kernel
theorem dX5_atom_89 : decode cX5_atom 89 = .ok (.aload_n 0, 1) := by decide +kernel
theorem dX5_atom_90 : decode cX5_atom 90 = .ok (.iconst 2, 1) := by decide +kernel
theorem dX5_atom_91 : decode cX5_atom 91 = .ok (.putfield 216, 3) := by decide +kernel
theorem dX5_atom_94 : decode cX5_atom 94 = .ok (.aload_n 0, 1) := by decide +kernel
theorem dX5_atom_95 : decode cX5_atom 95 = .ok (.aload_n 0, 1) := by decide +kernel
theorem dX5_atom_96 : decode cX5_atom 96 = .ok (.invokevirtual 176, 3) := by decide +kernel
theorem dX5_atom_99 : decode cX5_atom 99 = .ok (.putfield 219, 3) := by decide +kernel
theorem dX5_atom_102 : decode cX5_atom 102 = .ok (.goto 8, 3) := by decide +kernel
theorem dX5_atom_110 : decode cX5_atom 110 = .ok (.aload_n 0, 1) := by decide +kernel
theorem dX5_atom_111 : decode cX5_atom 111 = .ok (.getfield 12, 3) := by decide +kernel
theorem dX5_atom_114 : decode cX5_atom 114 = .ok (.invokevirtual 93, 3) := by decide +kernel
theorem dX5_atom_117 : decode cX5_atom 117 = .ok (.iconst 1, 1) := by decide +kernel
theorem dX5_atom_118 : decode cX5_atom 118 = .ok (.ireturn, 1) := by decide +kernel
theorem dX5_atom_57 : decode cX5_atom 57 = .ok (.aload_n 0, 1) := by decide +kernel
theorem dX5_atom_58 : decode cX5_atom 58 = .ok (.iconst 1, 1) := by decide +kernel
theorem dX5_atom_59 : decode cX5_atom 59 = .ok (.putfield 216, 3) := by decide +kernel
theorem dX5_atom_62 : decode cX5_atom 62 = .ok (.aload_n 0, 1) := by decide +kernel
theorem dX5_atom_63 : decode cX5_atom 63 = .ok (.aload_n 0, 1) := by decide +kernel
theorem dX5_atom_64 : decode cX5_atom 64 = .ok (.getfield 12, 3) := by decide +kernel
theorem dX5_atom_67 : decode cX5_atom 67 = .ok (.getfield 96, 3) := by decide +kernel
theorem dX5_atom_70 : decode cX5_atom 70 = .ok (.putfield 219, 3) := by decide +kernel
theorem dX5_atom_73 : decode cX5_atom 73 = .ok (.goto 37, 3) := by decide +kernel
theorem dX5_atom_12 : decode cX5_atom 12 = .ok (.aload_n 0, 1) := by decide +kernel
theorem dX5_atom_13 : decode cX5_atom 13 = .ok (.getfield 12, 3) := by decide +kernel
theorem dX5_atom_16 : decode cX5_atom 16 = .ok (.invokevirtual 93, 3) := by decide +kernel
theorem dX5_atom_19 : decode cX5_atom 19 = .ok (.aload_n 0, 1) := by decide +kernel
theorem dX5_atom_20 : decode cX5_atom 20 = .ok (.iload_n 1, 1) := by decide +kernel
theorem dX5_atom_21 : decode cX5_atom 21 = .ok (.iconst 1, 1) := by decide +kernel
theorem dX5_atom_22 : decode cX5_atom 22 = .ok (.iadd, 1) := by decide +kernel
theorem dX5_atom_23 : decode cX5_atom 23 = .ok (.invokevirtual 213, 3) := by decide +kernel
theorem dX5_atom_26 : decode cX5_atom 26 = .ok (.ifCond .eq 16, 3) := by decide +kernel
theorem dX5_atom_42 : decode cX5_atom 42 = .ok (.iconst 0, 1) := by decide +kernel
theorem dX5_atom_43 : decode cX5_atom 43 = .ok (.ireturn, 1) := by decide +kernel
theorem dX5_atom_29 : decode cX5_atom 29 = .ok (.aload_n 0, 1) := by decide +kernel
theorem dX5_atom_30 : decode cX5_atom 30 = .ok (.bipush 41, 2) := by decide +kernel
theorem dX5_atom_32 : decode cX5_atom 32 = .ok (.invokevirtual 102, 3) := by decide +kernel
theorem dX5_atom_35 : decode cX5_atom 35 = .ok (.ifCond .eq 7, 3) := by decide +kernel
theorem dX5_atom_38 : decode cX5_atom 38 = .ok (.iconst 1, 1) := by decide +kernel
theorem dX5_atom_39 : decode cX5_atom 39 = .ok (.goto 4, 3) := by decide +kernel
end
section
theorem cd_X5_factor : Cond.code yX5_factor cX5_factor 2 (some .boolean) ∈ pWW := pw3 (List.mem_of_getElem? (i := 177) rfl) rfl
abbrev m_X5_factor : MT := (yX5_factor, cX5_factor, 2, (some .boolean))
theorem ok_X5_factor : pOk m_X5_factor := ⟨⟨cd_X5_factor, ini_5⟩, by decide +kernel, ⟨by decide +kernel, by decide +kernel⟩, Nat.le_of_ble_eq_true rfl⟩
theorem np_X5_factor : (parseMethodDescriptor yX5_factor.desc).map (fun d => d.parameters.length) = some 1 := by decide +kernel
theorem im_X5_factor : Cond.instanceMethod yX5_factor ∈ pWW := pw3 (List.mem_of_getElem? (i := 176) rfl) rfl
theorem se_X5_factor : Cond.selects RX5 yX5_factor yX5_factor ∈ pWW := pws (List.mem_map.mpr ⟨_, lw_pin 21 rfl, rfl⟩) rfl
theorem ml5_253 : Cond.methodLink RX5 253 yX5_atom ∈ pWW := pw3 (List.mem_of_getElem? (i := 178) rfl) rfl
theorem ml5_244 : Cond.methodLink RX5 244 yX5_join ∈ pWW := pw3 (List.mem_of_getElem? (i := 182) rfl) rfl
theorem dX5_factor_0 : decode cX5_factor 0 = .ok (.aload_n 0, 1) := by decide +kernel
theorem dX5_factor_1 : decode cX5_factor 1 = .ok (.getfield 12, 3) := by decide +kernel
theorem dX5_factor_4 : decode cX5_factor 4 = .ok (.getfield 71, 3) := by decide +kernel
theorem dX5_factor_7 : decode cX5_factor 7 = .ok (.bipush 45, 2) := by decide +kernel
theorem dX5_factor_9 : decode cX5_factor 9 = .ok (.if_icmp .eq 9, 3) := by decide +kernel
theorem dX5_factor_18 : decode cX5_factor 18 = .ok (.aload_n 0, 1) := by decide +kernel
theorem dX5_factor_19 : decode cX5_factor 19 = .ok (.getfield 12, 3) := by decide +kernel
theorem dX5_factor_22 : decode cX5_factor 22 = .ok (.invokevirtual 93, 3) := by decide +kernel
theorem dX5_factor_25 : decode cX5_factor 25 = .ok (.aload_n 0, 1) := by decide +kernel
theorem dX5_factor_26 : decode cX5_factor 26 = .ok (.iload_n 1, 1) := by decide +kernel
theorem dX5_factor_27 : decode cX5_factor 27 = .ok (.invokevirtual 253, 3) := by decide +kernel
theorem dX5_factor_30 : decode cX5_factor 30 = .ok (.ifCond .ne 5, 3) := by decide +kernel
theorem dX5_factor_35 : decode cX5_factor 35 = .ok (.aload_n 0, 1) := by decide +kernel
theorem dX5_factor_36 : decode cX5_factor 36 = .ok (.iconst 2, 1) := by decide +kernel
theorem dX5_factor_37 : decode cX5_factor 37 = .ok (.iconst 1, 1) := by decide +kernel
theorem dX5_factor_38 : decode cX5_factor 38 = .ok (.iconst 0, 1) := by decide +kernel
theorem dX5_factor_39 : decode cX5_factor 39 = .ok (.invokevirtual 244, 3) := by decide +kernel
theorem dX5_factor_42 : decode cX5_factor 42 = .ok (.iconst 1, 1) := by decide +kernel
theorem dX5_factor_43 : decode cX5_factor 43 = .ok (.ireturn, 1) := by decide +kernel
theorem dX5_factor_33 : decode cX5_factor 33 = .ok (.iconst 0, 1) := by decide +kernel
theorem dX5_factor_34 : decode cX5_factor 34 = .ok (.ireturn, 1) := by decide +kernel
theorem dX5_factor_12 : decode cX5_factor 12 = .ok (.aload_n 0, 1) := by decide +kernel
theorem dX5_factor_13 : decode cX5_factor 13 = .ok (.iload_n 1, 1) := by decide +kernel
theorem dX5_factor_14 : decode cX5_factor 14 = .ok (.invokevirtual 253, 3) := by decide +kernel
theorem dX5_factor_17 : decode cX5_factor 17 = .ok (.ireturn, 1) := by decide +kernel
end
section
theorem cd_X5_term : Cond.code yX5_term cX5_term 5 (some .boolean) ∈ pWW := pw3 (List.mem_of_getElem? (i := 173) rfl) rfl
abbrev m_X5_term : MT := (yX5_term, cX5_term, 5, (some .boolean))
theorem ok_X5_term : pOk m_X5_term := ⟨⟨cd_X5_term, ini_5⟩, by decide +kernel, ⟨by decide +kernel, by decide +kernel⟩, Nat.le_of_ble_eq_true rfl⟩
theorem np_X5_term : (parseMethodDescriptor yX5_term.desc).map (fun d => d.parameters.length) = some 1 := by decide +kernel
theorem im_X5_term : Cond.instanceMethod yX5_term ∈ pWW := pw3 (List.mem_of_getElem? (i := 172) rfl) rfl
theorem se_X5_term : Cond.selects RX5 yX5_term yX5_term ∈ pWW := pws (List.mem_map.mpr ⟨_, lw_pin 20 rfl, rfl⟩) rfl
theorem ml5_250 : Cond.methodLink RX5 250 yX5_factor ∈ pWW := pw3 (List.mem_of_getElem? (i := 174) rfl) rfl
theorem dX5_term_0 : decode cX5_term 0 = .ok (.aload_n 0, 1) := by decide +kernel
theorem dX5_term_1 : decode cX5_term 1 = .ok (.iload_n 1, 1) := by decide +kernel
theorem dX5_term_2 : decode cX5_term 2 = .ok (.invokevirtual 250, 3) := by decide +kernel
theorem dX5_term_5 : decode cX5_term 5 = .ok (.ifCond .ne 5, 3) := by decide +kernel
theorem dX5_term_10 : decode cX5_term 10 = .ok (.iconst 0, 1) := by decide +kernel
theorem dX5_term_11 : decode cX5_term 11 = .ok (.istore_n 2, 1) := by decide +kernel
theorem dX5_term_12 : decode cX5_term 12 = .ok (.iload_n 2, 1) := by decide +kernel
theorem dX5_term_13 : decode cX5_term 13 = .ok (.sipush 1200, 3) := by decide +kernel
theorem dX5_term_16 : decode cX5_term 16 = .ok (.if_icmp .ge 57, 3) := by decide +kernel
theorem dX5_term_19 : decode cX5_term 19 = .ok (.aload_n 0, 1) := by decide +kernel
theorem dX5_term_20 : decode cX5_term 20 = .ok (.getfield 12, 3) := by decide +kernel
theorem dX5_term_23 : decode cX5_term 23 = .ok (.getfield 71, 3) := by decide +kernel
theorem dX5_term_26 : decode cX5_term 26 = .ok (.bipush 42, 2) := by decide +kernel
theorem dX5_term_28 : decode cX5_term 28 = .ok (.if_icmp .ne 45, 3) := by decide +kernel
theorem dX5_term_31 : decode cX5_term 31 = .ok (.aload_n 0, 1) := by decide +kernel
theorem dX5_term_32 : decode cX5_term 32 = .ok (.getfield 216, 3) := by decide +kernel
theorem dX5_term_35 : decode cX5_term 35 = .ok (.istore_n 3, 1) := by decide +kernel
theorem dX5_term_36 : decode cX5_term 36 = .ok (.aload_n 0, 1) := by decide +kernel
theorem dX5_term_37 : decode cX5_term 37 = .ok (.getfield 219, 3) := by decide +kernel
theorem dX5_term_40 : decode cX5_term 40 = .ok (.istore 4, 2) := by decide +kernel
theorem dX5_term_42 : decode cX5_term 42 = .ok (.aload_n 0, 1) := by decide +kernel
theorem dX5_term_43 : decode cX5_term 43 = .ok (.getfield 12, 3) := by decide +kernel
theorem dX5_term_46 : decode cX5_term 46 = .ok (.invokevirtual 93, 3) := by decide +kernel
theorem dX5_term_49 : decode cX5_term 49 = .ok (.aload_n 0, 1) := by decide +kernel
theorem dX5_term_50 : decode cX5_term 50 = .ok (.iload_n 1, 1) := by decide +kernel
theorem dX5_term_51 : decode cX5_term 51 = .ok (.invokevirtual 250, 3) := by decide +kernel
theorem dX5_term_54 : decode cX5_term 54 = .ok (.ifCond .ne 5, 3) := by decide +kernel
theorem dX5_term_59 : decode cX5_term 59 = .ok (.aload_n 0, 1) := by decide +kernel
theorem dX5_term_60 : decode cX5_term 60 = .ok (.iconst 3, 1) := by decide +kernel
theorem dX5_term_61 : decode cX5_term 61 = .ok (.iload_n 3, 1) := by decide +kernel
theorem dX5_term_62 : decode cX5_term 62 = .ok (.iload 4, 2) := by decide +kernel
theorem dX5_term_64 : decode cX5_term 64 = .ok (.invokevirtual 244, 3) := by decide +kernel
theorem dX5_term_67 : decode cX5_term 67 = .ok (.iinc 2 1, 3) := by decide +kernel
theorem dX5_term_70 : decode cX5_term 70 = .ok (.goto (-58), 3) := by decide +kernel
theorem dX5_term_57 : decode cX5_term 57 = .ok (.iconst 0, 1) := by decide +kernel
theorem dX5_term_58 : decode cX5_term 58 = .ok (.ireturn, 1) := by decide +kernel
theorem dX5_term_73 : decode cX5_term 73 = .ok (.iconst 1, 1) := by decide +kernel
theorem dX5_term_74 : decode cX5_term 74 = .ok (.ireturn, 1) := by decide +kernel
theorem dX5_term_8 : decode cX5_term 8 = .ok (.iconst 0, 1) := by decide +kernel
theorem dX5_term_9 : decode cX5_term 9 = .ok (.ireturn, 1) := by decide +kernel
end
section
theorem cd_X5_sum : Cond.code yX5_sum cX5_sum 6 (some .boolean) ∈ pWW := pw3 (List.mem_of_getElem? (i := 169) rfl) rfl
abbrev m_X5_sum : MT := (yX5_sum, cX5_sum, 6, (some .boolean))
theorem ok_X5_sum : pOk m_X5_sum := ⟨⟨cd_X5_sum, ini_5⟩, by decide +kernel, ⟨by decide +kernel, by decide +kernel⟩, Nat.le_of_ble_eq_true rfl⟩
theorem np_X5_sum : (parseMethodDescriptor yX5_sum.desc).map (fun d => d.parameters.length) = some 1 := by decide +kernel
theorem im_X5_sum : Cond.instanceMethod yX5_sum ∈ pWW := pw3 (List.mem_of_getElem? (i := 168) rfl) rfl
theorem se_X5_sum : Cond.selects RX5 yX5_sum yX5_sum ∈ pWW := pws (List.mem_map.mpr ⟨_, lw_pin 19 rfl, rfl⟩) rfl
theorem ml5_247 : Cond.methodLink RX5 247 yX5_term ∈ pWW := pw3 (List.mem_of_getElem? (i := 170) rfl) rfl
theorem dX5_sum_0 : decode cX5_sum 0 = .ok (.aload_n 0, 1) := by decide +kernel
theorem dX5_sum_1 : decode cX5_sum 1 = .ok (.iload_n 1, 1) := by decide +kernel
theorem dX5_sum_2 : decode cX5_sum 2 = .ok (.invokevirtual 247, 3) := by decide +kernel
theorem dX5_sum_5 : decode cX5_sum 5 = .ok (.ifCond .ne 5, 3) := by decide +kernel
theorem dX5_sum_10 : decode cX5_sum 10 = .ok (.iconst 0, 1) := by decide +kernel
theorem dX5_sum_11 : decode cX5_sum 11 = .ok (.istore_n 2, 1) := by decide +kernel
theorem dX5_sum_12 : decode cX5_sum 12 = .ok (.iload_n 2, 1) := by decide +kernel
theorem dX5_sum_13 : decode cX5_sum 13 = .ok (.sipush 1200, 3) := by decide +kernel
theorem dX5_sum_16 : decode cX5_sum 16 = .ok (.if_icmp .ge 89, 3) := by decide +kernel
theorem dX5_sum_19 : decode cX5_sum 19 = .ok (.aload_n 0, 1) := by decide +kernel
theorem dX5_sum_20 : decode cX5_sum 20 = .ok (.getfield 12, 3) := by decide +kernel
theorem dX5_sum_23 : decode cX5_sum 23 = .ok (.getfield 71, 3) := by decide +kernel
theorem dX5_sum_26 : decode cX5_sum 26 = .ok (.bipush 43, 2) := by decide +kernel
theorem dX5_sum_28 : decode cX5_sum 28 = .ok (.if_icmp .eq 15, 3) := by decide +kernel
theorem dX5_sum_43 : decode cX5_sum 43 = .ok (.aload_n 0, 1) := by decide +kernel
theorem dX5_sum_44 : decode cX5_sum 44 = .ok (.getfield 12, 3) := by decide +kernel
theorem dX5_sum_47 : decode cX5_sum 47 = .ok (.getfield 71, 3) := by decide +kernel
theorem dX5_sum_50 : decode cX5_sum 50 = .ok (.bipush 43, 2) := by decide +kernel
theorem dX5_sum_52 : decode cX5_sum 52 = .ok (.if_icmp .ne 7, 3) := by decide +kernel
theorem dX5_sum_55 : decode cX5_sum 55 = .ok (.iconst 1, 1) := by decide +kernel
theorem dX5_sum_56 : decode cX5_sum 56 = .ok (.goto 4, 3) := by decide +kernel
theorem dX5_sum_60 : decode cX5_sum 60 = .ok (.istore_n 3, 1) := by decide +kernel
theorem dX5_sum_61 : decode cX5_sum 61 = .ok (.aload_n 0, 1) := by decide +kernel
theorem dX5_sum_62 : decode cX5_sum 62 = .ok (.getfield 216, 3) := by decide +kernel
theorem dX5_sum_65 : decode cX5_sum 65 = .ok (.istore 4, 2) := by decide +kernel
theorem dX5_sum_67 : decode cX5_sum 67 = .ok (.aload_n 0, 1) := by decide +kernel
theorem dX5_sum_68 : decode cX5_sum 68 = .ok (.getfield 219, 3) := by decide +kernel
theorem dX5_sum_71 : decode cX5_sum 71 = .ok (.istore 5, 2) := by decide +kernel
theorem dX5_sum_73 : decode cX5_sum 73 = .ok (.aload_n 0, 1) := by decide +kernel
theorem dX5_sum_74 : decode cX5_sum 74 = .ok (.getfield 12, 3) := by decide +kernel
theorem dX5_sum_77 : decode cX5_sum 77 = .ok (.invokevirtual 93, 3) := by decide +kernel
theorem dX5_sum_80 : decode cX5_sum 80 = .ok (.aload_n 0, 1) := by decide +kernel
theorem dX5_sum_81 : decode cX5_sum 81 = .ok (.iload_n 1, 1) := by decide +kernel
theorem dX5_sum_82 : decode cX5_sum 82 = .ok (.invokevirtual 247, 3) := by decide +kernel
theorem dX5_sum_85 : decode cX5_sum 85 = .ok (.ifCond .ne 5, 3) := by decide +kernel
theorem dX5_sum_90 : decode cX5_sum 90 = .ok (.aload_n 0, 1) := by decide +kernel
theorem dX5_sum_91 : decode cX5_sum 91 = .ok (.iload_n 3, 1) := by decide +kernel
theorem dX5_sum_92 : decode cX5_sum 92 = .ok (.iload 4, 2) := by decide +kernel
theorem dX5_sum_94 : decode cX5_sum 94 = .ok (.iload 5, 2) := by decide +kernel
theorem dX5_sum_96 : decode cX5_sum 96 = .ok (.invokevirtual 244, 3) := by decide +kernel
theorem dX5_sum_99 : decode cX5_sum 99 = .ok (.iinc 2 1, 3) := by decide +kernel
theorem dX5_sum_102 : decode cX5_sum 102 = .ok (.goto (-90), 3) := by decide +kernel
theorem dX5_sum_31 : decode cX5_sum 31 = .ok (.aload_n 0, 1) := by decide +kernel
theorem dX5_sum_32 : decode cX5_sum 32 = .ok (.getfield 12, 3) := by decide +kernel
theorem dX5_sum_35 : decode cX5_sum 35 = .ok (.getfield 71, 3) := by decide +kernel
theorem dX5_sum_38 : decode cX5_sum 38 = .ok (.bipush 45, 2) := by decide +kernel
theorem dX5_sum_40 : decode cX5_sum 40 = .ok (.if_icmp .ne 65, 3) := by decide +kernel
theorem dX5_sum_59 : decode cX5_sum 59 = .ok (.iconst 2, 1) := by decide +kernel
theorem dX5_sum_88 : decode cX5_sum 88 = .ok (.iconst 0, 1) := by decide +kernel
theorem dX5_sum_89 : decode cX5_sum 89 = .ok (.ireturn, 1) := by decide +kernel
theorem dX5_sum_105 : decode cX5_sum 105 = .ok (.iconst 1, 1) := by decide +kernel
theorem dX5_sum_106 : decode cX5_sum 106 = .ok (.ireturn, 1) := by decide +kernel
theorem dX5_sum_8 : decode cX5_sum 8 = .ok (.iconst 0, 1) := by decide +kernel
theorem dX5_sum_9 : decode cX5_sum 9 = .ok (.ireturn, 1) := by decide +kernel
end
section
theorem dX5_expression_0 : decode cX5_expression 0 = .ok (.iload_n 1, 1) := by decide +kernel
theorem dX5_expression_1 : decode cX5_expression 1 = .ok (.bipush 8, 2) := by decide +kernel
theorem dX5_expression_3 : decode cX5_expression 3 = .ok (.if_icmp .le 8, 3) := by decide +kernel
theorem dX5_expression_6 : decode cX5_expression 6 = .ok (.aload_n 0, 1) := by decide +kernel
theorem dX5_expression_7 : decode cX5_expression 7 = .ok (.invokevirtual 90, 3) := by decide +kernel
theorem dX5_expression_10 : decode cX5_expression 10 = .ok (.ireturn, 1) := by decide +kernel
end
section
theorem ml5_241 : Cond.methodLink RX5 241 yX5_sum ∈ pWW := pw3 (List.mem_of_getElem? (i := 166) rfl) rfl
theorem dX5_expression_11 : decode cX5_expression 11 = .ok (.aload_n 0, 1) := by decide +kernel
theorem dX5_expression_12 : decode cX5_expression 12 = .ok (.iload_n 1, 1) := by decide +kernel
theorem dX5_expression_13 : decode cX5_expression 13 = .ok (.invokevirtual 241, 3) := by decide +kernel
theorem dX5_expression_16 : decode cX5_expression 16 = .ok (.ifCond .ne 5, 3) := by decide +kernel
theorem dX5_expression_21 : decode cX5_expression 21 = .ok (.aload_n 0, 1) := by decide +kernel
theorem dX5_expression_22 : decode cX5_expression 22 = .ok (.getfield 12, 3) := by decide +kernel
theorem dX5_expression_25 : decode cX5_expression 25 = .ok (.getfield 71, 3) := by decide +kernel
theorem dX5_expression_28 : decode cX5_expression 28 = .ok (.bipush 61, 2) := by decide +kernel
theorem dX5_expression_30 : decode cX5_expression 30 = .ok (.if_icmp .eq 17, 3) := by decide +kernel
theorem dX5_expression_47 : decode cX5_expression 47 = .ok (.aload_n 0, 1) := by decide +kernel
theorem dX5_expression_48 : decode cX5_expression 48 = .ok (.getfield 12, 3) := by decide +kernel
theorem dX5_expression_51 : decode cX5_expression 51 = .ok (.getfield 71, 3) := by decide +kernel
theorem dX5_expression_54 : decode cX5_expression 54 = .ok (.bipush 61, 2) := by decide +kernel
theorem dX5_expression_56 : decode cX5_expression 56 = .ok (.if_icmp .ne 7, 3) := by decide +kernel
theorem dX5_expression_59 : decode cX5_expression 59 = .ok (.iconst 4, 1) := by decide +kernel
theorem dX5_expression_60 : decode cX5_expression 60 = .ok (.goto 4, 3) := by decide +kernel
theorem dX5_expression_64 : decode cX5_expression 64 = .ok (.istore_n 2, 1) := by decide +kernel
theorem dX5_expression_65 : decode cX5_expression 65 = .ok (.aload_n 0, 1) := by decide +kernel
theorem dX5_expression_66 : decode cX5_expression 66 = .ok (.getfield 216, 3) := by decide +kernel
theorem dX5_expression_69 : decode cX5_expression 69 = .ok (.istore_n 3, 1) := by decide +kernel
theorem dX5_expression_70 : decode cX5_expression 70 = .ok (.aload_n 0, 1) := by decide +kernel
theorem dX5_expression_71 : decode cX5_expression 71 = .ok (.getfield 219, 3) := by decide +kernel
theorem dX5_expression_74 : decode cX5_expression 74 = .ok (.istore 4, 2) := by decide +kernel
theorem dX5_expression_76 : decode cX5_expression 76 = .ok (.aload_n 0, 1) := by decide +kernel
theorem dX5_expression_77 : decode cX5_expression 77 = .ok (.getfield 12, 3) := by decide +kernel
theorem dX5_expression_80 : decode cX5_expression 80 = .ok (.invokevirtual 93, 3) := by decide +kernel
theorem dX5_expression_83 : decode cX5_expression 83 = .ok (.aload_n 0, 1) := by decide +kernel
theorem dX5_expression_84 : decode cX5_expression 84 = .ok (.iload_n 1, 1) := by decide +kernel
theorem dX5_expression_85 : decode cX5_expression 85 = .ok (.invokevirtual 241, 3) := by decide +kernel
theorem dX5_expression_88 : decode cX5_expression 88 = .ok (.ifCond .ne 5, 3) := by decide +kernel
theorem dX5_expression_93 : decode cX5_expression 93 = .ok (.aload_n 0, 1) := by decide +kernel
theorem dX5_expression_94 : decode cX5_expression 94 = .ok (.iload_n 2, 1) := by decide +kernel
theorem dX5_expression_95 : decode cX5_expression 95 = .ok (.iload_n 3, 1) := by decide +kernel
theorem dX5_expression_96 : decode cX5_expression 96 = .ok (.iload 4, 2) := by decide +kernel
theorem dX5_expression_98 : decode cX5_expression 98 = .ok (.invokevirtual 244, 3) := by decide +kernel
theorem dX5_expression_101 : decode cX5_expression 101 = .ok (.iconst 1, 1) := by decide +kernel
theorem dX5_expression_102 : decode cX5_expression 102 = .ok (.ireturn, 1) := by decide +kernel
theorem dX5_expression_91 : decode cX5_expression 91 = .ok (.iconst 0, 1) := by decide +kernel
theorem dX5_expression_92 : decode cX5_expression 92 = .ok (.ireturn, 1) := by decide +kernel
theorem dX5_expression_33 : decode cX5_expression 33 = .ok (.aload_n 0, 1) := by decide +kernel
theorem dX5_expression_34 : decode cX5_expression 34 = .ok (.getfield 12, 3) := by decide +kernel
theorem dX5_expression_37 : decode cX5_expression 37 = .ok (.getfield 71, 3) := by decide +kernel
theorem dX5_expression_40 : decode cX5_expression 40 = .ok (.bipush 60, 2) := by decide +kernel
theorem dX5_expression_42 : decode cX5_expression 42 = .ok (.if_icmp .eq 5, 3) := by decide +kernel
theorem dX5_expression_63 : decode cX5_expression 63 = .ok (.iconst 5, 1) := by decide +kernel
theorem dX5_expression_45 : decode cX5_expression 45 = .ok (.iconst 1, 1) := by decide +kernel
theorem dX5_expression_46 : decode cX5_expression 46 = .ok (.ireturn, 1) := by decide +kernel
theorem dX5_expression_19 : decode cX5_expression 19 = .ok (.iconst 0, 1) := by decide +kernel
theorem dX5_expression_20 : decode cX5_expression 20 = .ok (.ireturn, 1) := by decide +kernel
end
section
theorem cd_X5_setting : Cond.code yX5_setting cX5_setting 2 (some .boolean) ∈ pWW := pw3 (List.mem_of_getElem? (i := 197) rfl) rfl
abbrev m_X5_setting : MT := (yX5_setting, cX5_setting, 2, (some .boolean))
theorem ok_X5_setting : pOk m_X5_setting := ⟨⟨cd_X5_setting, ini_5⟩, by decide +kernel, ⟨by decide +kernel, by decide +kernel⟩, Nat.le_of_ble_eq_true rfl⟩
theorem np_X5_setting : (parseMethodDescriptor yX5_setting.desc).map (fun d => d.parameters.length) = some 1 := by decide +kernel
theorem im_X5_setting : Cond.instanceMethod yX5_setting ∈ pWW := pw3 (List.mem_of_getElem? (i := 196) rfl) rfl
theorem se_X5_setting : Cond.selects RX5 yX5_setting yX5_setting ∈ pWW := pws (List.mem_map.mpr ⟨_, lw_pin 25 rfl, rfl⟩) rfl
theorem dX5_setting_0 : decode cX5_setting 0 = .ok (.aload_n 0, 1) := by decide +kernel
theorem dX5_setting_1 : decode cX5_setting 1 = .ok (.iconst 1, 1) := by decide +kernel
theorem dX5_setting_2 : decode cX5_setting 2 = .ok (.invokevirtual 213, 3) := by decide +kernel
theorem dX5_setting_5 : decode cX5_setting 5 = .ok (.ifCond .eq 12, 3) := by decide +kernel
theorem dX5_setting_17 : decode cX5_setting 17 = .ok (.iconst 0, 1) := by decide +kernel
theorem dX5_setting_18 : decode cX5_setting 18 = .ok (.ireturn, 1) := by decide +kernel
theorem dX5_setting_8 : decode cX5_setting 8 = .ok (.aload_n 0, 1) := by decide +kernel
theorem dX5_setting_9 : decode cX5_setting 9 = .ok (.bipush 59, 2) := by decide +kernel
theorem dX5_setting_11 : decode cX5_setting 11 = .ok (.invokevirtual 102, 3) := by decide +kernel
theorem dX5_setting_14 : decode cX5_setting 14 = .ok (.ifCond .ne 5, 3) := by decide +kernel
theorem dX5_setting_19 : decode cX5_setting 19 = .ok (.aload_n 0, 1) := by decide +kernel
theorem dX5_setting_20 : decode cX5_setting 20 = .ok (.getfield 47, 3) := by decide +kernel
theorem dX5_setting_23 : decode cX5_setting 23 = .ok (.iconst 0, 1) := by decide +kernel
theorem dX5_setting_24 : decode cX5_setting 24 = .ok (.iload_n 1, 1) := by decide +kernel
theorem dX5_setting_25 : decode cX5_setting 25 = .ok (.iconst 0, 1) := by decide +kernel
theorem dX5_setting_26 : decode cX5_setting 26 = .ok (.invokevirtual 139, 3) := by decide +kernel
theorem dX5_setting_29 : decode cX5_setting 29 = .ok (.aload_n 0, 1) := by decide +kernel
theorem dX5_setting_30 : decode cX5_setting 30 = .ok (.getfield 47, 3) := by decide +kernel
theorem dX5_setting_33 : decode cX5_setting 33 = .ok (.iconst 0, 1) := by decide +kernel
theorem dX5_setting_34 : decode cX5_setting 34 = .ok (.aload_n 0, 1) := by decide +kernel
theorem dX5_setting_35 : decode cX5_setting 35 = .ok (.getfield 216, 3) := by decide +kernel
theorem dX5_setting_38 : decode cX5_setting 38 = .ok (.aload_n 0, 1) := by decide +kernel
theorem dX5_setting_39 : decode cX5_setting 39 = .ok (.getfield 219, 3) := by decide +kernel
theorem dX5_setting_42 : decode cX5_setting 42 = .ok (.invokevirtual 143, 3) := by decide +kernel
theorem dX5_setting_45 : decode cX5_setting 45 = .ok (.iconst 1, 1) := by decide +kernel
theorem dX5_setting_46 : decode cX5_setting 46 = .ok (.ireturn, 1) := by decide +kernel
end
section
theorem cd_X5_call : Cond.code yX5_call cX5_call 6 (some .boolean) ∈ pWW := pw3 (List.mem_of_getElem? (i := 158) rfl) rfl
abbrev m_X5_call : MT := (yX5_call, cX5_call, 6, (some .boolean))
theorem ok_X5_call : pOk m_X5_call := ⟨⟨cd_X5_call, ini_5⟩, by decide +kernel, ⟨by decide +kernel, by decide +kernel⟩, Nat.le_of_ble_eq_true rfl⟩
theorem np_X5_call : (parseMethodDescriptor yX5_call.desc).map (fun d => d.parameters.length) = some 1 := by decide +kernel
theorem im_X5_call : Cond.instanceMethod yX5_call ∈ pWW := pw3 (List.mem_of_getElem? (i := 157) rfl) rfl
theorem se_X5_call : Cond.selects RX5 yX5_call yX5_call ∈ pWW := pws (List.mem_map.mpr ⟨_, lw_pin 17 rfl, rfl⟩) rfl
theorem fl5_43 : Cond.fieldLink RX5 43 (TX5 16).1 (TX5 16).2.1 (TX5 16).2.2.1 ∈ pWW := pw1 (List.mem_of_getElem? (i := 172) rfl) rfl
theorem ml5_222 : Cond.methodLink RX5 222 yJ7_fill_53178 ∈ pWW := pw3 (List.mem_of_getElem? (i := 159) rfl) rfl
theorem dX5_call_0 : decode cX5_call 0 = .ok (.aload_n 0, 1) := by decide +kernel
theorem dX5_call_1 : decode cX5_call 1 = .ok (.getfield 12, 3) := by decide +kernel
theorem dX5_call_4 : decode cX5_call 4 = .ok (.getfield 96, 3) := by decide +kernel
theorem dX5_call_7 : decode cX5_call 7 = .ok (.istore_n 2, 1) := by decide +kernel
theorem dX5_call_8 : decode cX5_call 8 = .ok (.aload_n 0, 1) := by decide +kernel
theorem dX5_call_9 : decode cX5_call 9 = .ok (.getfield 12, 3) := by decide +kernel
theorem dX5_call_12 : decode cX5_call 12 = .ok (.getfield 74, 3) := by decide +kernel
theorem dX5_call_15 : decode cX5_call 15 = .ok (.istore_n 3, 1) := by decide +kernel
theorem dX5_call_16 : decode cX5_call 16 = .ok (.aload_n 0, 1) := by decide +kernel
theorem dX5_call_17 : decode cX5_call 17 = .ok (.getfield 12, 3) := by decide +kernel
theorem dX5_call_20 : decode cX5_call 20 = .ok (.invokevirtual 93, 3) := by decide +kernel
theorem dX5_call_23 : decode cX5_call 23 = .ok (.aload_n 0, 1) := by decide +kernel
theorem dX5_call_24 : decode cX5_call 24 = .ok (.getfield 12, 3) := by decide +kernel
theorem dX5_call_27 : decode cX5_call 27 = .ok (.invokevirtual 93, 3) := by decide +kernel
theorem dX5_call_30 : decode cX5_call 30 = .ok (.iconst 0, 1) := by decide +kernel
theorem dX5_call_31 : decode cX5_call 31 = .ok (.istore 4, 2) := by decide +kernel
theorem dX5_call_33 : decode cX5_call 33 = .ok (.aload_n 0, 1) := by decide +kernel
theorem dX5_call_34 : decode cX5_call 34 = .ok (.getfield 43, 3) := by decide +kernel
theorem dX5_call_37 : decode cX5_call 37 = .ok (.iconst 0, 1) := by decide +kernel
theorem dX5_call_38 : decode cX5_call 38 = .ok (.invokestatic 222, 3) := by decide +kernel
theorem dX5_call_41 : decode cX5_call 41 = .ok (.iconst 0, 1) := by decide +kernel
theorem dX5_call_42 : decode cX5_call 42 = .ok (.istore 5, 2) := by decide +kernel
theorem dX5_call_44 : decode cX5_call 44 = .ok (.iload 5, 2) := by decide +kernel
theorem dX5_call_46 : decode cX5_call 46 = .ok (.sipush 1200, 3) := by decide +kernel
theorem dX5_call_49 : decode cX5_call 49 = .ok (.if_icmp .ge 93, 3) := by decide +kernel
theorem dX5_call_52 : decode cX5_call 52 = .ok (.aload_n 0, 1) := by decide +kernel
theorem dX5_call_53 : decode cX5_call 53 = .ok (.getfield 12, 3) := by decide +kernel
theorem dX5_call_56 : decode cX5_call 56 = .ok (.getfield 71, 3) := by decide +kernel
theorem dX5_call_59 : decode cX5_call 59 = .ok (.bipush 41, 2) := by decide +kernel
theorem dX5_call_61 : decode cX5_call 61 = .ok (.if_icmp .ne 8, 3) := by decide +kernel
theorem dX5_call_69 : decode cX5_call 69 = .ok (.aload_n 0, 1) := by decide +kernel
theorem dX5_call_70 : decode cX5_call 70 = .ok (.iconst 1, 1) := by decide +kernel
theorem dX5_call_71 : decode cX5_call 71 = .ok (.invokevirtual 213, 3) := by decide +kernel
theorem dX5_call_74 : decode cX5_call 74 = .ok (.ifCond .ne 5, 3) := by decide +kernel
theorem dX5_call_79 : decode cX5_call 79 = .ok (.aload_n 0, 1) := by decide +kernel
theorem dX5_call_80 : decode cX5_call 80 = .ok (.getfield 43, 3) := by decide +kernel
theorem dX5_call_83 : decode cX5_call 83 = .ok (.iconst 2, 1) := by decide +kernel
theorem dX5_call_84 : decode cX5_call 84 = .ok (.iload 4, 2) := by decide +kernel
theorem dX5_call_86 : decode cX5_call 86 = .ok (.imul, 1) := by decide +kernel
theorem dX5_call_87 : decode cX5_call 87 = .ok (.aload_n 0, 1) := by decide +kernel
theorem dX5_call_88 : decode cX5_call 88 = .ok (.getfield 216, 3) := by decide +kernel
theorem dX5_call_91 : decode cX5_call 91 = .ok (.invokestatic 129, 3) := by decide +kernel
theorem dX5_call_94 : decode cX5_call 94 = .ok (.aload_n 0, 1) := by decide +kernel
theorem dX5_call_95 : decode cX5_call 95 = .ok (.getfield 43, 3) := by decide +kernel
theorem dX5_call_98 : decode cX5_call 98 = .ok (.iconst 2, 1) := by decide +kernel
theorem dX5_call_99 : decode cX5_call 99 = .ok (.iload 4, 2) := by decide +kernel
theorem dX5_call_101 : decode cX5_call 101 = .ok (.imul, 1) := by decide +kernel
theorem dX5_call_102 : decode cX5_call 102 = .ok (.iconst 1, 1) := by decide +kernel
theorem dX5_call_103 : decode cX5_call 103 = .ok (.iadd, 1) := by decide +kernel
theorem dX5_call_104 : decode cX5_call 104 = .ok (.aload_n 0, 1) := by decide +kernel
theorem dX5_call_105 : decode cX5_call 105 = .ok (.getfield 219, 3) := by decide +kernel
theorem dX5_call_108 : decode cX5_call 108 = .ok (.invokestatic 129, 3) := by decide +kernel
theorem dX5_call_111 : decode cX5_call 111 = .ok (.iinc 4 1, 3) := by decide +kernel
theorem dX5_call_114 : decode cX5_call 114 = .ok (.aload_n 0, 1) := by decide +kernel
theorem dX5_call_115 : decode cX5_call 115 = .ok (.getfield 12, 3) := by decide +kernel
theorem dX5_call_118 : decode cX5_call 118 = .ok (.getfield 71, 3) := by decide +kernel
theorem dX5_call_121 : decode cX5_call 121 = .ok (.bipush 44, 2) := by decide +kernel
theorem dX5_call_123 : decode cX5_call 123 = .ok (.if_icmp .eq 6, 3) := by decide +kernel
theorem dX5_call_129 : decode cX5_call 129 = .ok (.aload_n 0, 1) := by decide +kernel
theorem dX5_call_130 : decode cX5_call 130 = .ok (.getfield 12, 3) := by decide +kernel
theorem dX5_call_133 : decode cX5_call 133 = .ok (.invokevirtual 93, 3) := by decide +kernel
theorem dX5_call_136 : decode cX5_call 136 = .ok (.iinc 5 1, 3) := by decide +kernel
theorem dX5_call_139 : decode cX5_call 139 = .ok (.goto (-95), 3) := by decide +kernel
theorem dX5_call_64 : decode cX5_call 64 = .ok (.iload 4, 2) := by decide +kernel
theorem dX5_call_66 : decode cX5_call 66 = .ok (.ifCond .le 76, 3) := by decide +kernel
theorem ml5_228 : Cond.methodLink RX5 228 yX5_listCall ∈ pWW := pw3 (List.mem_of_getElem? (i := 190) rfl) rfl
theorem dX5_call_77 : decode cX5_call 77 = .ok (.iconst 0, 1) := by decide +kernel
theorem dX5_call_78 : decode cX5_call 78 = .ok (.ireturn, 1) := by decide +kernel
theorem dX5_call_126 : decode cX5_call 126 = .ok (.goto 16, 3) := by decide +kernel
theorem dX5_call_142 : decode cX5_call 142 = .ok (.aload_n 0, 1) := by decide +kernel
theorem dX5_call_143 : decode cX5_call 143 = .ok (.bipush 41, 2) := by decide +kernel
theorem dX5_call_145 : decode cX5_call 145 = .ok (.invokevirtual 102, 3) := by decide +kernel
theorem dX5_call_148 : decode cX5_call 148 = .ok (.ifCond .eq 12, 3) := by decide +kernel
theorem dX5_call_160 : decode cX5_call 160 = .ok (.iconst 0, 1) := by decide +kernel
theorem dX5_call_161 : decode cX5_call 161 = .ok (.ireturn, 1) := by decide +kernel
theorem dX5_call_151 : decode cX5_call 151 = .ok (.aload_n 0, 1) := by decide +kernel
theorem dX5_call_152 : decode cX5_call 152 = .ok (.bipush 59, 2) := by decide +kernel
theorem dX5_call_154 : decode cX5_call 154 = .ok (.invokevirtual 102, 3) := by decide +kernel
theorem dX5_call_157 : decode cX5_call 157 = .ok (.ifCond .ne 5, 3) := by decide +kernel
theorem dX5_call_162 : decode cX5_call 162 = .ok (.aload_n 0, 1) := by decide +kernel
theorem dX5_call_163 : decode cX5_call 163 = .ok (.iload_n 2, 1) := by decide +kernel
theorem dX5_call_164 : decode cX5_call 164 = .ok (.iload_n 3, 1) := by decide +kernel
theorem dX5_call_165 : decode cX5_call 165 = .ok (.iload 4, 2) := by decide +kernel
theorem dX5_call_167 : decode cX5_call 167 = .ok (.invokevirtual 228, 3) := by decide +kernel
theorem dX5_call_170 : decode cX5_call 170 = .ok (.aload_n 0, 1) := by decide +kernel
theorem dX5_call_171 : decode cX5_call 171 = .ok (.getfield 47, 3) := by decide +kernel
theorem dX5_call_174 : decode cX5_call 174 = .ok (.bipush 10, 2) := by decide +kernel
theorem dX5_call_176 : decode cX5_call 176 = .ok (.iload_n 1, 1) := by decide +kernel
theorem dX5_call_177 : decode cX5_call 177 = .ok (.iload_n 2, 1) := by decide +kernel
theorem dX5_call_178 : decode cX5_call 178 = .ok (.invokevirtual 139, 3) := by decide +kernel
theorem dX5_call_181 : decode cX5_call 181 = .ok (.iconst 0, 1) := by decide +kernel
theorem dX5_call_182 : decode cX5_call 182 = .ok (.istore 5, 2) := by decide +kernel
theorem dX5_call_184 : decode cX5_call 184 = .ok (.iload 5, 2) := by decide +kernel
theorem dX5_call_186 : decode cX5_call 186 = .ok (.iconst 4, 1) := by decide +kernel
theorem dX5_call_187 : decode cX5_call 187 = .ok (.if_icmp .ge 42, 3) := by decide +kernel
theorem dX5_call_190 : decode cX5_call 190 = .ok (.aload_n 0, 1) := by decide +kernel
theorem dX5_call_191 : decode cX5_call 191 = .ok (.getfield 47, 3) := by decide +kernel
theorem dX5_call_194 : decode cX5_call 194 = .ok (.iload 5, 2) := by decide +kernel
theorem dX5_call_196 : decode cX5_call 196 = .ok (.aload_n 0, 1) := by decide +kernel
theorem dX5_call_197 : decode cX5_call 197 = .ok (.getfield 43, 3) := by decide +kernel
theorem dX5_call_200 : decode cX5_call 200 = .ok (.iconst 2, 1) := by decide +kernel
theorem dX5_call_201 : decode cX5_call 201 = .ok (.iload 5, 2) := by decide +kernel
theorem dX5_call_203 : decode cX5_call 203 = .ok (.imul, 1) := by decide +kernel
theorem dX5_call_204 : decode cX5_call 204 = .ok (.invokestatic 231, 3) := by decide +kernel
theorem dX5_call_207 : decode cX5_call 207 = .ok (.aload_n 0, 1) := by decide +kernel
theorem dX5_call_208 : decode cX5_call 208 = .ok (.getfield 43, 3) := by decide +kernel
theorem dX5_call_211 : decode cX5_call 211 = .ok (.iconst 2, 1) := by decide +kernel
theorem dX5_call_212 : decode cX5_call 212 = .ok (.iload 5, 2) := by decide +kernel
theorem dX5_call_214 : decode cX5_call 214 = .ok (.imul, 1) := by decide +kernel
theorem dX5_call_215 : decode cX5_call 215 = .ok (.iconst 1, 1) := by decide +kernel
theorem dX5_call_216 : decode cX5_call 216 = .ok (.iadd, 1) := by decide +kernel
theorem dX5_call_217 : decode cX5_call 217 = .ok (.invokestatic 231, 3) := by decide +kernel
theorem dX5_call_220 : decode cX5_call 220 = .ok (.invokevirtual 143, 3) := by decide +kernel
theorem dX5_call_223 : decode cX5_call 223 = .ok (.iinc 5 1, 3) := by decide +kernel
theorem dX5_call_226 : decode cX5_call 226 = .ok (.goto (-42), 3) := by decide +kernel
theorem dX5_call_229 : decode cX5_call 229 = .ok (.iconst 1, 1) := by decide +kernel
theorem dX5_call_230 : decode cX5_call 230 = .ok (.ireturn, 1) := by decide +kernel
end
section
theorem cd_X5_assignment : Cond.code yX5_assignment cX5_assignment 3 (some .boolean) ∈ pWW := pw3 (List.mem_of_getElem? (i := 124) rfl) rfl
abbrev m_X5_assignment : MT := (yX5_assignment, cX5_assignment, 3, (some .boolean))
theorem ok_X5_assignment : pOk m_X5_assignment := ⟨⟨cd_X5_assignment, ini_5⟩, by decide +kernel, ⟨by decide +kernel, by decide +kernel⟩, Nat.le_of_ble_eq_true rfl⟩
theorem np_X5_assignment : (parseMethodDescriptor yX5_assignment.desc).map (fun d => d.parameters.length) = some 0 := by decide +kernel
theorem im_X5_assignment : Cond.instanceMethod yX5_assignment ∈ pWW := pw3 (List.mem_of_getElem? (i := 123) rfl) rfl
theorem se_X5_assignment : Cond.selects RX5 yX5_assignment yX5_assignment ∈ pWW := pws (List.mem_map.mpr ⟨_, lw_pin 16 rfl, rfl⟩) rfl
theorem fl5_64 : Cond.fieldLink RX5 64 (TX5 12).1 (TX5 12).2.1 (TX5 12).2.2.1 ∈ pWW := pw1 (List.mem_of_getElem? (i := 168) rfl) rfl
theorem ml5_207 : Cond.methodLink RX5 207 yX5_setting ∈ pWW := pw3 (List.mem_of_getElem? (i := 194) rfl) rfl
theorem fl5_146 : Cond.fieldLink RX5 146 (TX1 1).1 (TX1 1).2.1 (TX1 1).2.2.1 ∈ pWW := pw1 (List.mem_of_getElem? (i := 86) rfl) rfl
theorem ml5_210 : Cond.methodLink RX5 210 yX1_setWhere ∈ pWW := pw3 (List.mem_of_getElem? (i := 198) rfl) rfl
theorem ml5_201 : Cond.methodLink RX5 201 yX9_nextIs ∈ pWW := pw3 (List.mem_of_getElem? (i := 150) rfl) rfl
theorem ml5_204 : Cond.methodLink RX5 204 yX5_call ∈ pWW := pw3 (List.mem_of_getElem? (i := 155) rfl) rfl
theorem dX5_assignment_0 : decode cX5_assignment 0 = .ok (.aload_n 0, 1) := by decide +kernel
theorem dX5_assignment_1 : decode cX5_assignment 1 = .ok (.getfield 47, 3) := by decide +kernel
theorem dX5_assignment_4 : decode cX5_assignment 4 = .ok (.bipush 11, 2) := by decide +kernel
theorem dX5_assignment_6 : decode cX5_assignment 6 = .ok (.aload_n 0, 1) := by decide +kernel
theorem dX5_assignment_7 : decode cX5_assignment 7 = .ok (.getfield 64, 3) := by decide +kernel
theorem dX5_assignment_10 : decode cX5_assignment 10 = .ok (.iconst 0, 1) := by decide +kernel
theorem dX5_assignment_11 : decode cX5_assignment 11 = .ok (.invokevirtual 139, 3) := by decide +kernel
theorem dX5_assignment_14 : decode cX5_assignment 14 = .ok (.aload_n 0, 1) := by decide +kernel
theorem dX5_assignment_15 : decode cX5_assignment 15 = .ok (.invokevirtual 176, 3) := by decide +kernel
theorem dX5_assignment_18 : decode cX5_assignment 18 = .ok (.istore_n 1, 1) := by decide +kernel
theorem dX5_assignment_19 : decode cX5_assignment 19 = .ok (.aload_n 0, 1) := by decide +kernel
theorem dX5_assignment_20 : decode cX5_assignment 20 = .ok (.getfield 12, 3) := by decide +kernel
theorem dX5_assignment_23 : decode cX5_assignment 23 = .ok (.invokevirtual 93, 3) := by decide +kernel
theorem dX5_assignment_26 : decode cX5_assignment 26 = .ok (.aload_n 0, 1) := by decide +kernel
theorem dX5_assignment_27 : decode cX5_assignment 27 = .ok (.bipush 61, 2) := by decide +kernel
theorem dX5_assignment_29 : decode cX5_assignment 29 = .ok (.invokevirtual 102, 3) := by decide +kernel
theorem dX5_assignment_32 : decode cX5_assignment 32 = .ok (.ifCond .ne 5, 3) := by decide +kernel
theorem dX5_assignment_37 : decode cX5_assignment 37 = .ok (.aload_n 0, 1) := by decide +kernel
theorem dX5_assignment_38 : decode cX5_assignment 38 = .ok (.getfield 12, 3) := by decide +kernel
theorem dX5_assignment_41 : decode cX5_assignment 41 = .ok (.getfield 71, 3) := by decide +kernel
theorem dX5_assignment_44 : decode cX5_assignment 44 = .ok (.sipush 256, 3) := by decide +kernel
theorem dX5_assignment_47 : decode cX5_assignment 47 = .ok (.if_icmp .ne 23, 3) := by decide +kernel
theorem dX5_assignment_70 : decode cX5_assignment 70 = .ok (.aload_n 0, 1) := by decide +kernel
theorem dX5_assignment_71 : decode cX5_assignment 71 = .ok (.iload_n 1, 1) := by decide +kernel
theorem dX5_assignment_72 : decode cX5_assignment 72 = .ok (.invokevirtual 207, 3) := by decide +kernel
theorem dX5_assignment_75 : decode cX5_assignment 75 = .ok (.istore_n 2, 1) := by decide +kernel
theorem dX5_assignment_76 : decode cX5_assignment 76 = .ok (.aload_n 0, 1) := by decide +kernel
theorem dX5_assignment_77 : decode cX5_assignment 77 = .ok (.getfield 47, 3) := by decide +kernel
theorem dX5_assignment_80 : decode cX5_assignment 80 = .ok (.bipush 12, 2) := by decide +kernel
theorem dX5_assignment_82 : decode cX5_assignment 82 = .ok (.iload_n 1, 1) := by decide +kernel
theorem dX5_assignment_83 : decode cX5_assignment 83 = .ok (.iconst 0, 1) := by decide +kernel
theorem dX5_assignment_84 : decode cX5_assignment 84 = .ok (.invokevirtual 139, 3) := by decide +kernel
theorem dX5_assignment_87 : decode cX5_assignment 87 = .ok (.aload_n 0, 1) := by decide +kernel
theorem dX5_assignment_88 : decode cX5_assignment 88 = .ok (.getfield 47, 3) := by decide +kernel
theorem dX5_assignment_91 : decode cX5_assignment 91 = .ok (.aload_n 0, 1) := by decide +kernel
theorem dX5_assignment_92 : decode cX5_assignment 92 = .ok (.getfield 47, 3) := by decide +kernel
theorem dX5_assignment_95 : decode cX5_assignment 95 = .ok (.getfield 146, 3) := by decide +kernel
theorem dX5_assignment_98 : decode cX5_assignment 98 = .ok (.iconst 1, 1) := by decide +kernel
theorem dX5_assignment_99 : decode cX5_assignment 99 = .ok (.isub, 1) := by decide +kernel
theorem dX5_assignment_100 : decode cX5_assignment 100 = .ok (.iconst 2, 1) := by decide +kernel
theorem dX5_assignment_101 : decode cX5_assignment 101 = .ok (.iload_n 1, 1) := by decide +kernel
theorem dX5_assignment_102 : decode cX5_assignment 102 = .ok (.invokevirtual 210, 3) := by decide +kernel
theorem dX5_assignment_105 : decode cX5_assignment 105 = .ok (.iload_n 2, 1) := by decide +kernel
theorem dX5_assignment_106 : decode cX5_assignment 106 = .ok (.ireturn, 1) := by decide +kernel
theorem dX5_assignment_50 : decode cX5_assignment 50 = .ok (.aload_n 0, 1) := by decide +kernel
theorem dX5_assignment_51 : decode cX5_assignment 51 = .ok (.getfield 12, 3) := by decide +kernel
theorem dX5_assignment_54 : decode cX5_assignment 54 = .ok (.bipush 40, 2) := by decide +kernel
theorem dX5_assignment_56 : decode cX5_assignment 56 = .ok (.invokevirtual 201, 3) := by decide +kernel
theorem dX5_assignment_59 : decode cX5_assignment 59 = .ok (.ifCond .eq 11, 3) := by decide +kernel
theorem dX5_assignment_62 : decode cX5_assignment 62 = .ok (.aload_n 0, 1) := by decide +kernel
theorem dX5_assignment_63 : decode cX5_assignment 63 = .ok (.iload_n 1, 1) := by decide +kernel
theorem dX5_assignment_64 : decode cX5_assignment 64 = .ok (.invokevirtual 204, 3) := by decide +kernel
theorem dX5_assignment_67 : decode cX5_assignment 67 = .ok (.goto 8, 3) := by decide +kernel
theorem dX5_assignment_35 : decode cX5_assignment 35 = .ok (.iconst 0, 1) := by decide +kernel
theorem dX5_assignment_36 : decode cX5_assignment 36 = .ok (.ireturn, 1) := by decide +kernel
end
section
theorem cd_X5_single : Cond.code yX5_single cX5_single 2 (some .boolean) ∈ pWW := pw3 (List.mem_of_getElem? (i := 209) rfl) rfl
abbrev m_X5_single : MT := (yX5_single, cX5_single, 2, (some .boolean))
theorem ok_X5_single : pOk m_X5_single := ⟨⟨cd_X5_single, ini_5⟩, by decide +kernel, ⟨by decide +kernel, by decide +kernel⟩, Nat.le_of_ble_eq_true rfl⟩
theorem np_X5_single : (parseMethodDescriptor yX5_single.desc).map (fun d => d.parameters.length) = some 1 := by decide +kernel
theorem im_X5_single : Cond.instanceMethod yX5_single ∈ pWW := pw3 (List.mem_of_getElem? (i := 208) rfl) rfl
theorem se_X5_single : Cond.selects RX5 yX5_single yX5_single ∈ pWW := pws (List.mem_map.mpr ⟨_, lw_pin 26 rfl, rfl⟩) rfl
theorem dX5_single_0 : decode cX5_single 0 = .ok (.aload_n 0, 1) := by decide +kernel
theorem dX5_single_1 : decode cX5_single 1 = .ok (.getfield 47, 3) := by decide +kernel
theorem dX5_single_4 : decode cX5_single 4 = .ok (.bipush 11, 2) := by decide +kernel
theorem dX5_single_6 : decode cX5_single 6 = .ok (.aload_n 0, 1) := by decide +kernel
theorem dX5_single_7 : decode cX5_single 7 = .ok (.getfield 64, 3) := by decide +kernel
theorem dX5_single_10 : decode cX5_single 10 = .ok (.iconst 0, 1) := by decide +kernel
theorem dX5_single_11 : decode cX5_single 11 = .ok (.invokevirtual 139, 3) := by decide +kernel
theorem dX5_single_14 : decode cX5_single 14 = .ok (.aload_n 0, 1) := by decide +kernel
theorem dX5_single_15 : decode cX5_single 15 = .ok (.getfield 12, 3) := by decide +kernel
theorem dX5_single_18 : decode cX5_single 18 = .ok (.invokevirtual 93, 3) := by decide +kernel
theorem dX5_single_21 : decode cX5_single 21 = .ok (.aload_n 0, 1) := by decide +kernel
theorem dX5_single_22 : decode cX5_single 22 = .ok (.iconst 1, 1) := by decide +kernel
theorem dX5_single_23 : decode cX5_single 23 = .ok (.invokevirtual 213, 3) := by decide +kernel
theorem dX5_single_26 : decode cX5_single 26 = .ok (.ifCond .eq 12, 3) := by decide +kernel
theorem dX5_single_38 : decode cX5_single 38 = .ok (.iconst 0, 1) := by decide +kernel
theorem dX5_single_39 : decode cX5_single 39 = .ok (.ireturn, 1) := by decide +kernel
theorem dX5_single_29 : decode cX5_single 29 = .ok (.aload_n 0, 1) := by decide +kernel
theorem dX5_single_30 : decode cX5_single 30 = .ok (.bipush 59, 2) := by decide +kernel
theorem dX5_single_32 : decode cX5_single 32 = .ok (.invokevirtual 102, 3) := by decide +kernel
theorem dX5_single_35 : decode cX5_single 35 = .ok (.ifCond .ne 5, 3) := by decide +kernel
theorem dX5_single_40 : decode cX5_single 40 = .ok (.aload_n 0, 1) := by decide +kernel
theorem dX5_single_41 : decode cX5_single 41 = .ok (.getfield 47, 3) := by decide +kernel
theorem dX5_single_44 : decode cX5_single 44 = .ok (.iload_n 1, 1) := by decide +kernel
theorem dX5_single_45 : decode cX5_single 45 = .ok (.iconst 0, 1) := by decide +kernel
theorem dX5_single_46 : decode cX5_single 46 = .ok (.iconst 0, 1) := by decide +kernel
theorem dX5_single_47 : decode cX5_single 47 = .ok (.invokevirtual 139, 3) := by decide +kernel
theorem dX5_single_50 : decode cX5_single 50 = .ok (.aload_n 0, 1) := by decide +kernel
theorem dX5_single_51 : decode cX5_single 51 = .ok (.getfield 47, 3) := by decide +kernel
theorem dX5_single_54 : decode cX5_single 54 = .ok (.iconst 0, 1) := by decide +kernel
theorem dX5_single_55 : decode cX5_single 55 = .ok (.aload_n 0, 1) := by decide +kernel
theorem dX5_single_56 : decode cX5_single 56 = .ok (.getfield 216, 3) := by decide +kernel
theorem dX5_single_59 : decode cX5_single 59 = .ok (.aload_n 0, 1) := by decide +kernel
theorem dX5_single_60 : decode cX5_single 60 = .ok (.getfield 219, 3) := by decide +kernel
theorem dX5_single_63 : decode cX5_single 63 = .ok (.invokevirtual 143, 3) := by decide +kernel
theorem dX5_single_66 : decode cX5_single 66 = .ok (.iconst 1, 1) := by decide +kernel
theorem dX5_single_67 : decode cX5_single 67 = .ok (.ireturn, 1) := by decide +kernel
end
section
theorem cd_X5_block : Cond.code yX5_block cX5_block 3 (some .boolean) ∈ pWW := pw3 (List.mem_of_getElem? (i := 116) rfl) rfl
abbrev m_X5_block : MT := (yX5_block, cX5_block, 3, (some .boolean))
theorem ok_X5_block : pOk m_X5_block := ⟨⟨cd_X5_block, ini_5⟩, by decide +kernel, ⟨by decide +kernel, by decide +kernel⟩, Nat.le_of_ble_eq_true rfl⟩
theorem np_X5_block : (parseMethodDescriptor yX5_block.desc).map (fun d => d.parameters.length) = some 1 := by decide +kernel
theorem im_X5_block : Cond.instanceMethod yX5_block ∈ pWW := pw3 (List.mem_of_getElem? (i := 115) rfl) rfl
theorem se_X5_block : Cond.selects RX5 yX5_block yX5_block ∈ pWW := pws (List.mem_map.mpr ⟨_, lw_pin 14 rfl, rfl⟩) rfl
theorem cd_X5_choice : Cond.code yX5_choice cX5_choice 4 (some .boolean) ∈ pWW := pw3 (List.mem_of_getElem? (i := 213) rfl) rfl
abbrev m_X5_choice : MT := (yX5_choice, cX5_choice, 4, (some .boolean))
theorem ok_X5_choice : pOk m_X5_choice := ⟨⟨cd_X5_choice, ini_5⟩, by decide +kernel, ⟨by decide +kernel, by decide +kernel⟩, Nat.le_of_ble_eq_true rfl⟩
theorem np_X5_choice : (parseMethodDescriptor yX5_choice.desc).map (fun d => d.parameters.length) = some 1 := by decide +kernel
theorem im_X5_choice : Cond.instanceMethod yX5_choice ∈ pWW := pw3 (List.mem_of_getElem? (i := 212) rfl) rfl
theorem se_X5_choice : Cond.selects RX5 yX5_choice yX5_choice ∈ pWW := pws (List.mem_map.mpr ⟨_, lw_pin 27 rfl, rfl⟩) rfl
theorem ml5_235 : Cond.methodLink RX5 235 yX5_zeroToNew ∈ pWW := pw3 (List.mem_of_getElem? (i := 214) rfl) rfl
theorem ml5_79 : Cond.methodLink RX5 79 yX5_block ∈ pWW := pw3 (List.mem_of_getElem? (i := 113) rfl) rfl
theorem dX5_choice_0 : decode cX5_choice 0 = .ok (.aload_n 0, 1) := by decide +kernel
theorem dX5_choice_1 : decode cX5_choice 1 = .ok (.getfield 47, 3) := by decide +kernel
theorem dX5_choice_4 : decode cX5_choice 4 = .ok (.bipush 11, 2) := by decide +kernel
theorem dX5_choice_6 : decode cX5_choice 6 = .ok (.aload_n 0, 1) := by decide +kernel
theorem dX5_choice_7 : decode cX5_choice 7 = .ok (.getfield 64, 3) := by decide +kernel
theorem dX5_choice_10 : decode cX5_choice 10 = .ok (.iconst 0, 1) := by decide +kernel
theorem dX5_choice_11 : decode cX5_choice 11 = .ok (.invokevirtual 139, 3) := by decide +kernel
theorem dX5_choice_14 : decode cX5_choice 14 = .ok (.aload_n 0, 1) := by decide +kernel
theorem dX5_choice_15 : decode cX5_choice 15 = .ok (.getfield 12, 3) := by decide +kernel
theorem dX5_choice_18 : decode cX5_choice 18 = .ok (.invokevirtual 93, 3) := by decide +kernel
theorem dX5_choice_21 : decode cX5_choice 21 = .ok (.aload_n 0, 1) := by decide +kernel
theorem dX5_choice_22 : decode cX5_choice 22 = .ok (.iconst 1, 1) := by decide +kernel
theorem dX5_choice_23 : decode cX5_choice 23 = .ok (.invokevirtual 213, 3) := by decide +kernel
theorem dX5_choice_26 : decode cX5_choice 26 = .ok (.ifCond .ne 5, 3) := by decide +kernel
theorem dX5_choice_31 : decode cX5_choice 31 = .ok (.aload_n 0, 1) := by decide +kernel
theorem dX5_choice_32 : decode cX5_choice 32 = .ok (.invokevirtual 235, 3) := by decide +kernel
theorem dX5_choice_35 : decode cX5_choice 35 = .ok (.istore_n 2, 1) := by decide +kernel
theorem dX5_choice_36 : decode cX5_choice 36 = .ok (.aload_n 0, 1) := by decide +kernel
theorem dX5_choice_37 : decode cX5_choice 37 = .ok (.iload_n 1, 1) := by decide +kernel
theorem dX5_choice_38 : decode cX5_choice 38 = .ok (.iconst 1, 1) := by decide +kernel
theorem dX5_choice_39 : decode cX5_choice 39 = .ok (.iadd, 1) := by decide +kernel
theorem dX5_choice_40 : decode cX5_choice 40 = .ok (.invokevirtual 79, 3) := by decide +kernel
theorem dX5_choice_43 : decode cX5_choice 43 = .ok (.ifCond .ne 5, 3) := by decide +kernel
theorem dX5_choice_48 : decode cX5_choice 48 = .ok (.aload_n 0, 1) := by decide +kernel
theorem dX5_choice_49 : decode cX5_choice 49 = .ok (.getfield 12, 3) := by decide +kernel
theorem dX5_choice_52 : decode cX5_choice 52 = .ok (.getfield 71, 3) := by decide +kernel
theorem dX5_choice_55 : decode cX5_choice 55 = .ok (.sipush 261, 3) := by decide +kernel
theorem dX5_choice_58 : decode cX5_choice 58 = .ok (.if_icmp .eq 16, 3) := by decide +kernel
theorem dX5_choice_74 : decode cX5_choice 74 = .ok (.aload_n 0, 1) := by decide +kernel
theorem dX5_choice_75 : decode cX5_choice 75 = .ok (.invokevirtual 238, 3) := by decide +kernel
theorem dX5_choice_78 : decode cX5_choice 78 = .ok (.istore_n 3, 1) := by decide +kernel
theorem dX5_choice_79 : decode cX5_choice 79 = .ok (.aload_n 0, 1) := by decide +kernel
theorem dX5_choice_80 : decode cX5_choice 80 = .ok (.getfield 47, 3) := by decide +kernel
theorem dX5_choice_83 : decode cX5_choice 83 = .ok (.bipush 8, 2) := by decide +kernel
theorem dX5_choice_85 : decode cX5_choice 85 = .ok (.iload_n 3, 1) := by decide +kernel
theorem dX5_choice_86 : decode cX5_choice 86 = .ok (.iconst 0, 1) := by decide +kernel
theorem dX5_choice_87 : decode cX5_choice 87 = .ok (.invokevirtual 139, 3) := by decide +kernel
theorem dX5_choice_90 : decode cX5_choice 90 = .ok (.aload_n 0, 1) := by decide +kernel
theorem dX5_choice_91 : decode cX5_choice 91 = .ok (.getfield 47, 3) := by decide +kernel
theorem dX5_choice_94 : decode cX5_choice 94 = .ok (.bipush 13, 2) := by decide +kernel
theorem dX5_choice_96 : decode cX5_choice 96 = .ok (.iload_n 2, 1) := by decide +kernel
theorem dX5_choice_97 : decode cX5_choice 97 = .ok (.iconst 0, 1) := by decide +kernel
theorem dX5_choice_98 : decode cX5_choice 98 = .ok (.invokevirtual 139, 3) := by decide +kernel
theorem dX5_choice_101 : decode cX5_choice 101 = .ok (.aload_n 0, 1) := by decide +kernel
theorem dX5_choice_102 : decode cX5_choice 102 = .ok (.getfield 12, 3) := by decide +kernel
theorem dX5_choice_105 : decode cX5_choice 105 = .ok (.invokevirtual 93, 3) := by decide +kernel
theorem dX5_choice_108 : decode cX5_choice 108 = .ok (.aload_n 0, 1) := by decide +kernel
theorem dX5_choice_109 : decode cX5_choice 109 = .ok (.iload_n 1, 1) := by decide +kernel
theorem dX5_choice_110 : decode cX5_choice 110 = .ok (.iconst 1, 1) := by decide +kernel
theorem dX5_choice_111 : decode cX5_choice 111 = .ok (.iadd, 1) := by decide +kernel
theorem dX5_choice_112 : decode cX5_choice 112 = .ok (.invokevirtual 79, 3) := by decide +kernel
theorem dX5_choice_115 : decode cX5_choice 115 = .ok (.ifCond .ne 5, 3) := by decide +kernel
theorem dX5_choice_120 : decode cX5_choice 120 = .ok (.aload_n 0, 1) := by decide +kernel
theorem dX5_choice_121 : decode cX5_choice 121 = .ok (.getfield 47, 3) := by decide +kernel
theorem dX5_choice_124 : decode cX5_choice 124 = .ok (.bipush 13, 2) := by decide +kernel
theorem dX5_choice_126 : decode cX5_choice 126 = .ok (.iload_n 3, 1) := by decide +kernel
theorem dX5_choice_127 : decode cX5_choice 127 = .ok (.iconst 0, 1) := by decide +kernel
theorem dX5_choice_128 : decode cX5_choice 128 = .ok (.invokevirtual 139, 3) := by decide +kernel
theorem dX5_choice_131 : decode cX5_choice 131 = .ok (.iconst 1, 1) := by decide +kernel
theorem dX5_choice_132 : decode cX5_choice 132 = .ok (.ireturn, 1) := by decide +kernel
theorem dX5_choice_118 : decode cX5_choice 118 = .ok (.iconst 0, 1) := by decide +kernel
theorem dX5_choice_119 : decode cX5_choice 119 = .ok (.ireturn, 1) := by decide +kernel
theorem dX5_choice_61 : decode cX5_choice 61 = .ok (.aload_n 0, 1) := by decide +kernel
theorem dX5_choice_62 : decode cX5_choice 62 = .ok (.getfield 47, 3) := by decide +kernel
theorem dX5_choice_65 : decode cX5_choice 65 = .ok (.bipush 13, 2) := by decide +kernel
theorem dX5_choice_67 : decode cX5_choice 67 = .ok (.iload_n 2, 1) := by decide +kernel
theorem dX5_choice_68 : decode cX5_choice 68 = .ok (.iconst 0, 1) := by decide +kernel
theorem dX5_choice_69 : decode cX5_choice 69 = .ok (.invokevirtual 139, 3) := by decide +kernel
theorem dX5_choice_72 : decode cX5_choice 72 = .ok (.iconst 1, 1) := by decide +kernel
theorem dX5_choice_73 : decode cX5_choice 73 = .ok (.ireturn, 1) := by decide +kernel
theorem dX5_choice_46 : decode cX5_choice 46 = .ok (.iconst 0, 1) := by decide +kernel
theorem dX5_choice_47 : decode cX5_choice 47 = .ok (.ireturn, 1) := by decide +kernel
theorem dX5_choice_29 : decode cX5_choice 29 = .ok (.iconst 0, 1) := by decide +kernel
theorem dX5_choice_30 : decode cX5_choice 30 = .ok (.ireturn, 1) := by decide +kernel
end
section
theorem cd_X5_ring : Cond.code yX5_ring cX5_ring 4 (some .boolean) ∈ pWW := pw3 (List.mem_of_getElem? (i := 225) rfl) rfl
abbrev m_X5_ring : MT := (yX5_ring, cX5_ring, 4, (some .boolean))
theorem ok_X5_ring : pOk m_X5_ring := ⟨⟨cd_X5_ring, ini_5⟩, by decide +kernel, ⟨by decide +kernel, by decide +kernel⟩, Nat.le_of_ble_eq_true rfl⟩
theorem np_X5_ring : (parseMethodDescriptor yX5_ring.desc).map (fun d => d.parameters.length) = some 1 := by decide +kernel
theorem im_X5_ring : Cond.instanceMethod yX5_ring ∈ pWW := pw3 (List.mem_of_getElem? (i := 224) rfl) rfl
theorem se_X5_ring : Cond.selects RX5 yX5_ring yX5_ring ∈ pWW := pws (List.mem_map.mpr ⟨_, lw_pin 30 rfl, rfl⟩) rfl
theorem dX5_ring_0 : decode cX5_ring 0 = .ok (.aload_n 0, 1) := by decide +kernel
theorem dX5_ring_1 : decode cX5_ring 1 = .ok (.invokevirtual 238, 3) := by decide +kernel
theorem dX5_ring_4 : decode cX5_ring 4 = .ok (.istore_n 2, 1) := by decide +kernel
theorem dX5_ring_5 : decode cX5_ring 5 = .ok (.aload_n 0, 1) := by decide +kernel
theorem dX5_ring_6 : decode cX5_ring 6 = .ok (.getfield 47, 3) := by decide +kernel
theorem dX5_ring_9 : decode cX5_ring 9 = .ok (.bipush 13, 2) := by decide +kernel
theorem dX5_ring_11 : decode cX5_ring 11 = .ok (.iload_n 2, 1) := by decide +kernel
theorem dX5_ring_12 : decode cX5_ring 12 = .ok (.iconst 0, 1) := by decide +kernel
theorem dX5_ring_13 : decode cX5_ring 13 = .ok (.invokevirtual 139, 3) := by decide +kernel
theorem dX5_ring_16 : decode cX5_ring 16 = .ok (.aload_n 0, 1) := by decide +kernel
theorem dX5_ring_17 : decode cX5_ring 17 = .ok (.getfield 47, 3) := by decide +kernel
theorem dX5_ring_20 : decode cX5_ring 20 = .ok (.bipush 11, 2) := by decide +kernel
theorem dX5_ring_22 : decode cX5_ring 22 = .ok (.aload_n 0, 1) := by decide +kernel
theorem dX5_ring_23 : decode cX5_ring 23 = .ok (.getfield 64, 3) := by decide +kernel
theorem dX5_ring_26 : decode cX5_ring 26 = .ok (.iconst 0, 1) := by decide +kernel
theorem dX5_ring_27 : decode cX5_ring 27 = .ok (.invokevirtual 139, 3) := by decide +kernel
theorem dX5_ring_30 : decode cX5_ring 30 = .ok (.aload_n 0, 1) := by decide +kernel
theorem dX5_ring_31 : decode cX5_ring 31 = .ok (.getfield 12, 3) := by decide +kernel
theorem dX5_ring_34 : decode cX5_ring 34 = .ok (.invokevirtual 93, 3) := by decide +kernel
theorem dX5_ring_37 : decode cX5_ring 37 = .ok (.aload_n 0, 1) := by decide +kernel
theorem dX5_ring_38 : decode cX5_ring 38 = .ok (.iconst 1, 1) := by decide +kernel
theorem dX5_ring_39 : decode cX5_ring 39 = .ok (.invokevirtual 213, 3) := by decide +kernel
theorem dX5_ring_42 : decode cX5_ring 42 = .ok (.ifCond .ne 5, 3) := by decide +kernel
theorem dX5_ring_47 : decode cX5_ring 47 = .ok (.aload_n 0, 1) := by decide +kernel
theorem dX5_ring_48 : decode cX5_ring 48 = .ok (.invokevirtual 235, 3) := by decide +kernel
theorem dX5_ring_51 : decode cX5_ring 51 = .ok (.istore_n 3, 1) := by decide +kernel
theorem dX5_ring_52 : decode cX5_ring 52 = .ok (.aload_n 0, 1) := by decide +kernel
theorem dX5_ring_53 : decode cX5_ring 53 = .ok (.iload_n 1, 1) := by decide +kernel
theorem dX5_ring_54 : decode cX5_ring 54 = .ok (.iconst 1, 1) := by decide +kernel
theorem dX5_ring_55 : decode cX5_ring 55 = .ok (.iadd, 1) := by decide +kernel
theorem dX5_ring_56 : decode cX5_ring 56 = .ok (.invokevirtual 79, 3) := by decide +kernel
theorem dX5_ring_59 : decode cX5_ring 59 = .ok (.ifCond .ne 5, 3) := by decide +kernel
theorem dX5_ring_64 : decode cX5_ring 64 = .ok (.aload_n 0, 1) := by decide +kernel
theorem dX5_ring_65 : decode cX5_ring 65 = .ok (.getfield 47, 3) := by decide +kernel
theorem dX5_ring_68 : decode cX5_ring 68 = .ok (.bipush 8, 2) := by decide +kernel
theorem dX5_ring_70 : decode cX5_ring 70 = .ok (.iload_n 2, 1) := by decide +kernel
theorem dX5_ring_71 : decode cX5_ring 71 = .ok (.iconst 0, 1) := by decide +kernel
theorem dX5_ring_72 : decode cX5_ring 72 = .ok (.invokevirtual 139, 3) := by decide +kernel
theorem dX5_ring_75 : decode cX5_ring 75 = .ok (.aload_n 0, 1) := by decide +kernel
theorem dX5_ring_76 : decode cX5_ring 76 = .ok (.getfield 47, 3) := by decide +kernel
theorem dX5_ring_79 : decode cX5_ring 79 = .ok (.bipush 13, 2) := by decide +kernel
theorem dX5_ring_81 : decode cX5_ring 81 = .ok (.iload_n 3, 1) := by decide +kernel
theorem dX5_ring_82 : decode cX5_ring 82 = .ok (.iconst 0, 1) := by decide +kernel
theorem dX5_ring_83 : decode cX5_ring 83 = .ok (.invokevirtual 139, 3) := by decide +kernel
theorem dX5_ring_86 : decode cX5_ring 86 = .ok (.iconst 1, 1) := by decide +kernel
theorem dX5_ring_87 : decode cX5_ring 87 = .ok (.ireturn, 1) := by decide +kernel
theorem dX5_ring_62 : decode cX5_ring 62 = .ok (.iconst 0, 1) := by decide +kernel
theorem dX5_ring_63 : decode cX5_ring 63 = .ok (.ireturn, 1) := by decide +kernel
theorem dX5_ring_45 : decode cX5_ring 45 = .ok (.iconst 0, 1) := by decide +kernel
theorem dX5_ring_46 : decode cX5_ring 46 = .ok (.ireturn, 1) := by decide +kernel
end
section
theorem cd_X5_statement : Cond.code yX5_statement cX5_statement 2 (some .boolean) ∈ pWW := pw3 (List.mem_of_getElem? (i := 120) rfl) rfl
abbrev m_X5_statement : MT := (yX5_statement, cX5_statement, 2, (some .boolean))
theorem ok_X5_statement : pOk m_X5_statement := ⟨⟨cd_X5_statement, ini_5⟩, by decide +kernel, ⟨by decide +kernel, by decide +kernel⟩, Nat.le_of_ble_eq_true rfl⟩
theorem np_X5_statement : (parseMethodDescriptor yX5_statement.desc).map (fun d => d.parameters.length) = some 1 := by decide +kernel
theorem im_X5_statement : Cond.instanceMethod yX5_statement ∈ pWW := pw3 (List.mem_of_getElem? (i := 119) rfl) rfl
theorem se_X5_statement : Cond.selects RX5 yX5_statement yX5_statement ∈ pWW := pws (List.mem_map.mpr ⟨_, lw_pin 15 rfl, rfl⟩) rfl
theorem fl5_186 : Cond.fieldLink RX5 186 (TX1 4).1 (TX1 4).2.1 (TX1 4).2.2.1 ∈ pWW := pw1 (List.mem_of_getElem? (i := 101) rfl) rfl
theorem ml5_189 : Cond.methodLink RX5 189 yX5_assignment ∈ pWW := pw3 (List.mem_of_getElem? (i := 121) rfl) rfl
theorem ml5_192 : Cond.methodLink RX5 192 yX5_single ∈ pWW := pw3 (List.mem_of_getElem? (i := 206) rfl) rfl
theorem ml5_195 : Cond.methodLink RX5 195 yX5_choice ∈ pWW := pw3 (List.mem_of_getElem? (i := 210) rfl) rfl
theorem ml5_198 : Cond.methodLink RX5 198 yX5_ring ∈ pWW := pw3 (List.mem_of_getElem? (i := 222) rfl) rfl
theorem dX5_statement_0 : decode cX5_statement 0 = .ok (.aload_n 0, 1) := by decide +kernel
theorem dX5_statement_1 : decode cX5_statement 1 = .ok (.dup, 1) := by decide +kernel
theorem dX5_statement_2 : decode cX5_statement 2 = .ok (.getfield 64, 3) := by decide +kernel
theorem dX5_statement_5 : decode cX5_statement 5 = .ok (.iconst 1, 1) := by decide +kernel
theorem dX5_statement_6 : decode cX5_statement 6 = .ok (.iadd, 1) := by decide +kernel
theorem dX5_statement_7 : decode cX5_statement 7 = .ok (.putfield 64, 3) := by decide +kernel
theorem dX5_statement_10 : decode cX5_statement 10 = .ok (.aload_n 0, 1) := by decide +kernel
theorem dX5_statement_11 : decode cX5_statement 11 = .ok (.getfield 64, 3) := by decide +kernel
theorem dX5_statement_14 : decode cX5_statement 14 = .ok (.bipush 40, 2) := by decide +kernel
theorem dX5_statement_16 : decode cX5_statement 16 = .ok (.if_icmp .le 15, 3) := by decide +kernel
theorem dX5_statement_31 : decode cX5_statement 31 = .ok (.aload_n 0, 1) := by decide +kernel
theorem dX5_statement_32 : decode cX5_statement 32 = .ok (.getfield 47, 3) := by decide +kernel
theorem dX5_statement_35 : decode cX5_statement 35 = .ok (.getfield 186, 3) := by decide +kernel
theorem dX5_statement_38 : decode cX5_statement 38 = .ok (.ifCond .ne 14, 3) := by decide +kernel
theorem dX5_statement_52 : decode cX5_statement 52 = .ok (.aload_n 0, 1) := by decide +kernel
theorem dX5_statement_53 : decode cX5_statement 53 = .ok (.getfield 12, 3) := by decide +kernel
theorem dX5_statement_56 : decode cX5_statement 56 = .ok (.getfield 71, 3) := by decide +kernel
theorem dX5_statement_59 : decode cX5_statement 59 = .ok (.tableswitch 72 256 262 #[41, 72, 46, 53, 60, 72, 66], 41) := by decide +kernel
theorem dX5_statement_131 : decode cX5_statement 131 = .ok (.aload_n 0, 1) := by decide +kernel
theorem dX5_statement_132 : decode cX5_statement 132 = .ok (.invokevirtual 90, 3) := by decide +kernel
theorem dX5_statement_135 : decode cX5_statement 135 = .ok (.ireturn, 1) := by decide +kernel
theorem dX5_statement_100 : decode cX5_statement 100 = .ok (.aload_n 0, 1) := by decide +kernel
theorem dX5_statement_101 : decode cX5_statement 101 = .ok (.invokevirtual 189, 3) := by decide +kernel
theorem dX5_statement_104 : decode cX5_statement 104 = .ok (.ireturn, 1) := by decide +kernel
theorem dX5_statement_105 : decode cX5_statement 105 = .ok (.aload_n 0, 1) := by decide +kernel
theorem dX5_statement_106 : decode cX5_statement 106 = .ok (.bipush 6, 2) := by decide +kernel
theorem dX5_statement_108 : decode cX5_statement 108 = .ok (.invokevirtual 192, 3) := by decide +kernel
theorem dX5_statement_111 : decode cX5_statement 111 = .ok (.ireturn, 1) := by decide +kernel
theorem dX5_statement_112 : decode cX5_statement 112 = .ok (.aload_n 0, 1) := by decide +kernel
theorem dX5_statement_113 : decode cX5_statement 113 = .ok (.bipush 7, 2) := by decide +kernel
theorem dX5_statement_115 : decode cX5_statement 115 = .ok (.invokevirtual 192, 3) := by decide +kernel
theorem dX5_statement_118 : decode cX5_statement 118 = .ok (.ireturn, 1) := by decide +kernel
theorem dX5_statement_119 : decode cX5_statement 119 = .ok (.aload_n 0, 1) := by decide +kernel
theorem dX5_statement_120 : decode cX5_statement 120 = .ok (.iload_n 1, 1) := by decide +kernel
theorem dX5_statement_121 : decode cX5_statement 121 = .ok (.invokevirtual 195, 3) := by decide +kernel
theorem dX5_statement_124 : decode cX5_statement 124 = .ok (.ireturn, 1) := by decide +kernel
theorem dX5_statement_125 : decode cX5_statement 125 = .ok (.aload_n 0, 1) := by decide +kernel
theorem dX5_statement_126 : decode cX5_statement 126 = .ok (.iload_n 1, 1) := by decide +kernel
theorem dX5_statement_127 : decode cX5_statement 127 = .ok (.invokevirtual 198, 3) := by decide +kernel
theorem dX5_statement_130 : decode cX5_statement 130 = .ok (.ireturn, 1) := by decide +kernel
theorem dX5_statement_41 : decode cX5_statement 41 = .ok (.aload_n 0, 1) := by decide +kernel
theorem dX5_statement_42 : decode cX5_statement 42 = .ok (.getfield 47, 3) := by decide +kernel
theorem dX5_statement_45 : decode cX5_statement 45 = .ok (.aload_n 0, 1) := by decide +kernel
theorem dX5_statement_46 : decode cX5_statement 46 = .ok (.getfield 64, 3) := by decide +kernel
theorem dX5_statement_49 : decode cX5_statement 49 = .ok (.putfield 186, 3) := by decide +kernel
theorem dX5_statement_19 : decode cX5_statement 19 = .ok (.aload_n 0, 1) := by decide +kernel
theorem dX5_statement_20 : decode cX5_statement 20 = .ok (.iconst 5, 1) := by decide +kernel
theorem dX5_statement_21 : decode cX5_statement 21 = .ok (.aload_n 0, 1) := by decide +kernel
theorem dX5_statement_22 : decode cX5_statement 22 = .ok (.getfield 12, 3) := by decide +kernel
theorem dX5_statement_25 : decode cX5_statement 25 = .ok (.getfield 74, 3) := by decide +kernel
theorem dX5_statement_28 : decode cX5_statement 28 = .ok (.invokevirtual 113, 3) := by decide +kernel
end
section
theorem dX5_block_0 : decode cX5_block 0 = .ok (.iload_n 1, 1) := by decide +kernel
theorem dX5_block_1 : decode cX5_block 1 = .ok (.bipush 6, 2) := by decide +kernel
theorem dX5_block_3 : decode cX5_block 3 = .ok (.if_icmp .gt 12, 3) := by decide +kernel
theorem dX5_block_15 : decode cX5_block 15 = .ok (.aload_n 0, 1) := by decide +kernel
theorem dX5_block_16 : decode cX5_block 16 = .ok (.invokevirtual 90, 3) := by decide +kernel
theorem dX5_block_19 : decode cX5_block 19 = .ok (.ireturn, 1) := by decide +kernel
end
section
theorem ml5_183 : Cond.methodLink RX5 183 yX5_statement ∈ pWW := pw3 (List.mem_of_getElem? (i := 117) rfl) rfl
theorem dX5_block_6 : decode cX5_block 6 = .ok (.aload_n 0, 1) := by decide +kernel
theorem dX5_block_7 : decode cX5_block 7 = .ok (.bipush 123, 2) := by decide +kernel
theorem dX5_block_9 : decode cX5_block 9 = .ok (.invokevirtual 102, 3) := by decide +kernel
theorem dX5_block_12 : decode cX5_block 12 = .ok (.ifCond .ne 8, 3) := by decide +kernel
theorem dX5_block_20 : decode cX5_block 20 = .ok (.iconst 0, 1) := by decide +kernel
theorem dX5_block_21 : decode cX5_block 21 = .ok (.istore_n 2, 1) := by decide +kernel
theorem dX5_block_22 : decode cX5_block 22 = .ok (.iload_n 2, 1) := by decide +kernel
theorem dX5_block_23 : decode cX5_block 23 = .ok (.sipush 1200, 3) := by decide +kernel
theorem dX5_block_26 : decode cX5_block 26 = .ok (.if_icmp .ge 31, 3) := by decide +kernel
theorem dX5_block_29 : decode cX5_block 29 = .ok (.aload_n 0, 1) := by decide +kernel
theorem dX5_block_30 : decode cX5_block 30 = .ok (.getfield 12, 3) := by decide +kernel
theorem dX5_block_33 : decode cX5_block 33 = .ok (.getfield 71, 3) := by decide +kernel
theorem dX5_block_36 : decode cX5_block 36 = .ok (.bipush 125, 2) := by decide +kernel
theorem dX5_block_38 : decode cX5_block 38 = .ok (.if_icmp .eq 19, 3) := by decide +kernel
theorem dX5_block_41 : decode cX5_block 41 = .ok (.aload_n 0, 1) := by decide +kernel
theorem dX5_block_42 : decode cX5_block 42 = .ok (.iload_n 1, 1) := by decide +kernel
theorem dX5_block_43 : decode cX5_block 43 = .ok (.invokevirtual 183, 3) := by decide +kernel
theorem dX5_block_46 : decode cX5_block 46 = .ok (.ifCond .ne 5, 3) := by decide +kernel
theorem dX5_block_51 : decode cX5_block 51 = .ok (.iinc 2 1, 3) := by decide +kernel
theorem dX5_block_54 : decode cX5_block 54 = .ok (.goto (-32), 3) := by decide +kernel
theorem dX5_block_49 : decode cX5_block 49 = .ok (.iconst 0, 1) := by decide +kernel
theorem dX5_block_50 : decode cX5_block 50 = .ok (.ireturn, 1) := by decide +kernel
theorem dX5_block_57 : decode cX5_block 57 = .ok (.aload_n 0, 1) := by decide +kernel
theorem dX5_block_58 : decode cX5_block 58 = .ok (.bipush 125, 2) := by decide +kernel
theorem dX5_block_60 : decode cX5_block 60 = .ok (.invokevirtual 102, 3) := by decide +kernel
theorem dX5_block_63 : decode cX5_block 63 = .ok (.ireturn, 1) := by decide +kernel
end
section
def RT (σ : MS) (a : Nat) : Prop := ∀ t : Nat, σ.2.1 33 a = (t : Int) → TKI σ t
section RTS
variable {T : CT} {σ τ : MS} {a t c : Nat} {k : Int} {ks : List Nat}
theorem RT.of (ht : σ.2.1 33 a = (t : Int)) (h : TKI σ t) : RT σ a := fun t2 q => by
  have e : t2 = t := by omega
  rw [e]; exact h
theorem RP.rt (h : RP σ a k) (hw : WT T σ) (ha : OB T a 5) : RT σ a := fun t q => h.tk hw ha q
theorem RT.frc (h : RT σ a) (f : FrC T ks σ τ) (h1 : 33 ∉ ks) (h4 : 84 ∉ ks) (h5 : 85 ∉ ks) : RT τ a := fun t q => by
  rw [f.1 33 (by omega) h1] at q
  have w := h t q
  unfold TKI at *
  rw [f.1 84 (by omega) h4, f.1 85 (by omega) h5]
  exact w
theorem RP.new (ht : RT σ a) (hw : WT T σ) (ha : OB T a 5) (hc : σ.2.1 35 a = (c : Int)) (h6 : σ.2.1 6 c = 0) : RP σ a 4 := fun t c2 q r => by
  have e : c2 = c := by omega
  rw [e, h6]
  refine ⟨ht t q, ?_⟩
  obtain ⟨t2, ht2, hk2⟩ := wf_33 hw ha
  have e2 : t2 = t := by omega
  rw [e2] at hk2
  have ob : OB T t 9 := ⟨by omega, by rw [hk2]; rfl, by omega⟩
  have w := wf_84 hw ob
  omega
end RTS
end
section
theorem cd_X5_numberNew : Cond.code yX5_numberNew cX5_numberNew 3 none ∈ pWW := pw3 (List.mem_of_getElem? (i := 233) rfl) rfl
abbrev m_X5_numberNew : MT := (yX5_numberNew, cX5_numberNew, 3, none)
theorem ok_X5_numberNew : pOk m_X5_numberNew := ⟨⟨cd_X5_numberNew, ini_5⟩, by decide +kernel, ⟨by decide +kernel, by decide +kernel⟩, Nat.le_of_ble_eq_true rfl⟩
theorem np_X5_numberNew : (parseMethodDescriptor yX5_numberNew.desc).map (fun d => d.parameters.length) = some 1 := by decide +kernel
theorem im_X5_numberNew : Cond.instanceMethod yX5_numberNew ∈ pWW := pw3 (List.mem_of_getElem? (i := 232) rfl) rfl
theorem se_X5_numberNew : Cond.selects RX5 yX5_numberNew yX5_numberNew ∈ pWW := pws (List.mem_map.mpr ⟨_, lw_pin 32 rfl, rfl⟩) rfl
theorem ml5_161 : Cond.methodLink RX5 161 yX1_writtenBy ∈ pWW := pw3 (List.mem_of_getElem? (i := 234) rfl) rfl
theorem ml5_164 : Cond.methodLink RX5 164 yX1_get ∈ pWW := pw4 (List.mem_of_getElem? (i := 9) rfl) rfl
theorem ml5_167 : Cond.methodLink RX5 167 yX1_set ∈ pWW := pw4 (List.mem_of_getElem? (i := 10) rfl) rfl
theorem dX5_numberNew_0 : decode cX5_numberNew 0 = .ok (.aload_n 0, 1) := by decide +kernel
theorem dX5_numberNew_1 : decode cX5_numberNew 1 = .ok (.getfield 47, 3) := by decide +kernel
theorem dX5_numberNew_4 : decode cX5_numberNew 4 = .ok (.iload_n 1, 1) := by decide +kernel
theorem dX5_numberNew_5 : decode cX5_numberNew 5 = .ok (.invokevirtual 161, 3) := by decide +kernel
theorem dX5_numberNew_8 : decode cX5_numberNew 8 = .ok (.sipush 1000, 3) := by decide +kernel
theorem dX5_numberNew_11 : decode cX5_numberNew 11 = .ok (.if_icmp .lt 33, 3) := by decide +kernel
theorem dX5_numberNew_44 : decode cX5_numberNew 44 = .ok (.iconst 3, 1) := by decide +kernel
theorem dX5_numberNew_45 : decode cX5_numberNew 45 = .ok (.istore_n 2, 1) := by decide +kernel
theorem dX5_numberNew_46 : decode cX5_numberNew 46 = .ok (.iload_n 2, 1) := by decide +kernel
theorem dX5_numberNew_47 : decode cX5_numberNew 47 = .ok (.bipush 11, 2) := by decide +kernel
theorem dX5_numberNew_49 : decode cX5_numberNew 49 = .ok (.if_icmp .ge 73, 3) := by decide +kernel
theorem dX5_numberNew_52 : decode cX5_numberNew 52 = .ok (.aload_n 0, 1) := by decide +kernel
theorem dX5_numberNew_53 : decode cX5_numberNew 53 = .ok (.getfield 47, 3) := by decide +kernel
theorem dX5_numberNew_56 : decode cX5_numberNew 56 = .ok (.iload_n 1, 1) := by decide +kernel
theorem dX5_numberNew_57 : decode cX5_numberNew 57 = .ok (.iload_n 2, 1) := by decide +kernel
theorem dX5_numberNew_58 : decode cX5_numberNew 58 = .ok (.invokevirtual 164, 3) := by decide +kernel
theorem dX5_numberNew_61 : decode cX5_numberNew 61 = .ok (.iconst 2, 1) := by decide +kernel
theorem dX5_numberNew_62 : decode cX5_numberNew 62 = .ok (.if_icmp .ne 54, 3) := by decide +kernel
theorem dX5_numberNew_116 : decode cX5_numberNew 116 = .ok (.iinc 2 2, 3) := by decide +kernel
theorem dX5_numberNew_119 : decode cX5_numberNew 119 = .ok (.goto (-73), 3) := by decide +kernel
theorem dX5_numberNew_65 : decode cX5_numberNew 65 = .ok (.aload_n 0, 1) := by decide +kernel
theorem dX5_numberNew_66 : decode cX5_numberNew 66 = .ok (.getfield 47, 3) := by decide +kernel
theorem dX5_numberNew_69 : decode cX5_numberNew 69 = .ok (.iload_n 1, 1) := by decide +kernel
theorem dX5_numberNew_70 : decode cX5_numberNew 70 = .ok (.iload_n 2, 1) := by decide +kernel
theorem dX5_numberNew_71 : decode cX5_numberNew 71 = .ok (.iconst 1, 1) := by decide +kernel
theorem dX5_numberNew_72 : decode cX5_numberNew 72 = .ok (.iadd, 1) := by decide +kernel
theorem dX5_numberNew_73 : decode cX5_numberNew 73 = .ok (.invokevirtual 164, 3) := by decide +kernel
theorem dX5_numberNew_76 : decode cX5_numberNew 76 = .ok (.sipush 1000, 3) := by decide +kernel
theorem dX5_numberNew_79 : decode cX5_numberNew 79 = .ok (.if_icmp .lt 37, 3) := by decide +kernel
theorem dX5_numberNew_82 : decode cX5_numberNew 82 = .ok (.aload_n 0, 1) := by decide +kernel
theorem dX5_numberNew_83 : decode cX5_numberNew 83 = .ok (.getfield 47, 3) := by decide +kernel
theorem dX5_numberNew_86 : decode cX5_numberNew 86 = .ok (.iload_n 1, 1) := by decide +kernel
theorem dX5_numberNew_87 : decode cX5_numberNew 87 = .ok (.iload_n 2, 1) := by decide +kernel
theorem dX5_numberNew_88 : decode cX5_numberNew 88 = .ok (.iconst 1, 1) := by decide +kernel
theorem dX5_numberNew_89 : decode cX5_numberNew 89 = .ok (.iadd, 1) := by decide +kernel
theorem dX5_numberNew_90 : decode cX5_numberNew 90 = .ok (.aload_n 0, 1) := by decide +kernel
theorem dX5_numberNew_91 : decode cX5_numberNew 91 = .ok (.getfield 47, 3) := by decide +kernel
theorem dX5_numberNew_94 : decode cX5_numberNew 94 = .ok (.iload_n 1, 1) := by decide +kernel
theorem dX5_numberNew_95 : decode cX5_numberNew 95 = .ok (.iload_n 2, 1) := by decide +kernel
theorem dX5_numberNew_96 : decode cX5_numberNew 96 = .ok (.iconst 1, 1) := by decide +kernel
theorem dX5_numberNew_97 : decode cX5_numberNew 97 = .ok (.iadd, 1) := by decide +kernel
theorem dX5_numberNew_98 : decode cX5_numberNew 98 = .ok (.invokevirtual 164, 3) := by decide +kernel
theorem dX5_numberNew_101 : decode cX5_numberNew 101 = .ok (.sipush 1000, 3) := by decide +kernel
theorem dX5_numberNew_104 : decode cX5_numberNew 104 = .ok (.isub, 1) := by decide +kernel
theorem dX5_numberNew_105 : decode cX5_numberNew 105 = .ok (.aload_n 0, 1) := by decide +kernel
theorem dX5_numberNew_106 : decode cX5_numberNew 106 = .ok (.getfield 47, 3) := by decide +kernel
theorem dX5_numberNew_109 : decode cX5_numberNew 109 = .ok (.getfield 152, 3) := by decide +kernel
theorem dX5_numberNew_112 : decode cX5_numberNew 112 = .ok (.iadd, 1) := by decide +kernel
theorem dX5_numberNew_113 : decode cX5_numberNew 113 = .ok (.invokevirtual 167, 3) := by decide +kernel
set_option maxRecDepth 20000 in
theorem l_X5_numberNew_46 (d : Nat) {T : CT} {σ0 : MS} {a : Nat} {c1 : Int} {post : Option Value → CT → MS → Prop} (h_a : OB T a 5) (r_c1 : -2147483648 ≤ c1 ∧ c1 ≤ 2147483647) (hw0 : WT T σ0) (hx_122 : ∀ (i2 : Int) (σ : MS) , (WT T σ) → (FrC T [] σ0 σ) → (3 ≤ i2 ∧ i2 ≤ 2147483647) → Tn (d + 3) m_X5_numberNew 122 T σ [(0, .ref a), (1, .int (iI c1)), (2, .int (iI i2))] [] post) : ∀ (n : Nat) (i2 : Int) (σ : MS) , (WT T σ) → (FrC T [] σ0 σ) → (3 ≤ i2 ∧ i2 ≤ 2147483647) → (2147483700 - i2).toNat = n → Tn (d + 3) m_X5_numberNew 46 T σ [(0, .ref a), (1, .int (iI c1)), (2, .int (iI i2))] [] post := by
  intro n
  induction n using Nat.strongRecOn with
  | _ n ih =>
    intro i2 σ hw hF r_i2 hm
    refine tn_iload_n dX5_numberNew_46 rfl 2 rfl ?_
    refine tn_bipush dX5_numberNew_47 (by decide) ?_
    refine tn_icmp_ge (tgt := 122) dX5_numberNew_49 (by decide) ⟨by omega, by omega⟩ ⟨by decide, by decide⟩ (fun h1 => ?_) (fun h1 => ?_)
    · exact tn_sub [0, 1, 2] rfl (hx_122 (i2) σ hw (FrC.rfl.trans (FrC.sub hF (by decide))) (by omega))
    · refine tn_aload_n dX5_numberNew_52 rfl 0 rfl ?_
      obtain ⟨x2, hx3, hk4⟩ : ∃ x : Nat, σ0.2.1 35 a = (x : Int) ∧ (T x).1 = 31 := wf_35 hw0 h_a
      have hk4o : OB T x2 1 := ⟨by omega, by rw [hk4]; rfl, by omega⟩
      refine tn_getR (ci := 5) (i := 2) (n := 35) (x := x2) dX5_numberNew_53 rfl lay_5 (by decide) fl5_47 h_a rfl rfl (rc_F hF (Or.inl (by decide)) (by decide) (hx3)) ?_
      refine tn_iload_n dX5_numberNew_56 rfl 1 rfl ?_
      refine tn_iload_n dX5_numberNew_57 rfl 2 rfl ?_
      refine tn_callV (M := m_X5_numberNew) (pc := 58) (ix := 164) (ci := 1) (M' := m_X1_get) (As := [.int (iI c1), .int (iI i2)]) (rest := []) dX5_numberNew_58 ok_X1_get im_X1_get se_X1_get ml5_164 np_X1_get rfl rfl hk4o rfl (Nat.le_of_ble_eq_true rfl) (Nat.le_of_ble_eq_true rfl) rfl (k_X1_get (d + 1) (T := T) (σ := σ) (a := x2) (k := c1) (c := i2) hk4o (by omega) (by omega) hw (by omega)) (fun r6 T8 σ7 gt9 hp => ?_)
      obtain ⟨v11, rfl, rfl, rfl, f10⟩ := hp
      clear gt9
      show Tn _ _ 61 T σ [(0, .ref a), (1, .int (iI c1)), (2, .int (iI i2))] [.int (iI v11)] _
      refine tn_iconst dX5_numberNew_61 ?_
      refine tn_icmp_ne (tgt := 116) dX5_numberNew_62 (by decide) ⟨by omega, by omega⟩ ⟨by decide, by decide⟩ (fun h12 => ?_) (fun h12 => ?_)
      · refine tn_iinc (q0 := 2) (L' := [(2, .int (iI (i2 + 2))), (0, .ref a), (1, .int (iI c1))]) dX5_numberNew_116 rfl (by decide) rfl ?_
        refine tn_goto (tgt := 46) dX5_numberNew_119 (by decide) ?_
        exact tn_sub [1, 2, 0] rfl (ih _ (by omega) (i2 + 2) σ hw (FrC.rfl.trans (FrC.sub hF (by decide))) (by omega) rfl)
      · refine tn_aload_n dX5_numberNew_65 rfl 0 rfl ?_
        refine tn_getR (ci := 5) (i := 2) (n := 35) (x := x2) dX5_numberNew_66 rfl lay_5 (by decide) fl5_47 h_a rfl rfl (rc_F hF (Or.inl (by decide)) (by decide) (hx3)) ?_
        refine tn_iload_n dX5_numberNew_69 rfl 1 rfl ?_
        refine tn_iload_n dX5_numberNew_70 rfl 2 rfl ?_
        refine tn_iconst dX5_numberNew_71 ?_
        refine tn_iadd dX5_numberNew_72 ?_
        refine tn_callV (M := m_X5_numberNew) (pc := 73) (ix := 164) (ci := 1) (M' := m_X1_get) (As := [.int (iI c1), .int (iI (i2 + 1))]) (rest := []) dX5_numberNew_73 ok_X1_get im_X1_get se_X1_get ml5_164 np_X1_get rfl rfl hk4o rfl (Nat.le_of_ble_eq_true rfl) (Nat.le_of_ble_eq_true rfl) rfl (k_X1_get (d + 1) (T := T) (σ := σ) (a := x2) (k := c1) (c := i2 + 1) hk4o (by omega) (by omega) hw (by omega)) (fun r13 T15 σ14 gt16 hp => ?_)
        obtain ⟨v18, rfl, rfl, rfl, f17⟩ := hp
        clear gt16
        show Tn _ _ 76 T σ [(0, .ref a), (1, .int (iI c1)), (2, .int (iI i2))] [.int (iI v18)] _
        refine tn_sipush dX5_numberNew_76 (by decide) ?_
        refine tn_icmp_lt (tgt := 116) dX5_numberNew_79 (by decide) ⟨by omega, by omega⟩ ⟨by decide, by decide⟩ (fun h19 => ?_) (fun h19 => ?_)
        · refine tn_iinc (q0 := 2) (L' := [(2, .int (iI (i2 + 2))), (0, .ref a), (1, .int (iI c1))]) dX5_numberNew_116 rfl (by decide) rfl ?_
          refine tn_goto (tgt := 46) dX5_numberNew_119 (by decide) ?_
          exact tn_sub [1, 2, 0] rfl (ih _ (by omega) (i2 + 2) σ hw (FrC.rfl.trans (FrC.sub hF (by decide))) (by omega) rfl)
        · refine tn_aload_n dX5_numberNew_82 rfl 0 rfl ?_
          refine tn_getR (ci := 5) (i := 2) (n := 35) (x := x2) dX5_numberNew_83 rfl lay_5 (by decide) fl5_47 h_a rfl rfl (rc_F hF (Or.inl (by decide)) (by decide) (hx3)) ?_
          refine tn_iload_n dX5_numberNew_86 rfl 1 rfl ?_
          refine tn_iload_n dX5_numberNew_87 rfl 2 rfl ?_
          refine tn_iconst dX5_numberNew_88 ?_
          refine tn_iadd dX5_numberNew_89 ?_
          refine tn_aload_n dX5_numberNew_90 rfl 0 rfl ?_
          refine tn_getR (ci := 5) (i := 2) (n := 35) (x := x2) dX5_numberNew_91 rfl lay_5 (by decide) fl5_47 h_a rfl rfl (rc_F hF (Or.inl (by decide)) (by decide) (hx3)) ?_
          refine tn_iload_n dX5_numberNew_94 rfl 1 rfl ?_
          refine tn_iload_n dX5_numberNew_95 rfl 2 rfl ?_
          refine tn_iconst dX5_numberNew_96 ?_
          refine tn_iadd dX5_numberNew_97 ?_
          refine tn_callV (M := m_X5_numberNew) (pc := 98) (ix := 164) (ci := 1) (M' := m_X1_get) (As := [.int (iI c1), .int (iI (i2 + 1))]) (rest := [.int (iI (i2 + 1)), .int (iI c1), .ref x2]) dX5_numberNew_98 ok_X1_get im_X1_get se_X1_get ml5_164 np_X1_get rfl rfl hk4o rfl (Nat.le_of_ble_eq_true rfl) (Nat.le_of_ble_eq_true rfl) rfl (k_X1_get (d + 1) (T := T) (σ := σ) (a := x2) (k := c1) (c := i2 + 1) hk4o (by omega) (by omega) hw (by omega)) (fun r20 T22 σ21 gt23 hp => ?_)
          obtain ⟨v25, rfl, rfl, rfl, f24⟩ := hp
          clear gt23
          show Tn _ _ 101 T σ [(0, .ref a), (1, .int (iI c1)), (2, .int (iI i2))] [.int (iI v25), .int (iI (i2 + 1)), .int (iI c1), .ref x2] _
          refine tn_sipush dX5_numberNew_101 (by decide) ?_
          refine tn_isub dX5_numberNew_104 ?_
          refine tn_any (fun z26 g27 => ?_)
          have g27r : -2147483648 ≤ z26 ∧ z26 ≤ 2147483647 := g27
          refine tn_aload_n dX5_numberNew_105 rfl 0 rfl ?_
          refine tn_getR (ci := 5) (i := 2) (n := 35) (x := x2) dX5_numberNew_106 rfl lay_5 (by decide) fl5_47 h_a rfl rfl (rc_F hF (Or.inl (by decide)) (by decide) (hx3)) ?_
          refine tn_getI (ci := 1) (i := 2) (n := 7) (t := σ0.2.1 7 x2) dX5_numberNew_109 rfl lay_1 (by decide) fl5_152 hk4o rfl rfl (rc_F hF (Or.inl (by decide)) (by decide) (rfl)) ?_
          have g28 : ((0 : Int) ≤ σ0.2.1 7 x2 ∧ σ0.2.1 7 x2 ≤ 12) := wf_7 hw0 hk4o
          refine tn_iadd dX5_numberNew_112 ?_
          refine tn_any (fun z29 g30 => ?_)
          have g30r : -2147483648 ≤ z29 ∧ z29 ≤ 2147483647 := g30
          refine tn_callV (M := m_X5_numberNew) (pc := 113) (ix := 167) (ci := 1) (M' := m_X1_set) (As := [.int (iI c1), .int (iI (i2 + 1)), .int (iI z29)]) (rest := []) dX5_numberNew_113 ok_X1_set im_X1_set se_X1_set ml5_167 np_X1_set rfl rfl hk4o rfl (Nat.le_of_ble_eq_true rfl) (Nat.le_of_ble_eq_true rfl) rfl (k_X1_set (d + 1) (T := T) (σ := σ) (a := x2) (k := c1) (c := i2 + 1) (y := z29) hk4o (by omega) (by omega) (by omega) hw (by omega) (by omega)) (fun r31 T33 σ32 gt34 hp => ?_)
          obtain ⟨rfl, rfl, w36, F37⟩ := hp
          clear gt34
          show Tn _ _ 116 T σ32 [(0, .ref a), (1, .int (iI c1)), (2, .int (iI i2))] [] _
          refine tn_iinc (q0 := 2) (L' := [(2, .int (iI (i2 + 2))), (0, .ref a), (1, .int (iI c1))]) dX5_numberNew_116 rfl (by decide) rfl ?_
          refine tn_goto (tgt := 46) dX5_numberNew_119 (by decide) ?_
          exact tn_sub [1, 2, 0] rfl (ih _ (by omega) (i2 + 2) σ32 w36 ((FrC.rfl.trans (FrC.sub hF (by decide))).trans (FrC.sub F37 (by decide))) (by omega) rfl)
theorem dX5_numberNew_122 : decode cX5_numberNew 122 = .ok (.return_, 1) := by decide +kernel
theorem dX5_numberNew_14 : decode cX5_numberNew 14 = .ok (.aload_n 0, 1) := by decide +kernel
theorem dX5_numberNew_15 : decode cX5_numberNew 15 = .ok (.getfield 47, 3) := by decide +kernel
theorem dX5_numberNew_18 : decode cX5_numberNew 18 = .ok (.iload_n 1, 1) := by decide +kernel
theorem dX5_numberNew_19 : decode cX5_numberNew 19 = .ok (.iconst 1, 1) := by decide +kernel
theorem dX5_numberNew_20 : decode cX5_numberNew 20 = .ok (.aload_n 0, 1) := by decide +kernel
theorem dX5_numberNew_21 : decode cX5_numberNew 21 = .ok (.getfield 47, 3) := by decide +kernel
theorem dX5_numberNew_24 : decode cX5_numberNew 24 = .ok (.iload_n 1, 1) := by decide +kernel
theorem dX5_numberNew_25 : decode cX5_numberNew 25 = .ok (.iconst 1, 1) := by decide +kernel
theorem dX5_numberNew_26 : decode cX5_numberNew 26 = .ok (.invokevirtual 164, 3) := by decide +kernel
theorem dX5_numberNew_29 : decode cX5_numberNew 29 = .ok (.sipush 1000, 3) := by decide +kernel
theorem dX5_numberNew_32 : decode cX5_numberNew 32 = .ok (.isub, 1) := by decide +kernel
theorem dX5_numberNew_33 : decode cX5_numberNew 33 = .ok (.aload_n 0, 1) := by decide +kernel
theorem dX5_numberNew_34 : decode cX5_numberNew 34 = .ok (.getfield 47, 3) := by decide +kernel
theorem dX5_numberNew_37 : decode cX5_numberNew 37 = .ok (.getfield 152, 3) := by decide +kernel
theorem dX5_numberNew_40 : decode cX5_numberNew 40 = .ok (.iadd, 1) := by decide +kernel
theorem dX5_numberNew_41 : decode cX5_numberNew 41 = .ok (.invokevirtual 167, 3) := by decide +kernel
set_option maxRecDepth 20000 in
theorem k_X5_numberNew (d : Nat) {T : CT} {σ : MS} {a : Nat} {k : Int} (ha : OB T a 5) (h_k : -2147483648 ≤ k ∧ k ≤ 2147483647) (hw : WT T σ) : Tn (d + 3) m_X5_numberNew 0 T σ [(0, .ref a), (1, .int (iI k))] [] (fun ro T2 σ2 => ro = none ∧ T = T2 ∧ WT T2 σ2 ∧ FrC T [] σ σ2) := by
  refine tn_aload_n dX5_numberNew_0 rfl 0 rfl ?_
  obtain ⟨x1, hx2, hk3⟩ : ∃ x : Nat, σ.2.1 35 a = (x : Int) ∧ (T x).1 = 31 := wf_35 hw ha
  have hk3o : OB T x1 1 := ⟨by omega, by rw [hk3]; rfl, by omega⟩
  refine tn_getR (ci := 5) (i := 2) (n := 35) (x := x1) dX5_numberNew_1 rfl lay_5 (by decide) fl5_47 ha rfl rfl (hx2) ?_
  refine tn_iload_n dX5_numberNew_4 rfl 1 rfl ?_
  refine tn_callV (M := m_X5_numberNew) (pc := 5) (ix := 161) (ci := 1) (M' := m_X1_writtenBy) (As := [.int (iI k)]) (rest := []) dX5_numberNew_5 ok_X1_writtenBy im_X1_writtenBy se_X1_writtenBy ml5_161 np_X1_writtenBy rfl rfl hk3o rfl (Nat.le_of_ble_eq_true rfl) (Nat.le_of_ble_eq_true rfl) rfl (k_X1_writtenBy (d) (T := T) (σ := σ) (a := x1) (k := k) hk3o (by omega) hw ) (fun r5 T7 σ6 gt8 hp => ?_)
  obtain ⟨v10, rfl, rfl, rfl, f9⟩ := hp
  clear gt8
  show Tn _ _ 8 T σ [(0, .ref a), (1, .int (iI k))] [.int (iI v10)] _
  refine tn_sipush dX5_numberNew_8 (by decide) ?_
  refine tn_icmp_lt (tgt := 44) dX5_numberNew_11 (by decide) ⟨by omega, by omega⟩ ⟨by decide, by decide⟩ (fun h11 => ?_) (fun h11 => ?_)
  · refine tn_iconst dX5_numberNew_44 ?_
    refine tn_istore_n (L' := [(2, .int (iI 3)), (0, .ref a), (1, .int (iI k))]) dX5_numberNew_45 rfl (by decide) rfl ?_
    refine tn_sub [1, 2, 0] rfl (l_X5_numberNew_46 (d) (T := T) (σ0 := σ) (a := a) (c1 := k) ha (by omega) hw (fun i212 σ13 w16 F17 r18 => ?_) _ (3) σ hw FrC.rfl (by omega) rfl)
    show Tn _ _ 122 T σ13 [(0, .ref a), (1, .int (iI k)), (2, .int (iI i212))] [] _
    exact tn_vret rfl dX5_numberNew_122 ⟨rfl, rfl, w16, (FrC.rfl.trans (FrC.sub F17 (by decide)))⟩
  · refine tn_aload_n dX5_numberNew_14 rfl 0 rfl ?_
    refine tn_getR (ci := 5) (i := 2) (n := 35) (x := x1) dX5_numberNew_15 rfl lay_5 (by decide) fl5_47 ha rfl rfl (hx2) ?_
    refine tn_iload_n dX5_numberNew_18 rfl 1 rfl ?_
    refine tn_iconst dX5_numberNew_19 ?_
    refine tn_aload_n dX5_numberNew_20 rfl 0 rfl ?_
    refine tn_getR (ci := 5) (i := 2) (n := 35) (x := x1) dX5_numberNew_21 rfl lay_5 (by decide) fl5_47 ha rfl rfl (hx2) ?_
    refine tn_iload_n dX5_numberNew_24 rfl 1 rfl ?_
    refine tn_iconst dX5_numberNew_25 ?_
    refine tn_callV (M := m_X5_numberNew) (pc := 26) (ix := 164) (ci := 1) (M' := m_X1_get) (As := [.int (iI k), .int (iI 1)]) (rest := [.int (iI 1), .int (iI k), .ref x1]) dX5_numberNew_26 ok_X1_get im_X1_get se_X1_get ml5_164 np_X1_get rfl rfl hk3o rfl (Nat.le_of_ble_eq_true rfl) (Nat.le_of_ble_eq_true rfl) rfl (k_X1_get (d + 1) (T := T) (σ := σ) (a := x1) (k := k) (c := 1) hk3o (by omega) (by decide) hw (by omega)) (fun r19 T21 σ20 gt22 hp => ?_)
    obtain ⟨v24, rfl, rfl, rfl, f23⟩ := hp
    clear gt22
    show Tn _ _ 29 T σ [(0, .ref a), (1, .int (iI k))] [.int (iI v24), .int (iI 1), .int (iI k), .ref x1] _
    refine tn_sipush dX5_numberNew_29 (by decide) ?_
    refine tn_isub dX5_numberNew_32 ?_
    refine tn_any (fun z25 g26 => ?_)
    have g26r : -2147483648 ≤ z25 ∧ z25 ≤ 2147483647 := g26
    refine tn_aload_n dX5_numberNew_33 rfl 0 rfl ?_
    refine tn_getR (ci := 5) (i := 2) (n := 35) (x := x1) dX5_numberNew_34 rfl lay_5 (by decide) fl5_47 ha rfl rfl (hx2) ?_
    refine tn_getI (ci := 1) (i := 2) (n := 7) (t := σ.2.1 7 x1) dX5_numberNew_37 rfl lay_1 (by decide) fl5_152 hk3o rfl rfl (rfl) ?_
    have g27 : ((0 : Int) ≤ σ.2.1 7 x1 ∧ σ.2.1 7 x1 ≤ 12) := wf_7 hw hk3o
    refine tn_iadd dX5_numberNew_40 ?_
    refine tn_any (fun z28 g29 => ?_)
    have g29r : -2147483648 ≤ z28 ∧ z28 ≤ 2147483647 := g29
    refine tn_callV (M := m_X5_numberNew) (pc := 41) (ix := 167) (ci := 1) (M' := m_X1_set) (As := [.int (iI k), .int (iI 1), .int (iI z28)]) (rest := []) dX5_numberNew_41 ok_X1_set im_X1_set se_X1_set ml5_167 np_X1_set rfl rfl hk3o rfl (Nat.le_of_ble_eq_true rfl) (Nat.le_of_ble_eq_true rfl) rfl (k_X1_set (d + 1) (T := T) (σ := σ) (a := x1) (k := k) (c := 1) (y := z28) hk3o (by omega) (by decide) (by omega) hw (by omega) (by omega)) (fun r30 T32 σ31 gt33 hp => ?_)
    obtain ⟨rfl, rfl, w35, F36⟩ := hp
    clear gt33
    show Tn _ _ 44 T σ31 [(0, .ref a), (1, .int (iI k))] [] _
    refine tn_iconst dX5_numberNew_44 ?_
    refine tn_istore_n (L' := [(2, .int (iI 3)), (0, .ref a), (1, .int (iI k))]) dX5_numberNew_45 rfl (by decide) rfl ?_
    refine tn_sub [1, 2, 0] rfl (l_X5_numberNew_46 (d) (T := T) (σ0 := σ31) (a := a) (c1 := k) ha (by omega) w35 (fun i237 σ38 w41 F42 r43 => ?_) _ (3) σ31 w35 FrC.rfl (by omega) rfl)
    show Tn _ _ 122 T σ38 [(0, .ref a), (1, .int (iI k)), (2, .int (iI i237))] [] _
    exact tn_vret rfl dX5_numberNew_122 ⟨rfl, rfl, w41, ((FrC.rfl.trans (FrC.sub F36 (by decide))).trans (FrC.sub F42 (by decide)))⟩
end
section
theorem cd_X5_openRoutine : Cond.code yX5_openRoutine cX5_openRoutine 3 none ∈ pWW := pw3 (List.mem_of_getElem? (i := 72) rfl) rfl
abbrev m_X5_openRoutine : MT := (yX5_openRoutine, cX5_openRoutine, 3, none)
theorem ok_X5_openRoutine : pOk m_X5_openRoutine := ⟨⟨cd_X5_openRoutine, ini_5⟩, by decide +kernel, ⟨by decide +kernel, by decide +kernel⟩, Nat.le_of_ble_eq_true rfl⟩
theorem np_X5_openRoutine : (parseMethodDescriptor yX5_openRoutine.desc).map (fun d => d.parameters.length) = some 1 := by decide +kernel
theorem im_X5_openRoutine : Cond.instanceMethod yX5_openRoutine ∈ pWW := pw3 (List.mem_of_getElem? (i := 71) rfl) rfl
theorem se_X5_openRoutine : Cond.selects RX5 yX5_openRoutine yX5_openRoutine ∈ pWW := pws (List.mem_map.mpr ⟨_, lw_pin 6 rfl, rfl⟩) rfl
theorem ml5_109 : Cond.methodLink RX5 109 yX5_routineOf ∈ pWW := pw3 (List.mem_of_getElem? (i := 73) rfl) rfl
theorem mlm5_123 : Cond.methodLink RX5 123 Lib.Math.max.name ∈ pWW := pw3 (List.mem_of_getElem? (i := 85) rfl) rfl
theorem ml5_126 : Cond.methodLink RX5 126 yX1_empty ∈ pWW := pw3 (List.mem_of_getElem? (i := 86) rfl) rfl
theorem fl5_28 : Cond.fieldLink RX5 28 (TX5 4).1 (TX5 4).2.1 (TX5 4).2.2.1 ∈ pWW := pw1 (List.mem_of_getElem? (i := 157) rfl) rfl
theorem dX5_openRoutine_0 : decode cX5_openRoutine 0 = .ok (.aload_n 0, 1) := by decide +kernel
theorem dX5_openRoutine_1 : decode cX5_openRoutine 1 = .ok (.iload_n 1, 1) := by decide +kernel
theorem dX5_openRoutine_2 : decode cX5_openRoutine 2 = .ok (.invokevirtual 109, 3) := by decide +kernel
theorem dX5_openRoutine_5 : decode cX5_openRoutine 5 = .ok (.iconst (-1), 1) := by decide +kernel
theorem dX5_openRoutine_6 : decode cX5_openRoutine 6 = .ok (.if_icmp .eq 15, 3) := by decide +kernel
theorem dX5_openRoutine_21 : decode cX5_openRoutine 21 = .ok (.aload_n 0, 1) := by decide +kernel
theorem dX5_openRoutine_22 : decode cX5_openRoutine 22 = .ok (.getfield 58, 3) := by decide +kernel
theorem dX5_openRoutine_25 : decode cX5_openRoutine 25 = .ok (.bipush 6, 2) := by decide +kernel
theorem dX5_openRoutine_27 : decode cX5_openRoutine 27 = .ok (.if_icmp .lt 15, 3) := by decide +kernel
theorem dX5_openRoutine_42 : decode cX5_openRoutine 42 = .ok (.iconst 0, 1) := by decide +kernel
theorem dX5_openRoutine_43 : decode cX5_openRoutine 43 = .ok (.aload_n 0, 1) := by decide +kernel
theorem dX5_openRoutine_44 : decode cX5_openRoutine 44 = .ok (.getfield 58, 3) := by decide +kernel
theorem dX5_openRoutine_47 : decode cX5_openRoutine 47 = .ok (.aload_n 0, 1) := by decide +kernel
theorem dX5_openRoutine_48 : decode cX5_openRoutine 48 = .ok (.getfield 20, 3) := by decide +kernel
theorem dX5_openRoutine_51 : decode cX5_openRoutine 51 = .ok (.arraylength, 1) := by decide +kernel
theorem dX5_openRoutine_52 : decode cX5_openRoutine 52 = .ok (.iconst 1, 1) := by decide +kernel
theorem dX5_openRoutine_53 : decode cX5_openRoutine 53 = .ok (.isub, 1) := by decide +kernel
theorem dX5_openRoutine_54 : decode cX5_openRoutine 54 = .ok (.invokestatic 117, 3) := by decide +kernel
theorem dX5_openRoutine_57 : decode cX5_openRoutine 57 = .ok (.invokestatic 123, 3) := by decide +kernel
theorem dX5_openRoutine_60 : decode cX5_openRoutine 60 = .ok (.istore_n 2, 1) := by decide +kernel
theorem dX5_openRoutine_61 : decode cX5_openRoutine 61 = .ok (.aload_n 0, 1) := by decide +kernel
theorem dX5_openRoutine_62 : decode cX5_openRoutine 62 = .ok (.aload_n 0, 1) := by decide +kernel
theorem dX5_openRoutine_63 : decode cX5_openRoutine 63 = .ok (.getfield 20, 3) := by decide +kernel
theorem dX5_openRoutine_66 : decode cX5_openRoutine 66 = .ok (.iload_n 2, 1) := by decide +kernel
theorem dX5_openRoutine_67 : decode cX5_openRoutine 67 = .ok (.aaload, 1) := by decide +kernel
theorem dX5_openRoutine_68 : decode cX5_openRoutine 68 = .ok (.putfield 47, 3) := by decide +kernel
theorem dX5_openRoutine_71 : decode cX5_openRoutine 71 = .ok (.aload_n 0, 1) := by decide +kernel
theorem dX5_openRoutine_72 : decode cX5_openRoutine 72 = .ok (.getfield 47, 3) := by decide +kernel
theorem dX5_openRoutine_75 : decode cX5_openRoutine 75 = .ok (.iload_n 2, 1) := by decide +kernel
theorem dX5_openRoutine_76 : decode cX5_openRoutine 76 = .ok (.invokevirtual 126, 3) := by decide +kernel
theorem dX5_openRoutine_79 : decode cX5_openRoutine 79 = .ok (.aload_n 0, 1) := by decide +kernel
theorem dX5_openRoutine_80 : decode cX5_openRoutine 80 = .ok (.getfield 24, 3) := by decide +kernel
theorem dX5_openRoutine_83 : decode cX5_openRoutine 83 = .ok (.aload_n 0, 1) := by decide +kernel
theorem dX5_openRoutine_84 : decode cX5_openRoutine 84 = .ok (.getfield 58, 3) := by decide +kernel
theorem dX5_openRoutine_87 : decode cX5_openRoutine 87 = .ok (.iload_n 1, 1) := by decide +kernel
theorem dX5_openRoutine_88 : decode cX5_openRoutine 88 = .ok (.invokestatic 129, 3) := by decide +kernel
theorem dX5_openRoutine_91 : decode cX5_openRoutine 91 = .ok (.aload_n 0, 1) := by decide +kernel
theorem dX5_openRoutine_92 : decode cX5_openRoutine 92 = .ok (.getfield 28, 3) := by decide +kernel
theorem dX5_openRoutine_95 : decode cX5_openRoutine 95 = .ok (.aload_n 0, 1) := by decide +kernel
theorem dX5_openRoutine_96 : decode cX5_openRoutine 96 = .ok (.getfield 58, 3) := by decide +kernel
theorem dX5_openRoutine_99 : decode cX5_openRoutine 99 = .ok (.iconst 0, 1) := by decide +kernel
theorem dX5_openRoutine_100 : decode cX5_openRoutine 100 = .ok (.invokestatic 129, 3) := by decide +kernel
theorem dX5_openRoutine_103 : decode cX5_openRoutine 103 = .ok (.aload_n 0, 1) := by decide +kernel
theorem dX5_openRoutine_104 : decode cX5_openRoutine 104 = .ok (.aload_n 0, 1) := by decide +kernel
theorem dX5_openRoutine_105 : decode cX5_openRoutine 105 = .ok (.getfield 58, 3) := by decide +kernel
theorem dX5_openRoutine_108 : decode cX5_openRoutine 108 = .ok (.iconst 1, 1) := by decide +kernel
theorem dX5_openRoutine_109 : decode cX5_openRoutine 109 = .ok (.iadd, 1) := by decide +kernel
theorem dX5_openRoutine_110 : decode cX5_openRoutine 110 = .ok (.sipush 256, 3) := by decide +kernel
theorem dX5_openRoutine_113 : decode cX5_openRoutine 113 = .ok (.invokestatic 117, 3) := by decide +kernel
theorem dX5_openRoutine_116 : decode cX5_openRoutine 116 = .ok (.putfield 58, 3) := by decide +kernel
theorem dX5_openRoutine_119 : decode cX5_openRoutine 119 = .ok (.aload_n 0, 1) := by decide +kernel
theorem dX5_openRoutine_120 : decode cX5_openRoutine 120 = .ok (.iconst 0, 1) := by decide +kernel
theorem dX5_openRoutine_121 : decode cX5_openRoutine 121 = .ok (.putfield 133, 3) := by decide +kernel
theorem dX5_openRoutine_124 : decode cX5_openRoutine 124 = .ok (.aload_n 0, 1) := by decide +kernel
theorem dX5_openRoutine_125 : decode cX5_openRoutine 125 = .ok (.iconst 0, 1) := by decide +kernel
theorem dX5_openRoutine_126 : decode cX5_openRoutine 126 = .ok (.putfield 136, 3) := by decide +kernel
theorem dX5_openRoutine_129 : decode cX5_openRoutine 129 = .ok (.return_, 1) := by decide +kernel
theorem dX5_openRoutine_30 : decode cX5_openRoutine 30 = .ok (.aload_n 0, 1) := by decide +kernel
theorem dX5_openRoutine_31 : decode cX5_openRoutine 31 = .ok (.iconst 5, 1) := by decide +kernel
theorem dX5_openRoutine_32 : decode cX5_openRoutine 32 = .ok (.aload_n 0, 1) := by decide +kernel
theorem dX5_openRoutine_33 : decode cX5_openRoutine 33 = .ok (.getfield 12, 3) := by decide +kernel
theorem dX5_openRoutine_36 : decode cX5_openRoutine 36 = .ok (.getfield 74, 3) := by decide +kernel
theorem dX5_openRoutine_39 : decode cX5_openRoutine 39 = .ok (.invokevirtual 113, 3) := by decide +kernel
theorem dX5_openRoutine_9 : decode cX5_openRoutine 9 = .ok (.aload_n 0, 1) := by decide +kernel
theorem dX5_openRoutine_10 : decode cX5_openRoutine 10 = .ok (.iconst 2, 1) := by decide +kernel
theorem dX5_openRoutine_11 : decode cX5_openRoutine 11 = .ok (.aload_n 0, 1) := by decide +kernel
theorem dX5_openRoutine_12 : decode cX5_openRoutine 12 = .ok (.getfield 12, 3) := by decide +kernel
theorem dX5_openRoutine_15 : decode cX5_openRoutine 15 = .ok (.getfield 74, 3) := by decide +kernel
theorem dX5_openRoutine_18 : decode cX5_openRoutine 18 = .ok (.invokevirtual 113, 3) := by decide +kernel
end
section
theorem cd_X5_parameter : Cond.code yX5_parameter cX5_parameter 2 none ∈ pWW := pw3 (List.mem_of_getElem? (i := 104) rfl) rfl
abbrev m_X5_parameter : MT := (yX5_parameter, cX5_parameter, 2, none)
theorem ok_X5_parameter : pOk m_X5_parameter := ⟨⟨cd_X5_parameter, ini_5⟩, by decide +kernel, ⟨by decide +kernel, by decide +kernel⟩, Nat.le_of_ble_eq_true rfl⟩
theorem np_X5_parameter : (parseMethodDescriptor yX5_parameter.desc).map (fun d => d.parameters.length) = some 1 := by decide +kernel
theorem im_X5_parameter : Cond.instanceMethod yX5_parameter ∈ pWW := pw3 (List.mem_of_getElem? (i := 103) rfl) rfl
theorem se_X5_parameter : Cond.selects RX5 yX5_parameter yX5_parameter ∈ pWW := pws (List.mem_map.mpr ⟨_, lw_pin 11 rfl, rfl⟩) rfl
theorem fl5_180 : Cond.fieldLink RX5 180 (TX1 3).1 (TX1 3).2.1 (TX1 3).2.2.1 ∈ pWW := pw1 (List.mem_of_getElem? (i := 98) rfl) rfl
theorem dX5_parameter_0 : decode cX5_parameter 0 = .ok (.aload_n 0, 1) := by decide +kernel
theorem dX5_parameter_1 : decode cX5_parameter 1 = .ok (.aload_n 0, 1) := by decide +kernel
theorem dX5_parameter_2 : decode cX5_parameter 2 = .ok (.getfield 12, 3) := by decide +kernel
theorem dX5_parameter_5 : decode cX5_parameter 5 = .ok (.getfield 96, 3) := by decide +kernel
theorem dX5_parameter_8 : decode cX5_parameter 8 = .ok (.invokevirtual 173, 3) := by decide +kernel
theorem dX5_parameter_11 : decode cX5_parameter 11 = .ok (.iconst (-1), 1) := by decide +kernel
theorem dX5_parameter_12 : decode cX5_parameter 12 = .ok (.if_icmp .eq 15, 3) := by decide +kernel
theorem dX5_parameter_27 : decode cX5_parameter 27 = .ok (.iload_n 1, 1) := by decide +kernel
theorem dX5_parameter_28 : decode cX5_parameter 28 = .ok (.iconst 4, 1) := by decide +kernel
theorem dX5_parameter_29 : decode cX5_parameter 29 = .ok (.if_icmp .le 15, 3) := by decide +kernel
theorem dX5_parameter_44 : decode cX5_parameter 44 = .ok (.aload_n 0, 1) := by decide +kernel
theorem dX5_parameter_45 : decode cX5_parameter 45 = .ok (.invokevirtual 176, 3) := by decide +kernel
theorem dX5_parameter_48 : decode cX5_parameter 48 = .ok (.pop, 1) := by decide +kernel
theorem dX5_parameter_49 : decode cX5_parameter 49 = .ok (.aload_n 0, 1) := by decide +kernel
theorem dX5_parameter_50 : decode cX5_parameter 50 = .ok (.getfield 28, 3) := by decide +kernel
theorem dX5_parameter_53 : decode cX5_parameter 53 = .ok (.aload_n 0, 1) := by decide +kernel
theorem dX5_parameter_54 : decode cX5_parameter 54 = .ok (.getfield 58, 3) := by decide +kernel
theorem dX5_parameter_57 : decode cX5_parameter 57 = .ok (.iconst 1, 1) := by decide +kernel
theorem dX5_parameter_58 : decode cX5_parameter 58 = .ok (.isub, 1) := by decide +kernel
theorem dX5_parameter_59 : decode cX5_parameter 59 = .ok (.iload_n 1, 1) := by decide +kernel
theorem dX5_parameter_60 : decode cX5_parameter 60 = .ok (.invokestatic 129, 3) := by decide +kernel
theorem dX5_parameter_63 : decode cX5_parameter 63 = .ok (.aload_n 0, 1) := by decide +kernel
theorem dX5_parameter_64 : decode cX5_parameter 64 = .ok (.getfield 47, 3) := by decide +kernel
theorem dX5_parameter_67 : decode cX5_parameter 67 = .ok (.iload_n 1, 1) := by decide +kernel
theorem dX5_parameter_68 : decode cX5_parameter 68 = .ok (.iconst 4, 1) := by decide +kernel
theorem dX5_parameter_69 : decode cX5_parameter 69 = .ok (.invokestatic 117, 3) := by decide +kernel
theorem dX5_parameter_72 : decode cX5_parameter 72 = .ok (.putfield 180, 3) := by decide +kernel
theorem dX5_parameter_75 : decode cX5_parameter 75 = .ok (.return_, 1) := by decide +kernel
theorem dX5_parameter_32 : decode cX5_parameter 32 = .ok (.aload_n 0, 1) := by decide +kernel
theorem dX5_parameter_33 : decode cX5_parameter 33 = .ok (.iconst 5, 1) := by decide +kernel
theorem dX5_parameter_34 : decode cX5_parameter 34 = .ok (.aload_n 0, 1) := by decide +kernel
theorem dX5_parameter_35 : decode cX5_parameter 35 = .ok (.getfield 12, 3) := by decide +kernel
theorem dX5_parameter_38 : decode cX5_parameter 38 = .ok (.getfield 74, 3) := by decide +kernel
theorem dX5_parameter_41 : decode cX5_parameter 41 = .ok (.invokevirtual 113, 3) := by decide +kernel
theorem dX5_parameter_15 : decode cX5_parameter 15 = .ok (.aload_n 0, 1) := by decide +kernel
theorem dX5_parameter_16 : decode cX5_parameter 16 = .ok (.iconst 2, 1) := by decide +kernel
theorem dX5_parameter_17 : decode cX5_parameter 17 = .ok (.aload_n 0, 1) := by decide +kernel
theorem dX5_parameter_18 : decode cX5_parameter 18 = .ok (.getfield 12, 3) := by decide +kernel
theorem dX5_parameter_21 : decode cX5_parameter 21 = .ok (.getfield 74, 3) := by decide +kernel
theorem dX5_parameter_24 : decode cX5_parameter 24 = .ok (.invokevirtual 113, 3) := by decide +kernel
end
section
theorem cd_X5_parameters : Cond.code yX5_parameters cX5_parameters 2 (some .boolean) ∈ pWW := pw3 (List.mem_of_getElem? (i := 100) rfl) rfl
abbrev m_X5_parameters : MT := (yX5_parameters, cX5_parameters, 2, (some .boolean))
theorem ok_X5_parameters : pOk m_X5_parameters := ⟨⟨cd_X5_parameters, ini_5⟩, by decide +kernel, ⟨by decide +kernel, by decide +kernel⟩, Nat.le_of_ble_eq_true rfl⟩
theorem np_X5_parameters : (parseMethodDescriptor yX5_parameters.desc).map (fun d => d.parameters.length) = some 0 := by decide +kernel
theorem im_X5_parameters : Cond.instanceMethod yX5_parameters ∈ pWW := pw3 (List.mem_of_getElem? (i := 99) rfl) rfl
theorem se_X5_parameters : Cond.selects RX5 yX5_parameters yX5_parameters ∈ pWW := pws (List.mem_map.mpr ⟨_, lw_pin 10 rfl, rfl⟩) rfl
theorem ml5_170 : Cond.methodLink RX5 170 yX5_parameter ∈ pWW := pw3 (List.mem_of_getElem? (i := 101) rfl) rfl
theorem dX5_parameters_0 : decode cX5_parameters 0 = .ok (.aload_n 0, 1) := by decide +kernel
theorem dX5_parameters_1 : decode cX5_parameters 1 = .ok (.getfield 12, 3) := by decide +kernel
theorem dX5_parameters_4 : decode cX5_parameters 4 = .ok (.getfield 71, 3) := by decide +kernel
theorem dX5_parameters_7 : decode cX5_parameters 7 = .ok (.bipush 41, 2) := by decide +kernel
theorem dX5_parameters_9 : decode cX5_parameters 9 = .ok (.if_icmp .ne 5, 3) := by decide +kernel
theorem dX5_parameters_14 : decode cX5_parameters 14 = .ok (.iconst 0, 1) := by decide +kernel
theorem dX5_parameters_15 : decode cX5_parameters 15 = .ok (.istore_n 1, 1) := by decide +kernel
theorem dX5_parameters_16 : decode cX5_parameters 16 = .ok (.iload_n 1, 1) := by decide +kernel
theorem dX5_parameters_17 : decode cX5_parameters 17 = .ok (.sipush 1200, 3) := by decide +kernel
theorem dX5_parameters_20 : decode cX5_parameters 20 = .ok (.if_icmp .ge 62, 3) := by decide +kernel
theorem dX5_parameters_23 : decode cX5_parameters 23 = .ok (.aload_n 0, 1) := by decide +kernel
theorem dX5_parameters_24 : decode cX5_parameters 24 = .ok (.getfield 12, 3) := by decide +kernel
theorem dX5_parameters_27 : decode cX5_parameters 27 = .ok (.getfield 71, 3) := by decide +kernel
theorem dX5_parameters_30 : decode cX5_parameters 30 = .ok (.sipush 256, 3) := by decide +kernel
theorem dX5_parameters_33 : decode cX5_parameters 33 = .ok (.if_icmp .eq 8, 3) := by decide +kernel
theorem dX5_parameters_41 : decode cX5_parameters 41 = .ok (.aload_n 0, 1) := by decide +kernel
theorem dX5_parameters_42 : decode cX5_parameters 42 = .ok (.iload_n 1, 1) := by decide +kernel
theorem dX5_parameters_43 : decode cX5_parameters 43 = .ok (.iconst 1, 1) := by decide +kernel
theorem dX5_parameters_44 : decode cX5_parameters 44 = .ok (.iadd, 1) := by decide +kernel
theorem dX5_parameters_45 : decode cX5_parameters 45 = .ok (.invokevirtual 170, 3) := by decide +kernel
theorem dX5_parameters_48 : decode cX5_parameters 48 = .ok (.aload_n 0, 1) := by decide +kernel
theorem dX5_parameters_49 : decode cX5_parameters 49 = .ok (.getfield 12, 3) := by decide +kernel
theorem dX5_parameters_52 : decode cX5_parameters 52 = .ok (.invokevirtual 93, 3) := by decide +kernel
theorem dX5_parameters_55 : decode cX5_parameters 55 = .ok (.aload_n 0, 1) := by decide +kernel
theorem dX5_parameters_56 : decode cX5_parameters 56 = .ok (.getfield 12, 3) := by decide +kernel
theorem dX5_parameters_59 : decode cX5_parameters 59 = .ok (.getfield 71, 3) := by decide +kernel
theorem dX5_parameters_62 : decode cX5_parameters 62 = .ok (.bipush 44, 2) := by decide +kernel
theorem dX5_parameters_64 : decode cX5_parameters 64 = .ok (.if_icmp .eq 5, 3) := by decide +kernel
theorem dX5_parameters_69 : decode cX5_parameters 69 = .ok (.aload_n 0, 1) := by decide +kernel
theorem dX5_parameters_70 : decode cX5_parameters 70 = .ok (.getfield 12, 3) := by decide +kernel
theorem dX5_parameters_73 : decode cX5_parameters 73 = .ok (.invokevirtual 93, 3) := by decide +kernel
theorem dX5_parameters_76 : decode cX5_parameters 76 = .ok (.iinc 1 1, 3) := by decide +kernel
theorem dX5_parameters_79 : decode cX5_parameters 79 = .ok (.goto (-63), 3) := by decide +kernel
theorem dX5_parameters_36 : decode cX5_parameters 36 = .ok (.aload_n 0, 1) := by decide +kernel
theorem dX5_parameters_37 : decode cX5_parameters 37 = .ok (.invokevirtual 90, 3) := by decide +kernel
theorem dX5_parameters_40 : decode cX5_parameters 40 = .ok (.ireturn, 1) := by decide +kernel
theorem dX5_parameters_67 : decode cX5_parameters 67 = .ok (.iconst 1, 1) := by decide +kernel
theorem dX5_parameters_68 : decode cX5_parameters 68 = .ok (.ireturn, 1) := by decide +kernel
theorem dX5_parameters_12 : decode cX5_parameters 12 = .ok (.iconst 1, 1) := by decide +kernel
theorem dX5_parameters_13 : decode cX5_parameters 13 = .ok (.ireturn, 1) := by decide +kernel
end
section
theorem cd_X5_header : Cond.code yX5_header cX5_header 1 (some .boolean) ∈ pWW := pw3 (List.mem_of_getElem? (i := 64) rfl) rfl
abbrev m_X5_header : MT := (yX5_header, cX5_header, 1, (some .boolean))
theorem ok_X5_header : pOk m_X5_header := ⟨⟨cd_X5_header, ini_5⟩, by decide +kernel, ⟨by decide +kernel, by decide +kernel⟩, Nat.le_of_ble_eq_true rfl⟩
theorem np_X5_header : (parseMethodDescriptor yX5_header.desc).map (fun d => d.parameters.length) = some 0 := by decide +kernel
theorem im_X5_header : Cond.instanceMethod yX5_header ∈ pWW := pw3 (List.mem_of_getElem? (i := 63) rfl) rfl
theorem se_X5_header : Cond.selects RX5 yX5_header yX5_header ∈ pWW := pws (List.mem_map.mpr ⟨_, lw_pin 4 rfl, rfl⟩) rfl
theorem ml5_99 : Cond.methodLink RX5 99 yX5_openRoutine ∈ pWW := pw3 (List.mem_of_getElem? (i := 69) rfl) rfl
theorem ml5_106 : Cond.methodLink RX5 106 yX5_parameters ∈ pWW := pw3 (List.mem_of_getElem? (i := 97) rfl) rfl
theorem dX5_header_0 : decode cX5_header 0 = .ok (.aload_n 0, 1) := by decide +kernel
theorem dX5_header_1 : decode cX5_header 1 = .ok (.getfield 12, 3) := by decide +kernel
theorem dX5_header_4 : decode cX5_header 4 = .ok (.getfield 71, 3) := by decide +kernel
theorem dX5_header_7 : decode cX5_header 7 = .ok (.sipush 256, 3) := by decide +kernel
theorem dX5_header_10 : decode cX5_header 10 = .ok (.if_icmp .eq 8, 3) := by decide +kernel
theorem dX5_header_18 : decode cX5_header 18 = .ok (.aload_n 0, 1) := by decide +kernel
theorem dX5_header_19 : decode cX5_header 19 = .ok (.aload_n 0, 1) := by decide +kernel
theorem dX5_header_20 : decode cX5_header 20 = .ok (.getfield 12, 3) := by decide +kernel
theorem dX5_header_23 : decode cX5_header 23 = .ok (.getfield 96, 3) := by decide +kernel
theorem dX5_header_26 : decode cX5_header 26 = .ok (.invokevirtual 99, 3) := by decide +kernel
theorem dX5_header_29 : decode cX5_header 29 = .ok (.aload_n 0, 1) := by decide +kernel
theorem dX5_header_30 : decode cX5_header 30 = .ok (.getfield 12, 3) := by decide +kernel
theorem dX5_header_33 : decode cX5_header 33 = .ok (.invokevirtual 93, 3) := by decide +kernel
theorem dX5_header_36 : decode cX5_header 36 = .ok (.aload_n 0, 1) := by decide +kernel
theorem dX5_header_37 : decode cX5_header 37 = .ok (.bipush 40, 2) := by decide +kernel
theorem dX5_header_39 : decode cX5_header 39 = .ok (.invokevirtual 102, 3) := by decide +kernel
theorem dX5_header_42 : decode cX5_header 42 = .ok (.ifCond .eq 23, 3) := by decide +kernel
theorem dX5_header_65 : decode cX5_header 65 = .ok (.iconst 0, 1) := by decide +kernel
theorem dX5_header_66 : decode cX5_header 66 = .ok (.ireturn, 1) := by decide +kernel
theorem dX5_header_45 : decode cX5_header 45 = .ok (.aload_n 0, 1) := by decide +kernel
theorem dX5_header_46 : decode cX5_header 46 = .ok (.invokevirtual 106, 3) := by decide +kernel
theorem dX5_header_49 : decode cX5_header 49 = .ok (.ifCond .eq 16, 3) := by decide +kernel
theorem dX5_header_52 : decode cX5_header 52 = .ok (.aload_n 0, 1) := by decide +kernel
theorem dX5_header_53 : decode cX5_header 53 = .ok (.bipush 41, 2) := by decide +kernel
theorem dX5_header_55 : decode cX5_header 55 = .ok (.invokevirtual 102, 3) := by decide +kernel
theorem dX5_header_58 : decode cX5_header 58 = .ok (.ifCond .eq 7, 3) := by decide +kernel
theorem dX5_header_61 : decode cX5_header 61 = .ok (.iconst 1, 1) := by decide +kernel
theorem dX5_header_62 : decode cX5_header 62 = .ok (.goto 4, 3) := by decide +kernel
theorem dX5_header_13 : decode cX5_header 13 = .ok (.aload_n 0, 1) := by decide +kernel
theorem dX5_header_14 : decode cX5_header 14 = .ok (.invokevirtual 90, 3) := by decide +kernel
theorem dX5_header_17 : decode cX5_header 17 = .ok (.ireturn, 1) := by decide +kernel
end
section
theorem cd_X5_closeRoutine : Cond.code yX5_closeRoutine cX5_closeRoutine 3 none ∈ pWW := pw3 (List.mem_of_getElem? (i := 229) rfl) rfl
abbrev m_X5_closeRoutine : MT := (yX5_closeRoutine, cX5_closeRoutine, 3, none)
theorem ok_X5_closeRoutine : pOk m_X5_closeRoutine := ⟨⟨cd_X5_closeRoutine, ini_5⟩, by decide +kernel, ⟨by decide +kernel, by decide +kernel⟩, Nat.le_of_ble_eq_true rfl⟩
theorem np_X5_closeRoutine : (parseMethodDescriptor yX5_closeRoutine.desc).map (fun d => d.parameters.length) = some 1 := by decide +kernel
theorem im_X5_closeRoutine : Cond.instanceMethod yX5_closeRoutine ∈ pWW := pw3 (List.mem_of_getElem? (i := 228) rfl) rfl
theorem se_X5_closeRoutine : Cond.selects RX5 yX5_closeRoutine yX5_closeRoutine ∈ pWW := pws (List.mem_map.mpr ⟨_, lw_pin 31 rfl, rfl⟩) rfl
theorem fl5_149 : Cond.fieldLink RX5 149 (TX1 9).1 (TX1 9).2.1 (TX1 9).2.2.1 ∈ pWW := pw1 (List.mem_of_getElem? (i := 120) rfl) rfl
theorem fl5_155 : Cond.fieldLink RX5 155 (TX1 10).1 (TX1 10).2.1 (TX1 10).2.2.1 ∈ pWW := pw1 (List.mem_of_getElem? (i := 125) rfl) rfl
theorem dX5_closeRoutine_0 : decode cX5_closeRoutine 0 = .ok (.aload_n 0, 1) := by decide +kernel
theorem dX5_closeRoutine_1 : decode cX5_closeRoutine 1 = .ok (.getfield 47, 3) := by decide +kernel
theorem dX5_closeRoutine_4 : decode cX5_closeRoutine 4 = .ok (.bipush 7, 2) := by decide +kernel
theorem dX5_closeRoutine_6 : decode cX5_closeRoutine 6 = .ok (.iconst 0, 1) := by decide +kernel
theorem dX5_closeRoutine_7 : decode cX5_closeRoutine 7 = .ok (.iconst 0, 1) := by decide +kernel
theorem dX5_closeRoutine_8 : decode cX5_closeRoutine 8 = .ok (.invokevirtual 139, 3) := by decide +kernel
theorem dX5_closeRoutine_11 : decode cX5_closeRoutine 11 = .ok (.aload_n 0, 1) := by decide +kernel
theorem dX5_closeRoutine_12 : decode cX5_closeRoutine 12 = .ok (.getfield 47, 3) := by decide +kernel
theorem dX5_closeRoutine_15 : decode cX5_closeRoutine 15 = .ok (.iconst 0, 1) := by decide +kernel
theorem dX5_closeRoutine_16 : decode cX5_closeRoutine 16 = .ok (.iconst 1, 1) := by decide +kernel
theorem dX5_closeRoutine_17 : decode cX5_closeRoutine 17 = .ok (.iconst 0, 1) := by decide +kernel
theorem dX5_closeRoutine_18 : decode cX5_closeRoutine 18 = .ok (.invokevirtual 143, 3) := by decide +kernel
theorem dX5_closeRoutine_21 : decode cX5_closeRoutine 21 = .ok (.aload_n 0, 1) := by decide +kernel
theorem dX5_closeRoutine_22 : decode cX5_closeRoutine 22 = .ok (.getfield 47, 3) := by decide +kernel
theorem dX5_closeRoutine_25 : decode cX5_closeRoutine 25 = .ok (.getfield 146, 3) := by decide +kernel
theorem dX5_closeRoutine_28 : decode cX5_closeRoutine 28 = .ok (.bipush 120, 2) := by decide +kernel
theorem dX5_closeRoutine_30 : decode cX5_closeRoutine 30 = .ok (.if_icmp .le 9, 3) := by decide +kernel
theorem dX5_closeRoutine_39 : decode cX5_closeRoutine 39 = .ok (.aload_n 0, 1) := by decide +kernel
theorem dX5_closeRoutine_40 : decode cX5_closeRoutine 40 = .ok (.getfield 47, 3) := by decide +kernel
theorem dX5_closeRoutine_43 : decode cX5_closeRoutine 43 = .ok (.getfield 149, 3) := by decide +kernel
theorem dX5_closeRoutine_46 : decode cX5_closeRoutine 46 = .ok (.iconst 0, 1) := by decide +kernel
theorem dX5_closeRoutine_47 : decode cX5_closeRoutine 47 = .ok (.aload_n 0, 1) := by decide +kernel
theorem dX5_closeRoutine_48 : decode cX5_closeRoutine 48 = .ok (.getfield 47, 3) := by decide +kernel
theorem dX5_closeRoutine_51 : decode cX5_closeRoutine 51 = .ok (.getfield 152, 3) := by decide +kernel
theorem dX5_closeRoutine_54 : decode cX5_closeRoutine 54 = .ok (.invokestatic 129, 3) := by decide +kernel
theorem dX5_closeRoutine_57 : decode cX5_closeRoutine 57 = .ok (.iconst 0, 1) := by decide +kernel
theorem dX5_closeRoutine_58 : decode cX5_closeRoutine 58 = .ok (.istore_n 2, 1) := by decide +kernel
theorem dX5_closeRoutine_59 : decode cX5_closeRoutine 59 = .ok (.iload_n 2, 1) := by decide +kernel
theorem dX5_closeRoutine_60 : decode cX5_closeRoutine 60 = .ok (.aload_n 0, 1) := by decide +kernel
theorem dX5_closeRoutine_61 : decode cX5_closeRoutine 61 = .ok (.getfield 47, 3) := by decide +kernel
theorem dX5_closeRoutine_64 : decode cX5_closeRoutine 64 = .ok (.getfield 152, 3) := by decide +kernel
theorem dX5_closeRoutine_67 : decode cX5_closeRoutine 67 = .ok (.if_icmp .ge 21, 3) := by decide +kernel
theorem dX5_closeRoutine_70 : decode cX5_closeRoutine 70 = .ok (.aload_n 0, 1) := by decide +kernel
theorem dX5_closeRoutine_71 : decode cX5_closeRoutine 71 = .ok (.getfield 47, 3) := by decide +kernel
theorem dX5_closeRoutine_74 : decode cX5_closeRoutine 74 = .ok (.getfield 155, 3) := by decide +kernel
theorem dX5_closeRoutine_77 : decode cX5_closeRoutine 77 = .ok (.iload_n 2, 1) := by decide +kernel
theorem dX5_closeRoutine_78 : decode cX5_closeRoutine 78 = .ok (.iload_n 2, 1) := by decide +kernel
theorem dX5_closeRoutine_79 : decode cX5_closeRoutine 79 = .ok (.invokestatic 129, 3) := by decide +kernel
theorem dX5_closeRoutine_82 : decode cX5_closeRoutine 82 = .ok (.iinc 2 1, 3) := by decide +kernel
theorem dX5_closeRoutine_85 : decode cX5_closeRoutine 85 = .ok (.goto (-26), 3) := by decide +kernel
theorem ml5_158 : Cond.methodLink RX5 158 yX5_numberNew ∈ pWW := pw3 (List.mem_of_getElem? (i := 230) rfl) rfl
theorem dX5_closeRoutine_88 : decode cX5_closeRoutine 88 = .ok (.iconst 0, 1) := by decide +kernel
theorem dX5_closeRoutine_89 : decode cX5_closeRoutine 89 = .ok (.istore_n 2, 1) := by decide +kernel
theorem dX5_closeRoutine_90 : decode cX5_closeRoutine 90 = .ok (.iload_n 2, 1) := by decide +kernel
theorem dX5_closeRoutine_91 : decode cX5_closeRoutine 91 = .ok (.aload_n 0, 1) := by decide +kernel
theorem dX5_closeRoutine_92 : decode cX5_closeRoutine 92 = .ok (.getfield 47, 3) := by decide +kernel
theorem dX5_closeRoutine_95 : decode cX5_closeRoutine 95 = .ok (.getfield 146, 3) := by decide +kernel
theorem dX5_closeRoutine_98 : decode cX5_closeRoutine 98 = .ok (.if_icmp .ge 20, 3) := by decide +kernel
theorem dX5_closeRoutine_101 : decode cX5_closeRoutine 101 = .ok (.iload_n 2, 1) := by decide +kernel
theorem dX5_closeRoutine_102 : decode cX5_closeRoutine 102 = .ok (.bipush 120, 2) := by decide +kernel
theorem dX5_closeRoutine_104 : decode cX5_closeRoutine 104 = .ok (.if_icmp .ge 14, 3) := by decide +kernel
theorem dX5_closeRoutine_107 : decode cX5_closeRoutine 107 = .ok (.aload_n 0, 1) := by decide +kernel
theorem dX5_closeRoutine_108 : decode cX5_closeRoutine 108 = .ok (.iload_n 2, 1) := by decide +kernel
theorem dX5_closeRoutine_109 : decode cX5_closeRoutine 109 = .ok (.invokevirtual 158, 3) := by decide +kernel
theorem dX5_closeRoutine_112 : decode cX5_closeRoutine 112 = .ok (.iinc 2 1, 3) := by decide +kernel
theorem dX5_closeRoutine_115 : decode cX5_closeRoutine 115 = .ok (.goto (-25), 3) := by decide +kernel
theorem dX5_closeRoutine_118 : decode cX5_closeRoutine 118 = .ok (.return_, 1) := by decide +kernel
theorem dX5_closeRoutine_33 : decode cX5_closeRoutine 33 = .ok (.aload_n 0, 1) := by decide +kernel
theorem dX5_closeRoutine_34 : decode cX5_closeRoutine 34 = .ok (.iconst 5, 1) := by decide +kernel
theorem dX5_closeRoutine_35 : decode cX5_closeRoutine 35 = .ok (.iload_n 1, 1) := by decide +kernel
theorem dX5_closeRoutine_36 : decode cX5_closeRoutine 36 = .ok (.invokevirtual 113, 3) := by decide +kernel
end
section
theorem cd_X5_settleCalls : Cond.code yX5_settleCalls cX5_settleCalls 4 (some .boolean) ∈ pWW := pw4 (List.mem_of_getElem? (i := 14) rfl) rfl
abbrev m_X5_settleCalls : MT := (yX5_settleCalls, cX5_settleCalls, 4, (some .boolean))
theorem ok_X5_settleCalls : pOk m_X5_settleCalls := ⟨⟨cd_X5_settleCalls, ini_5⟩, by decide +kernel, ⟨by decide +kernel, by decide +kernel⟩, Nat.le_of_ble_eq_true rfl⟩
theorem np_X5_settleCalls : (parseMethodDescriptor yX5_settleCalls.desc).map (fun d => d.parameters.length) = some 0 := by decide +kernel
theorem im_X5_settleCalls : Cond.instanceMethod yX5_settleCalls ∈ pWW := pw4 (List.mem_of_getElem? (i := 13) rfl) rfl
theorem se_X5_settleCalls : Cond.selects RX5 yX5_settleCalls yX5_settleCalls ∈ pWW := pws (List.mem_map.mpr ⟨_, lw_pin 33 rfl, rfl⟩) rfl
theorem dX5_settleCalls_0 : decode cX5_settleCalls 0 = .ok (.iconst 0, 1) := by decide +kernel
theorem dX5_settleCalls_1 : decode cX5_settleCalls 1 = .ok (.istore_n 1, 1) := by decide +kernel
theorem dX5_settleCalls_2 : decode cX5_settleCalls 2 = .ok (.iload_n 1, 1) := by decide +kernel
theorem dX5_settleCalls_3 : decode cX5_settleCalls 3 = .ok (.aload_n 0, 1) := by decide +kernel
theorem dX5_settleCalls_4 : decode cX5_settleCalls 4 = .ok (.getfield 61, 3) := by decide +kernel
theorem dX5_settleCalls_7 : decode cX5_settleCalls 7 = .ok (.if_icmp .ge 75, 3) := by decide +kernel
theorem dX5_settleCalls_10 : decode cX5_settleCalls 10 = .ok (.aload_n 0, 1) := by decide +kernel
theorem dX5_settleCalls_11 : decode cX5_settleCalls 11 = .ok (.aload_n 0, 1) := by decide +kernel
theorem dX5_settleCalls_12 : decode cX5_settleCalls 12 = .ok (.getfield 31, 3) := by decide +kernel
theorem dX5_settleCalls_15 : decode cX5_settleCalls 15 = .ok (.iload_n 1, 1) := by decide +kernel
theorem dX5_settleCalls_16 : decode cX5_settleCalls 16 = .ok (.invokestatic 231, 3) := by decide +kernel
theorem dX5_settleCalls_19 : decode cX5_settleCalls 19 = .ok (.invokevirtual 109, 3) := by decide +kernel
theorem dX5_settleCalls_22 : decode cX5_settleCalls 22 = .ok (.istore_n 2, 1) := by decide +kernel
theorem dX5_settleCalls_23 : decode cX5_settleCalls 23 = .ok (.iload_n 2, 1) := by decide +kernel
theorem dX5_settleCalls_24 : decode cX5_settleCalls 24 = .ok (.iconst (-1), 1) := by decide +kernel
theorem dX5_settleCalls_25 : decode cX5_settleCalls 25 = .ok (.if_icmp .ne 19, 3) := by decide +kernel
theorem dX5_settleCalls_44 : decode cX5_settleCalls 44 = .ok (.aload_n 0, 1) := by decide +kernel
theorem dX5_settleCalls_45 : decode cX5_settleCalls 45 = .ok (.getfield 28, 3) := by decide +kernel
theorem dX5_settleCalls_48 : decode cX5_settleCalls 48 = .ok (.iload_n 2, 1) := by decide +kernel
theorem dX5_settleCalls_49 : decode cX5_settleCalls 49 = .ok (.invokestatic 231, 3) := by decide +kernel
theorem dX5_settleCalls_52 : decode cX5_settleCalls 52 = .ok (.aload_n 0, 1) := by decide +kernel
theorem dX5_settleCalls_53 : decode cX5_settleCalls 53 = .ok (.getfield 37, 3) := by decide +kernel
theorem dX5_settleCalls_56 : decode cX5_settleCalls 56 = .ok (.iload_n 1, 1) := by decide +kernel
theorem dX5_settleCalls_57 : decode cX5_settleCalls 57 = .ok (.invokestatic 231, 3) := by decide +kernel
theorem dX5_settleCalls_60 : decode cX5_settleCalls 60 = .ok (.if_icmp .eq 16, 3) := by decide +kernel
theorem dX5_settleCalls_76 : decode cX5_settleCalls 76 = .ok (.iinc 1 1, 3) := by decide +kernel
theorem dX5_settleCalls_79 : decode cX5_settleCalls 79 = .ok (.goto (-77), 3) := by decide +kernel
theorem dX5_settleCalls_63 : decode cX5_settleCalls 63 = .ok (.aload_n 0, 1) := by decide +kernel
theorem dX5_settleCalls_64 : decode cX5_settleCalls 64 = .ok (.iconst 4, 1) := by decide +kernel
theorem dX5_settleCalls_65 : decode cX5_settleCalls 65 = .ok (.aload_n 0, 1) := by decide +kernel
theorem dX5_settleCalls_66 : decode cX5_settleCalls 66 = .ok (.getfield 34, 3) := by decide +kernel
theorem dX5_settleCalls_69 : decode cX5_settleCalls 69 = .ok (.iload_n 1, 1) := by decide +kernel
theorem dX5_settleCalls_70 : decode cX5_settleCalls 70 = .ok (.invokestatic 231, 3) := by decide +kernel
theorem dX5_settleCalls_73 : decode cX5_settleCalls 73 = .ok (.invokevirtual 113, 3) := by decide +kernel
theorem dX5_settleCalls_28 : decode cX5_settleCalls 28 = .ok (.aload_n 0, 1) := by decide +kernel
theorem dX5_settleCalls_29 : decode cX5_settleCalls 29 = .ok (.iconst 3, 1) := by decide +kernel
theorem dX5_settleCalls_30 : decode cX5_settleCalls 30 = .ok (.aload_n 0, 1) := by decide +kernel
theorem dX5_settleCalls_31 : decode cX5_settleCalls 31 = .ok (.getfield 34, 3) := by decide +kernel
theorem dX5_settleCalls_34 : decode cX5_settleCalls 34 = .ok (.iload_n 1, 1) := by decide +kernel
theorem dX5_settleCalls_35 : decode cX5_settleCalls 35 = .ok (.invokestatic 231, 3) := by decide +kernel
theorem dX5_settleCalls_38 : decode cX5_settleCalls 38 = .ok (.invokevirtual 113, 3) := by decide +kernel
theorem dX5_settleCalls_41 : decode cX5_settleCalls 41 = .ok (.goto 35, 3) := by decide +kernel
theorem dX5_settleCalls_82 : decode cX5_settleCalls 82 = .ok (.iconst 0, 1) := by decide +kernel
theorem dX5_settleCalls_83 : decode cX5_settleCalls 83 = .ok (.istore_n 1, 1) := by decide +kernel
theorem dX5_settleCalls_84 : decode cX5_settleCalls 84 = .ok (.aload_n 0, 1) := by decide +kernel
theorem dX5_settleCalls_85 : decode cX5_settleCalls 85 = .ok (.getfield 51, 3) := by decide +kernel
theorem dX5_settleCalls_88 : decode cX5_settleCalls 88 = .ok (.ifCond .ne 80, 3) := by decide +kernel
theorem dX5_settleCalls_91 : decode cX5_settleCalls 91 = .ok (.iload_n 1, 1) := by decide +kernel
theorem dX5_settleCalls_92 : decode cX5_settleCalls 92 = .ok (.aload_n 0, 1) := by decide +kernel
theorem dX5_settleCalls_93 : decode cX5_settleCalls 93 = .ok (.getfield 58, 3) := by decide +kernel
theorem dX5_settleCalls_96 : decode cX5_settleCalls 96 = .ok (.if_icmp .ge 72, 3) := by decide +kernel
theorem dX5_settleCalls_99 : decode cX5_settleCalls 99 = .ok (.iload_n 1, 1) := by decide +kernel
theorem dX5_settleCalls_100 : decode cX5_settleCalls 100 = .ok (.aload_n 0, 1) := by decide +kernel
theorem dX5_settleCalls_101 : decode cX5_settleCalls 101 = .ok (.getfield 20, 3) := by decide +kernel
theorem dX5_settleCalls_104 : decode cX5_settleCalls 104 = .ok (.arraylength, 1) := by decide +kernel
theorem dX5_settleCalls_105 : decode cX5_settleCalls 105 = .ok (.if_icmp .ge 63, 3) := by decide +kernel
theorem dX5_settleCalls_108 : decode cX5_settleCalls 108 = .ok (.aload_n 0, 1) := by decide +kernel
theorem dX5_settleCalls_109 : decode cX5_settleCalls 109 = .ok (.getfield 20, 3) := by decide +kernel
theorem dX5_settleCalls_112 : decode cX5_settleCalls 112 = .ok (.iload_n 1, 1) := by decide +kernel
theorem dX5_settleCalls_113 : decode cX5_settleCalls 113 = .ok (.aaload, 1) := by decide +kernel
theorem dX5_settleCalls_114 : decode cX5_settleCalls 114 = .ok (.astore_n 2, 1) := by decide +kernel
theorem dX5_settleCalls_115 : decode cX5_settleCalls 115 = .ok (.iconst 0, 1) := by decide +kernel
theorem dX5_settleCalls_116 : decode cX5_settleCalls 116 = .ok (.istore_n 3, 1) := by decide +kernel
theorem dX5_settleCalls_117 : decode cX5_settleCalls 117 = .ok (.aload_n 2, 1) := by decide +kernel
theorem dX5_settleCalls_118 : decode cX5_settleCalls 118 = .ok (.ifnull 44, 3) := by decide +kernel
theorem dX5_settleCalls_121 : decode cX5_settleCalls 121 = .ok (.iload_n 3, 1) := by decide +kernel
theorem dX5_settleCalls_122 : decode cX5_settleCalls 122 = .ok (.aload_n 2, 1) := by decide +kernel
theorem dX5_settleCalls_123 : decode cX5_settleCalls 123 = .ok (.getfield 146, 3) := by decide +kernel
theorem dX5_settleCalls_126 : decode cX5_settleCalls 126 = .ok (.if_icmp .ge 36, 3) := by decide +kernel
theorem dX5_settleCalls_129 : decode cX5_settleCalls 129 = .ok (.aload_n 2, 1) := by decide +kernel
theorem dX5_settleCalls_130 : decode cX5_settleCalls 130 = .ok (.iload_n 3, 1) := by decide +kernel
theorem dX5_settleCalls_131 : decode cX5_settleCalls 131 = .ok (.iconst 0, 1) := by decide +kernel
theorem dX5_settleCalls_132 : decode cX5_settleCalls 132 = .ok (.invokevirtual 164, 3) := by decide +kernel
theorem dX5_settleCalls_135 : decode cX5_settleCalls 135 = .ok (.bipush 10, 2) := by decide +kernel
theorem dX5_settleCalls_137 : decode cX5_settleCalls 137 = .ok (.if_icmp .ne 19, 3) := by decide +kernel
theorem dX5_settleCalls_156 : decode cX5_settleCalls 156 = .ok (.iinc 3 1, 3) := by decide +kernel
theorem dX5_settleCalls_159 : decode cX5_settleCalls 159 = .ok (.goto (-42), 3) := by decide +kernel
theorem dX5_settleCalls_140 : decode cX5_settleCalls 140 = .ok (.aload_n 2, 1) := by decide +kernel
theorem dX5_settleCalls_141 : decode cX5_settleCalls 141 = .ok (.iload_n 3, 1) := by decide +kernel
theorem dX5_settleCalls_142 : decode cX5_settleCalls 142 = .ok (.iconst 2, 1) := by decide +kernel
theorem dX5_settleCalls_143 : decode cX5_settleCalls 143 = .ok (.aload_n 0, 1) := by decide +kernel
theorem dX5_settleCalls_144 : decode cX5_settleCalls 144 = .ok (.aload_n 2, 1) := by decide +kernel
theorem dX5_settleCalls_145 : decode cX5_settleCalls 145 = .ok (.iload_n 3, 1) := by decide +kernel
theorem dX5_settleCalls_146 : decode cX5_settleCalls 146 = .ok (.iconst 2, 1) := by decide +kernel
theorem dX5_settleCalls_147 : decode cX5_settleCalls 147 = .ok (.invokevirtual 164, 3) := by decide +kernel
theorem dX5_settleCalls_150 : decode cX5_settleCalls 150 = .ok (.invokevirtual 109, 3) := by decide +kernel
theorem dX5_settleCalls_153 : decode cX5_settleCalls 153 = .ok (.invokevirtual 167, 3) := by decide +kernel
theorem dX5_settleCalls_162 : decode cX5_settleCalls 162 = .ok (.iinc 1 1, 3) := by decide +kernel
theorem dX5_settleCalls_165 : decode cX5_settleCalls 165 = .ok (.goto (-81), 3) := by decide +kernel
theorem dX5_settleCalls_168 : decode cX5_settleCalls 168 = .ok (.aload_n 0, 1) := by decide +kernel
theorem dX5_settleCalls_169 : decode cX5_settleCalls 169 = .ok (.getfield 51, 3) := by decide +kernel
theorem dX5_settleCalls_172 : decode cX5_settleCalls 172 = .ok (.ifCond .ne 7, 3) := by decide +kernel
theorem dX5_settleCalls_179 : decode cX5_settleCalls 179 = .ok (.iconst 0, 1) := by decide +kernel
theorem dX5_settleCalls_180 : decode cX5_settleCalls 180 = .ok (.ireturn, 1) := by decide +kernel
theorem dX5_settleCalls_175 : decode cX5_settleCalls 175 = .ok (.iconst 1, 1) := by decide +kernel
theorem dX5_settleCalls_176 : decode cX5_settleCalls 176 = .ok (.goto 4, 3) := by decide +kernel
end
section
theorem cd_X5_take : Cond.code yX5_take cX5_take 5 (some .boolean) ∈ pWW := pw3 (List.mem_of_getElem? (i := 24) rfl) rfl
abbrev m_X5_take : MT := (yX5_take, cX5_take, 5, (some .boolean))
theorem ok_X5_take : pOk m_X5_take := ⟨⟨cd_X5_take, ini_5⟩, by decide +kernel, ⟨by decide +kernel, by decide +kernel⟩, Nat.le_of_ble_eq_true rfl⟩
theorem np_X5_take : (parseMethodDescriptor yX5_take.desc).map (fun d => d.parameters.length) = some 2 := by decide +kernel
theorem im_X5_take : Cond.instanceMethod yX5_take ∈ pWW := pw3 (List.mem_of_getElem? (i := 22) rfl) rfl
theorem se_X5_take : Cond.selects RX5 yX5_take yX5_take ∈ pWW := pw3 (List.mem_of_getElem? (i := 23) rfl) rfl
theorem ml5_67 : Cond.methodLink RX5 67 yX9_scan ∈ pWW := pw3 (List.mem_of_getElem? (i := 25) rfl) rfl
theorem ml5_75 : Cond.methodLink RX5 75 yX5_header ∈ pWW := pw3 (List.mem_of_getElem? (i := 61) rfl) rfl
theorem ml5_83 : Cond.methodLink RX5 83 yX5_closeRoutine ∈ pWW := pw3 (List.mem_of_getElem? (i := 226) rfl) rfl
theorem dX5_take_0 : decode cX5_take 0 = .ok (.aload_n 0, 1) := by decide +kernel
theorem dX5_take_1 : decode cX5_take 1 = .ok (.iconst 0, 1) := by decide +kernel
theorem dX5_take_2 : decode cX5_take 2 = .ok (.putfield 51, 3) := by decide +kernel
theorem dX5_take_5 : decode cX5_take 5 = .ok (.aload_n 0, 1) := by decide +kernel
theorem dX5_take_6 : decode cX5_take 6 = .ok (.iconst (-1), 1) := by decide +kernel
theorem dX5_take_7 : decode cX5_take 7 = .ok (.putfield 55, 3) := by decide +kernel
theorem dX5_take_10 : decode cX5_take 10 = .ok (.aload_n 0, 1) := by decide +kernel
theorem dX5_take_11 : decode cX5_take 11 = .ok (.iconst 0, 1) := by decide +kernel
theorem dX5_take_12 : decode cX5_take 12 = .ok (.putfield 58, 3) := by decide +kernel
theorem dX5_take_15 : decode cX5_take 15 = .ok (.aload_n 0, 1) := by decide +kernel
theorem dX5_take_16 : decode cX5_take 16 = .ok (.iconst 0, 1) := by decide +kernel
theorem dX5_take_17 : decode cX5_take 17 = .ok (.putfield 61, 3) := by decide +kernel
theorem dX5_take_20 : decode cX5_take 20 = .ok (.aload_n 0, 1) := by decide +kernel
theorem dX5_take_21 : decode cX5_take 21 = .ok (.iconst 0, 1) := by decide +kernel
theorem dX5_take_22 : decode cX5_take 22 = .ok (.putfield 64, 3) := by decide +kernel
theorem dX5_take_25 : decode cX5_take 25 = .ok (.aload_n 0, 1) := by decide +kernel
theorem dX5_take_26 : decode cX5_take 26 = .ok (.getfield 12, 3) := by decide +kernel
theorem dX5_take_29 : decode cX5_take 29 = .ok (.aload_n 1, 1) := by decide +kernel
theorem dX5_take_30 : decode cX5_take 30 = .ok (.iload_n 2, 1) := by decide +kernel
theorem dX5_take_31 : decode cX5_take 31 = .ok (.invokevirtual 67, 3) := by decide +kernel
theorem dX5_take_34 : decode cX5_take 34 = .ok (.iconst 0, 1) := by decide +kernel
theorem dX5_take_35 : decode cX5_take 35 = .ok (.istore_n 3, 1) := by decide +kernel
theorem dX5_take_36 : decode cX5_take 36 = .ok (.iload_n 3, 1) := by decide +kernel
theorem dX5_take_37 : decode cX5_take 37 = .ok (.sipush 1200, 3) := by decide +kernel
theorem dX5_take_40 : decode cX5_take 40 = .ok (.if_icmp .ge 54, 3) := by decide +kernel
theorem dX5_take_43 : decode cX5_take 43 = .ok (.aload_n 0, 1) := by decide +kernel
theorem dX5_take_44 : decode cX5_take 44 = .ok (.getfield 12, 3) := by decide +kernel
theorem dX5_take_47 : decode cX5_take 47 = .ok (.getfield 71, 3) := by decide +kernel
theorem dX5_take_50 : decode cX5_take 50 = .ok (.sipush 264, 3) := by decide +kernel
theorem dX5_take_53 : decode cX5_take 53 = .ok (.if_icmp .eq 41, 3) := by decide +kernel
theorem dX5_take_56 : decode cX5_take 56 = .ok (.aload_n 0, 1) := by decide +kernel
theorem dX5_take_57 : decode cX5_take 57 = .ok (.getfield 12, 3) := by decide +kernel
theorem dX5_take_60 : decode cX5_take 60 = .ok (.getfield 74, 3) := by decide +kernel
theorem dX5_take_63 : decode cX5_take 63 = .ok (.istore 4, 2) := by decide +kernel
theorem dX5_take_65 : decode cX5_take 65 = .ok (.aload_n 0, 1) := by decide +kernel
theorem dX5_take_66 : decode cX5_take 66 = .ok (.invokevirtual 75, 3) := by decide +kernel
theorem dX5_take_69 : decode cX5_take 69 = .ok (.ifCond .eq 11, 3) := by decide +kernel
theorem dX5_take_72 : decode cX5_take 72 = .ok (.aload_n 0, 1) := by decide +kernel
theorem dX5_take_73 : decode cX5_take 73 = .ok (.iconst 1, 1) := by decide +kernel
theorem dX5_take_74 : decode cX5_take 74 = .ok (.invokevirtual 79, 3) := by decide +kernel
theorem dX5_take_77 : decode cX5_take 77 = .ok (.ifCond .ne 5, 3) := by decide +kernel
theorem dX5_take_82 : decode cX5_take 82 = .ok (.aload_n 0, 1) := by decide +kernel
theorem dX5_take_83 : decode cX5_take 83 = .ok (.iload 4, 2) := by decide +kernel
theorem dX5_take_85 : decode cX5_take 85 = .ok (.invokevirtual 83, 3) := by decide +kernel
theorem dX5_take_88 : decode cX5_take 88 = .ok (.iinc 3 1, 3) := by decide +kernel
theorem dX5_take_91 : decode cX5_take 91 = .ok (.goto (-55), 3) := by decide +kernel
theorem ml5_87 : Cond.methodLink RX5 87 yX5_settleCalls ∈ pWW := pw4 (List.mem_of_getElem? (i := 11) rfl) rfl
theorem dX5_take_80 : decode cX5_take 80 = .ok (.iconst 0, 1) := by decide +kernel
theorem dX5_take_81 : decode cX5_take 81 = .ok (.ireturn, 1) := by decide +kernel
theorem dX5_take_94 : decode cX5_take 94 = .ok (.aload_n 0, 1) := by decide +kernel
theorem dX5_take_95 : decode cX5_take 95 = .ok (.invokevirtual 87, 3) := by decide +kernel
theorem dX5_take_98 : decode cX5_take 98 = .ok (.ireturn, 1) := by decide +kernel
end
section
theorem div8 {x : Int} (h : 0 ≤ x) (h2 : x ≤ 2147483647) : ∃ z : Int, (8 * z ≤ x ∧ x < 8 * z + 8) ∧ iI x / iI 8 = iI z := by
  refine ⟨x / 8, by omega, ?_⟩
  apply Int32.toInt_inj.mp
  rw [Int32.toInt_div_of_ne_right _ _ (by decide), iI_toInt ⟨by omega, h2⟩, iI_toInt ⟨by omega, by omega⟩, iI_toInt ⟨by omega, by omega⟩]
  exact Int.tdiv_eq_ediv_of_nonneg h
section TAB
variable {T : CT} {σ : MS} {x N : Nat} {r : Int}
theorem tLen_at {i : Int} {y : Nat} (h : σ.2.1 900 i = (y : Int)) : tLen T σ i = (T y).2 := by
  unfold tLen; rw [h, if_neg (by omega)]; rfl
theorem WT.tab (hw : WT T σ) (hx : (T x).1 = 0) (hr : 0 ≤ r ∧ r < 6) (hN : 1 ≤ N) (hN2 : N ≤ 32788) (hl : tLen T σ r < N) (hp : 9 * tLen T σ r + N ≤ 9 * N) : WT (tT T x 1 N) (sA 900 r x (rowS (1000 + x) (fun _ => 0) (gh N σ))) := by
  have w : WTx N 1 (tT T x 1 N) (rowS (1000 + x) (fun _ => 0) (gh N σ)) x := by
    have q := (hw.wx (a := x)).newI hx (Or.inl rfl : (1 : Nat) = 1 ∨ _) (f := fun _ => 0) (fun i => vok_0) hN
    rw [Nat.zero_add, Nat.zero_add] at q
    exact q
  have ol : tLen (tT T x 1 N) (rowS (1000 + x) (fun _ => 0) (gh N σ)) r = tLen T σ r := by
    unfold tLen
    rw [show (rowS (1000 + x) (fun _ => 0) (gh N σ)).2.1 900 = σ.2.1 900 by rw [rowS_ne (by omega)]; rfl]
    rcases hw.2.2.2.2.1.2 r hr.1 hr.2 with q | ⟨y, q1, q2⟩
    · rw [if_pos q, if_pos q]
    · rw [q1, if_neg (by omega), if_neg (by omega)]
      show (tT T x 1 N y).2 = (T y).2
      rw [tT_gt hx y (by have := q2.1; omega)]
  generalize hT : tT T x 1 N = T2 at w ol
  generalize hS : rowS (1000 + x) (fun _ => 0) (gh N σ) = τ at w ol
  have hx2 : T2 x = (1, N) := by rw [← hT, tT_eq]
  obtain ⟨w1, w2, w3, w4, w5, b, K, w6, w7⟩ := w
  have nl : ∀ i : Int, i ≠ r → tLen T2 (sA 900 r x τ) i = tLen T2 τ i := fun i h => by unfold tLen; rw [sA_ne h]
  have nr : tLen T2 (sA 900 r x τ) r = N := by rw [tLen_at (show (sA 900 r x τ).2.1 900 r = (x : Int) from ra_eq), hx2]
  have e1 : cLen T2 (sA 900 r x τ) = cLen T2 τ := cLen_put (by omega)
  have e3 : prS (sA 900 r x τ) b = prS τ b := prS_put (by omega)
  have hs : tSum (tLen T2 (sA 900 r x τ)) + tLen T2 τ r = tSum (tLen T2 τ) + N := by
    unfold tSum
    have hc : r = 0 ∨ r = 1 ∨ r = 2 ∨ r = 3 ∨ r = 4 ∨ r = 5 := by omega
    rcases hc with h | h | h | h | h | h <;> subst h <;> (rw [nr]; first
      | rw [nl 1 (by decide), nl 2 (by decide), nl 3 (by decide), nl 4 (by decide), nl 5 (by decide)]; omega
      | rw [nl 0 (by decide), nl 2 (by decide), nl 3 (by decide), nl 4 (by decide), nl 5 (by decide)]; omega
      | rw [nl 0 (by decide), nl 1 (by decide), nl 3 (by decide), nl 4 (by decide), nl 5 (by decide)]; omega
      | rw [nl 0 (by decide), nl 1 (by decide), nl 2 (by decide), nl 4 (by decide), nl 5 (by decide)]; omega
      | rw [nl 0 (by decide), nl 1 (by decide), nl 2 (by decide), nl 3 (by decide), nl 5 (by decide)]; omega
      | rw [nl 0 (by decide), nl 1 (by decide), nl 2 (by decide), nl 3 (by decide), nl 4 (by decide)]; omega)
  refine ⟨fun n c q w => ?_, fun c y q r9 => ?_, fun c q => ?_, ⟨fun c q => ?_, fun c q => ?_⟩, ⟨w5.1, fun i i0 i1 => ?_⟩, b, K, w6, w7.1, w7.2.1, ?_, ?_⟩
  · rw [sA_k (by omega)]; exact w1 n c q w
  · rw [sA_k (by omega)] at r9
    rw [sA_k (by omega)]
    refine w2 c y (fun e => ?_) q r9
    have := q.1; rw [e, hx2] at this
    have h9 : 30 ≤ 1 := this
    omega
  · rw [sA_k (by omega)]; exact w3 c q
  · rw [sA_k (by omega)]; exact w4.1 c q
  · rw [sA_k (by omega)]; exact w4.2 c q
  · by_cases e : i = r
    · rw [e, show (sA 900 r x τ).2.1 900 r = (x : Int) from ra_eq]
      exact Or.inr ⟨x, rfl, by unfold AR; rw [hx2]; exact ⟨rfl, Nat.zero_le _, hN2⟩⟩
    · rw [sA_ne e]; exact w5.2 i i0 i1
  · rw [e1, e3]
    show τ.1 0 ≤ _
    have := w7.2.2.1
    omega
  · rw [e1, e3]
    show τ.1 1 ≤ _
    have := w7.2.2.2
    omega
end TAB
theorem mul_rng1 {x y b c d : Int} (h1 : 1 ≤ x) (h2 : x ≤ b) (h3 : 1 ≤ y) (h4 : y ≤ d) (h5 : b * d = c) : 1 ≤ x * y ∧ x * y ≤ c := by
  have q1 : 1 * 1 ≤ x * y := Int.mul_le_mul h1 h3 (by omega) (by omega)
  have q2 : x * y ≤ b * d := Int.mul_le_mul h2 h4 (by omega) (by omega)
  omega
end
section
theorem cd_X10_refresh : Cond.code yX10_refresh cX10_refresh 6 none ∈ pWW := pw4 (List.mem_of_getElem? (i := 108) rfl) rfl
abbrev m_X10_refresh : MT := (yX10_refresh, cX10_refresh, 6, none)
theorem ok_X10_refresh : pOk m_X10_refresh := ⟨⟨cd_X10_refresh, ini_10⟩, by decide +kernel, ⟨by decide +kernel, by decide +kernel⟩, Nat.le_of_ble_eq_true rfl⟩
theorem np_X10_refresh : (parseMethodDescriptor yX10_refresh.desc).map (fun d => d.parameters.length) = some 2 := by decide +kernel
theorem im_X10_refresh : Cond.instanceMethod yX10_refresh ∈ pWW := pw4 (List.mem_of_getElem? (i := 106) rfl) rfl
theorem se_X10_refresh : Cond.selects RX10 yX10_refresh yX10_refresh ∈ pWW := pw4 (List.mem_of_getElem? (i := 107) rfl) rfl
theorem mlm10_56 : Cond.methodLink RX10 56 Lib.Math.max.name ∈ pWW := pw4 (List.mem_of_getElem? (i := 113) rfl) rfl
theorem ml10_64 : Cond.methodLink RX10 64 yJ7_fill_fda19 ∈ pWW := pw4 (List.mem_of_getElem? (i := 114) rfl) rfl
theorem ml10_70 : Cond.methodLink RX10 70 yX10_nameBind ∈ pWW := pw4 (List.mem_of_getElem? (i := 115) rfl) rfl
theorem dX10_refresh_0 : decode cX10_refresh 0 = .ok (.aload_n 2, 1) := by decide +kernel
theorem dX10_refresh_1 : decode cX10_refresh 1 = .ok (.ifnull 34, 3) := by decide +kernel
theorem dX10_refresh_4 : decode cX10_refresh 4 = .ok (.iload_n 1, 1) := by decide +kernel
theorem dX10_refresh_5 : decode cX10_refresh 5 = .ok (.ifCond .lt 30, 3) := by decide +kernel
theorem dX10_refresh_35 : decode cX10_refresh 35 = .ok (.return_, 1) := by decide +kernel
theorem dX10_refresh_8 : decode cX10_refresh 8 = .ok (.iload_n 1, 1) := by decide +kernel
theorem dX10_refresh_9 : decode cX10_refresh 9 = .ok (.aload_n 0, 1) := by decide +kernel
theorem dX10_refresh_10 : decode cX10_refresh 10 = .ok (.getfield 11, 3) := by decide +kernel
theorem dX10_refresh_13 : decode cX10_refresh 13 = .ok (.arraylength, 1) := by decide +kernel
theorem dX10_refresh_14 : decode cX10_refresh 14 = .ok (.if_icmp .ge 21, 3) := by decide +kernel
theorem dX10_refresh_17 : decode cX10_refresh 17 = .ok (.iload_n 1, 1) := by decide +kernel
theorem dX10_refresh_18 : decode cX10_refresh 18 = .ok (.aload_n 0, 1) := by decide +kernel
theorem dX10_refresh_19 : decode cX10_refresh 19 = .ok (.getfield 17, 3) := by decide +kernel
theorem dX10_refresh_22 : decode cX10_refresh 22 = .ok (.arraylength, 1) := by decide +kernel
theorem dX10_refresh_23 : decode cX10_refresh 23 = .ok (.if_icmp .ge 12, 3) := by decide +kernel
theorem dX10_refresh_26 : decode cX10_refresh 26 = .ok (.aload_n 0, 1) := by decide +kernel
theorem dX10_refresh_27 : decode cX10_refresh 27 = .ok (.getfield 17, 3) := by decide +kernel
theorem dX10_refresh_30 : decode cX10_refresh 30 = .ok (.iload_n 1, 1) := by decide +kernel
theorem dX10_refresh_31 : decode cX10_refresh 31 = .ok (.iaload, 1) := by decide +kernel
theorem dX10_refresh_32 : decode cX10_refresh 32 = .ok (.ifCond .eq 4, 3) := by decide +kernel
theorem dX10_refresh_36 : decode cX10_refresh 36 = .ok (.aload_n 0, 1) := by decide +kernel
theorem dX10_refresh_37 : decode cX10_refresh 37 = .ok (.aload_n 2, 1) := by decide +kernel
theorem dX10_refresh_38 : decode cX10_refresh 38 = .ok (.aload_n 2, 1) := by decide +kernel
theorem dX10_refresh_39 : decode cX10_refresh 39 = .ok (.getfield 30, 3) := by decide +kernel
theorem dX10_refresh_42 : decode cX10_refresh 42 = .ok (.iconst 0, 1) := by decide +kernel
theorem dX10_refresh_43 : decode cX10_refresh 43 = .ok (.invokevirtual 36, 3) := by decide +kernel
theorem dX10_refresh_46 : decode cX10_refresh 46 = .ok (.putfield 50, 3) := by decide +kernel
theorem dX10_refresh_49 : decode cX10_refresh 49 = .ok (.iconst 0, 1) := by decide +kernel
theorem dX10_refresh_50 : decode cX10_refresh 50 = .ok (.aload_n 2, 1) := by decide +kernel
theorem dX10_refresh_51 : decode cX10_refresh 51 = .ok (.getfield 53, 3) := by decide +kernel
theorem dX10_refresh_54 : decode cX10_refresh 54 = .ok (.iconst 1, 1) := by decide +kernel
theorem dX10_refresh_55 : decode cX10_refresh 55 = .ok (.iadd, 1) := by decide +kernel
theorem dX10_refresh_56 : decode cX10_refresh 56 = .ok (.aload_n 0, 1) := by decide +kernel
theorem dX10_refresh_57 : decode cX10_refresh 57 = .ok (.getfield 50, 3) := by decide +kernel
theorem dX10_refresh_60 : decode cX10_refresh 60 = .ok (.imul, 1) := by decide +kernel
theorem dX10_refresh_61 : decode cX10_refresh 61 = .ok (.invokestatic 56, 3) := by decide +kernel
theorem dX10_refresh_64 : decode cX10_refresh 64 = .ok (.istore_n 3, 1) := by decide +kernel
theorem dX10_refresh_65 : decode cX10_refresh 65 = .ok (.aload_n 0, 1) := by decide +kernel
theorem dX10_refresh_66 : decode cX10_refresh 66 = .ok (.getfield 11, 3) := by decide +kernel
theorem dX10_refresh_69 : decode cX10_refresh 69 = .ok (.iload_n 1, 1) := by decide +kernel
theorem dX10_refresh_70 : decode cX10_refresh 70 = .ok (.aaload, 1) := by decide +kernel
theorem dX10_refresh_71 : decode cX10_refresh 71 = .ok (.ifnull 14, 3) := by decide +kernel
theorem dX10_refresh_85 : decode cX10_refresh 85 = .ok (.aload_n 0, 1) := by decide +kernel
theorem dX10_refresh_86 : decode cX10_refresh 86 = .ok (.getfield 11, 3) := by decide +kernel
theorem dX10_refresh_89 : decode cX10_refresh 89 = .ok (.iload_n 1, 1) := by decide +kernel
theorem dX10_refresh_90 : decode cX10_refresh 90 = .ok (.iload_n 3, 1) := by decide +kernel
theorem dX10_refresh_91 : decode cX10_refresh 91 = .ok (.iload_n 3, 1) := by decide +kernel
theorem dX10_refresh_92 : decode cX10_refresh 92 = .ok (.bipush 8, 2) := by decide +kernel
theorem dX10_refresh_94 : decode cX10_refresh 94 = .ok (.idiv, 1) := by decide +kernel
theorem dX10_refresh_95 : decode cX10_refresh 95 = .ok (.iadd, 1) := by decide +kernel
theorem dX10_refresh_96 : decode cX10_refresh 96 = .ok (.newarray .int, 2) := by decide +kernel
theorem dX10_refresh_98 : decode cX10_refresh 98 = .ok (.aastore, 1) := by decide +kernel
theorem dX10_refresh_99 : decode cX10_refresh 99 = .ok (.aload_n 0, 1) := by decide +kernel
theorem dX10_refresh_100 : decode cX10_refresh 100 = .ok (.aload_n 0, 1) := by decide +kernel
theorem dX10_refresh_101 : decode cX10_refresh 101 = .ok (.getfield 11, 3) := by decide +kernel
theorem dX10_refresh_104 : decode cX10_refresh 104 = .ok (.iload_n 1, 1) := by decide +kernel
theorem dX10_refresh_105 : decode cX10_refresh 105 = .ok (.aaload, 1) := by decide +kernel
theorem dX10_refresh_106 : decode cX10_refresh 106 = .ok (.putfield 61, 3) := by decide +kernel
theorem dX10_refresh_109 : decode cX10_refresh 109 = .ok (.aload_n 0, 1) := by decide +kernel
theorem dX10_refresh_110 : decode cX10_refresh 110 = .ok (.getfield 61, 3) := by decide +kernel
theorem dX10_refresh_113 : decode cX10_refresh 113 = .ok (.iconst 0, 1) := by decide +kernel
theorem dX10_refresh_114 : decode cX10_refresh 114 = .ok (.iload_n 3, 1) := by decide +kernel
theorem dX10_refresh_115 : decode cX10_refresh 115 = .ok (.iconst 0, 1) := by decide +kernel
theorem dX10_refresh_116 : decode cX10_refresh 116 = .ok (.invokestatic 64, 3) := by decide +kernel
theorem dX10_refresh_119 : decode cX10_refresh 119 = .ok (.iconst 0, 1) := by decide +kernel
theorem dX10_refresh_120 : decode cX10_refresh 120 = .ok (.istore 4, 2) := by decide +kernel
theorem dX10_refresh_122 : decode cX10_refresh 122 = .ok (.iload 4, 2) := by decide +kernel
theorem dX10_refresh_124 : decode cX10_refresh 124 = .ok (.aload_n 2, 1) := by decide +kernel
theorem dX10_refresh_125 : decode cX10_refresh 125 = .ok (.getfield 53, 3) := by decide +kernel
theorem dX10_refresh_128 : decode cX10_refresh 128 = .ok (.if_icmp .ge 16, 3) := by decide +kernel
theorem dX10_refresh_131 : decode cX10_refresh 131 = .ok (.aload_n 0, 1) := by decide +kernel
theorem dX10_refresh_132 : decode cX10_refresh 132 = .ok (.aload_n 2, 1) := by decide +kernel
theorem dX10_refresh_133 : decode cX10_refresh 133 = .ok (.iload 4, 2) := by decide +kernel
theorem dX10_refresh_135 : decode cX10_refresh 135 = .ok (.invokevirtual 70, 3) := by decide +kernel
theorem dX10_refresh_138 : decode cX10_refresh 138 = .ok (.iinc 4 1, 3) := by decide +kernel
theorem dX10_refresh_141 : decode cX10_refresh 141 = .ok (.goto (-19), 3) := by decide +kernel
theorem ml10_74 : Cond.methodLink RX10 74 yX10_begin ∈ pWW := pw4 (List.mem_of_getElem? (i := 129) rfl) rfl
theorem cst10_82 : Cond.constant RX10 82 (1000000) ∈ pWW := pw4 (List.mem_of_getElem? (i := 133) rfl) rfl
theorem ml10_83 : Cond.methodLink RX10 83 yX10_goThrough ∈ pWW := pw4 (List.mem_of_getElem? (i := 134) rfl) rfl
theorem dX10_refresh_144 : decode cX10_refresh 144 = .ok (.aload_n 0, 1) := by decide +kernel
theorem dX10_refresh_145 : decode cX10_refresh 145 = .ok (.aload_n 2, 1) := by decide +kernel
theorem dX10_refresh_146 : decode cX10_refresh 146 = .ok (.invokevirtual 74, 3) := by decide +kernel
theorem dX10_refresh_149 : decode cX10_refresh 149 = .ok (.aload_n 0, 1) := by decide +kernel
theorem dX10_refresh_150 : decode cX10_refresh 150 = .ok (.iconst 1, 1) := by decide +kernel
theorem dX10_refresh_151 : decode cX10_refresh 151 = .ok (.putfield 78, 3) := by decide +kernel
theorem dX10_refresh_154 : decode cX10_refresh 154 = .ok (.iconst 0, 1) := by decide +kernel
theorem dX10_refresh_155 : decode cX10_refresh 155 = .ok (.istore 4, 2) := by decide +kernel
theorem dX10_refresh_157 : decode cX10_refresh 157 = .ok (.aload_n 0, 1) := by decide +kernel
theorem dX10_refresh_158 : decode cX10_refresh 158 = .ok (.getfield 78, 3) := by decide +kernel
theorem dX10_refresh_161 : decode cX10_refresh 161 = .ok (.ifCond .eq 46, 3) := by decide +kernel
theorem dX10_refresh_164 : decode cX10_refresh 164 = .ok (.iload 4, 2) := by decide +kernel
theorem dX10_refresh_166 : decode cX10_refresh 166 = .ok (.ldc 82, 2) := by decide +kernel
theorem dX10_refresh_168 : decode cX10_refresh 168 = .ok (.if_icmp .ge 39, 3) := by decide +kernel
theorem dX10_refresh_171 : decode cX10_refresh 171 = .ok (.aload_n 0, 1) := by decide +kernel
theorem dX10_refresh_172 : decode cX10_refresh 172 = .ok (.iconst 0, 1) := by decide +kernel
theorem dX10_refresh_173 : decode cX10_refresh 173 = .ok (.putfield 78, 3) := by decide +kernel
theorem dX10_refresh_176 : decode cX10_refresh 176 = .ok (.iconst 0, 1) := by decide +kernel
theorem dX10_refresh_177 : decode cX10_refresh 177 = .ok (.istore 5, 2) := by decide +kernel
theorem dX10_refresh_179 : decode cX10_refresh 179 = .ok (.iload 5, 2) := by decide +kernel
theorem dX10_refresh_181 : decode cX10_refresh 181 = .ok (.aload_n 2, 1) := by decide +kernel
theorem dX10_refresh_182 : decode cX10_refresh 182 = .ok (.getfield 53, 3) := by decide +kernel
theorem dX10_refresh_185 : decode cX10_refresh 185 = .ok (.if_icmp .ge 16, 3) := by decide +kernel
theorem dX10_refresh_188 : decode cX10_refresh 188 = .ok (.aload_n 0, 1) := by decide +kernel
theorem dX10_refresh_189 : decode cX10_refresh 189 = .ok (.aload_n 2, 1) := by decide +kernel
theorem dX10_refresh_190 : decode cX10_refresh 190 = .ok (.iload 5, 2) := by decide +kernel
theorem dX10_refresh_192 : decode cX10_refresh 192 = .ok (.invokevirtual 83, 3) := by decide +kernel
theorem dX10_refresh_195 : decode cX10_refresh 195 = .ok (.iinc 5 1, 3) := by decide +kernel
theorem dX10_refresh_198 : decode cX10_refresh 198 = .ok (.goto (-19), 3) := by decide +kernel
theorem dX10_refresh_201 : decode cX10_refresh 201 = .ok (.iinc 4 1, 3) := by decide +kernel
theorem dX10_refresh_204 : decode cX10_refresh 204 = .ok (.goto (-47), 3) := by decide +kernel
theorem dX10_refresh_207 : decode cX10_refresh 207 = .ok (.aload_n 0, 1) := by decide +kernel
theorem dX10_refresh_208 : decode cX10_refresh 208 = .ok (.getfield 17, 3) := by decide +kernel
theorem dX10_refresh_211 : decode cX10_refresh 211 = .ok (.iload_n 1, 1) := by decide +kernel
theorem dX10_refresh_212 : decode cX10_refresh 212 = .ok (.iconst 1, 1) := by decide +kernel
theorem dX10_refresh_213 : decode cX10_refresh 213 = .ok (.iastore, 1) := by decide +kernel
theorem dX10_refresh_214 : decode cX10_refresh 214 = .ok (.return_, 1) := by decide +kernel
theorem dX10_refresh_74 : decode cX10_refresh 74 = .ok (.aload_n 0, 1) := by decide +kernel
theorem dX10_refresh_75 : decode cX10_refresh 75 = .ok (.getfield 11, 3) := by decide +kernel
theorem dX10_refresh_78 : decode cX10_refresh 78 = .ok (.iload_n 1, 1) := by decide +kernel
theorem dX10_refresh_79 : decode cX10_refresh 79 = .ok (.aaload, 1) := by decide +kernel
theorem dX10_refresh_80 : decode cX10_refresh 80 = .ok (.arraylength, 1) := by decide +kernel
theorem dX10_refresh_81 : decode cX10_refresh 81 = .ok (.iload_n 3, 1) := by decide +kernel
theorem dX10_refresh_82 : decode cX10_refresh 82 = .ok (.if_icmp .ge 17, 3) := by decide +kernel
end
section
def TR (σ : MS) (a : Nat) (B : Int) : Prop := ∀ t : Nat, σ.2.1 103 a = (t : Int) → σ.2.1 57 t ≤ B
theorem TR.of {σ : MS} {a x : Nat} {B : Int} (hx : σ.2.1 103 a = (x : Int)) (h : σ.2.1 57 x ≤ B) : TR σ a B := fun t q => by
  have e : t = x := by omega
  rw [e]; exact h
theorem TR.up {σ : MS} {a : Nat} {B C : Int} (h : TR σ a B) (hc : B ≤ C) : TR σ a C := fun t q => Int.le_trans (h t q) hc
theorem TR.frc {T : CT} {ks : List Nat} {σ τ : MS} {a : Nat} {B : Int} (h : TR σ a B) (f : FrC T ks σ τ) (h0 : 103 ∉ ks) (h1 : 57 ∉ ks) : TR τ a B := fun t q => by
  rw [f.1 57 (by omega) h1]; exact h t (by rw [← f.1 103 (by omega) h0]; exact q)
end
section
theorem cd_X11_feed : Cond.code yX11_feed cX11_feed 6 (some .int) ∈ pWW := pw3 (List.mem_of_getElem? (i := 8) rfl) rfl
abbrev m_X11_feed : MT := (yX11_feed, cX11_feed, 6, (some .int))
theorem ok_X11_feed : pOk m_X11_feed := ⟨⟨cd_X11_feed, ini_11⟩, by decide +kernel, ⟨by decide +kernel, by decide +kernel⟩, Nat.le_of_ble_eq_true rfl⟩
theorem np_X11_feed : (parseMethodDescriptor yX11_feed.desc).map (fun d => d.parameters.length) = some 5 := by decide +kernel
theorem im_X11_feed : Cond.instanceMethod yX11_feed ∈ pWW := pw3 (List.mem_of_getElem? (i := 6) rfl) rfl
theorem se_X11_feed : Cond.selects RX11 yX11_feed yX11_feed ∈ pWW := pw3 (List.mem_of_getElem? (i := 7) rfl) rfl
theorem ml11_90 : Cond.methodLink RX11 90 yX11_tapeNumber ∈ pWW := pw3 (List.mem_of_getElem? (i := 9) rfl) rfl
theorem dX11_feed_0 : decode cX11_feed 0 = .ok (.aload_n 0, 1) := by decide +kernel
theorem dX11_feed_1 : decode cX11_feed 1 = .ok (.getfield 87, 3) := by decide +kernel
theorem dX11_feed_4 : decode cX11_feed 4 = .ok (.bipush 20, 2) := by decide +kernel
theorem dX11_feed_6 : decode cX11_feed 6 = .ok (.iadd, 1) := by decide +kernel
theorem dX11_feed_7 : decode cX11_feed 7 = .ok (.sipush 1200, 3) := by decide +kernel
theorem dX11_feed_10 : decode cX11_feed 10 = .ok (.if_icmp .le 5, 3) := by decide +kernel
theorem dX11_feed_15 : decode cX11_feed 15 = .ok (.aload_n 0, 1) := by decide +kernel
theorem dX11_feed_16 : decode cX11_feed 16 = .ok (.iload_n 1, 1) := by decide +kernel
theorem dX11_feed_17 : decode cX11_feed 17 = .ok (.invokevirtual 90, 3) := by decide +kernel
theorem dX11_feed_20 : decode cX11_feed 20 = .ok (.aload_n 0, 1) := by decide +kernel
theorem dX11_feed_21 : decode cX11_feed 21 = .ok (.iload_n 2, 1) := by decide +kernel
theorem dX11_feed_22 : decode cX11_feed 22 = .ok (.invokevirtual 90, 3) := by decide +kernel
theorem dX11_feed_25 : decode cX11_feed 25 = .ok (.aload_n 0, 1) := by decide +kernel
theorem dX11_feed_26 : decode cX11_feed 26 = .ok (.iload_n 3, 1) := by decide +kernel
theorem dX11_feed_27 : decode cX11_feed 27 = .ok (.invokevirtual 90, 3) := by decide +kernel
theorem dX11_feed_30 : decode cX11_feed 30 = .ok (.aload_n 0, 1) := by decide +kernel
theorem dX11_feed_31 : decode cX11_feed 31 = .ok (.iload 4, 2) := by decide +kernel
theorem dX11_feed_33 : decode cX11_feed 33 = .ok (.invokevirtual 90, 3) := by decide +kernel
theorem dX11_feed_36 : decode cX11_feed 36 = .ok (.aload_n 0, 1) := by decide +kernel
theorem dX11_feed_37 : decode cX11_feed 37 = .ok (.iload 5, 2) := by decide +kernel
theorem dX11_feed_39 : decode cX11_feed 39 = .ok (.invokevirtual 90, 3) := by decide +kernel
theorem dX11_feed_42 : decode cX11_feed 42 = .ok (.aload_n 0, 1) := by decide +kernel
theorem dX11_feed_43 : decode cX11_feed 43 = .ok (.getfield 87, 3) := by decide +kernel
theorem dX11_feed_46 : decode cX11_feed 46 = .ok (.ireturn, 1) := by decide +kernel
theorem dX11_feed_13 : decode cX11_feed 13 = .ok (.iconst (-1), 1) := by decide +kernel
theorem dX11_feed_14 : decode cX11_feed 14 = .ok (.ireturn, 1) := by decide +kernel
end
section
theorem cd_X11_end : Cond.code yX11_end cX11_end 2 (some .int) ∈ pWW := pw3 (List.mem_of_getElem? (i := 16) rfl) rfl
abbrev m_X11_end : MT := (yX11_end, cX11_end, 2, (some .int))
theorem ok_X11_end : pOk m_X11_end := ⟨⟨cd_X11_end, ini_11⟩, by decide +kernel, ⟨by decide +kernel, by decide +kernel⟩, Nat.le_of_ble_eq_true rfl⟩
theorem np_X11_end : (parseMethodDescriptor yX11_end.desc).map (fun d => d.parameters.length) = some 1 := by decide +kernel
theorem im_X11_end : Cond.instanceMethod yX11_end ∈ pWW := pw3 (List.mem_of_getElem? (i := 14) rfl) rfl
theorem se_X11_end : Cond.selects RX11 yX11_end yX11_end ∈ pWW := pw3 (List.mem_of_getElem? (i := 15) rfl) rfl
theorem dX11_end_0 : decode cX11_end 0 = .ok (.iload_n 1, 1) := by decide +kernel
theorem dX11_end_1 : decode cX11_end 1 = .ok (.ifCond .lt 11, 3) := by decide +kernel
theorem dX11_end_12 : decode cX11_end 12 = .ok (.iconst (-1), 1) := by decide +kernel
theorem dX11_end_13 : decode cX11_end 13 = .ok (.ireturn, 1) := by decide +kernel
theorem dX11_end_4 : decode cX11_end 4 = .ok (.iload_n 1, 1) := by decide +kernel
theorem dX11_end_5 : decode cX11_end 5 = .ok (.aload_n 0, 1) := by decide +kernel
theorem dX11_end_6 : decode cX11_end 6 = .ok (.getfield 87, 3) := by decide +kernel
theorem dX11_end_9 : decode cX11_end 9 = .ok (.if_icmp .le 5, 3) := by decide +kernel
theorem dX11_end_14 : decode cX11_end 14 = .ok (.aload_n 0, 1) := by decide +kernel
theorem dX11_end_15 : decode cX11_end 15 = .ok (.iload_n 1, 1) := by decide +kernel
theorem dX11_end_16 : decode cX11_end 16 = .ok (.putfield 87, 3) := by decide +kernel
theorem dX11_end_19 : decode cX11_end 19 = .ok (.iload_n 1, 1) := by decide +kernel
theorem dX11_end_20 : decode cX11_end 20 = .ok (.ireturn, 1) := by decide +kernel
end
section
theorem cd_X11_fault : Cond.code yX11_fault cX11_fault 2 (some .int) ∈ pWW := pw4 (List.mem_of_getElem? (i := 54) rfl) rfl
abbrev m_X11_fault : MT := (yX11_fault, cX11_fault, 2, (some .int))
theorem ok_X11_fault : pOk m_X11_fault := ⟨⟨cd_X11_fault, ini_11⟩, by decide +kernel, ⟨by decide +kernel, by decide +kernel⟩, Nat.le_of_ble_eq_true rfl⟩
theorem np_X11_fault : (parseMethodDescriptor yX11_fault.desc).map (fun d => d.parameters.length) = some 1 := by decide +kernel
theorem im_X11_fault : Cond.instanceMethod yX11_fault ∈ pWW := pw4 (List.mem_of_getElem? (i := 52) rfl) rfl
theorem se_X11_fault : Cond.selects RX11 yX11_fault yX11_fault ∈ pWW := pw4 (List.mem_of_getElem? (i := 53) rfl) rfl
theorem fl11_43 : Cond.fieldLink RX11 43 (TX11 10).1 (TX11 10).2.1 (TX11 10).2.2.1 ∈ pWW := pw2 (List.mem_of_getElem? (i := 206) rfl) rfl
theorem fl11_101 : Cond.fieldLink RX11 101 (TX11 9).1 (TX11 9).2.1 (TX11 9).2.2.1 ∈ pWW := pw2 (List.mem_of_getElem? (i := 205) rfl) rfl
theorem dX11_fault_0 : decode cX11_fault 0 = .ok (.iload_n 1, 1) := by decide +kernel
theorem dX11_fault_1 : decode cX11_fault 1 = .ok (.ifCond .ne 8, 3) := by decide +kernel
theorem dX11_fault_9 : decode cX11_fault 9 = .ok (.iload_n 1, 1) := by decide +kernel
theorem dX11_fault_10 : decode cX11_fault 10 = .ok (.iconst 1, 1) := by decide +kernel
theorem dX11_fault_11 : decode cX11_fault 11 = .ok (.if_icmp .ne 10, 3) := by decide +kernel
theorem dX11_fault_21 : decode cX11_fault 21 = .ok (.iconst (-1), 1) := by decide +kernel
theorem dX11_fault_22 : decode cX11_fault 22 = .ok (.ireturn, 1) := by decide +kernel
theorem dX11_fault_14 : decode cX11_fault 14 = .ok (.aload_n 0, 1) := by decide +kernel
theorem dX11_fault_15 : decode cX11_fault 15 = .ok (.getfield 43, 3) := by decide +kernel
theorem dX11_fault_18 : decode cX11_fault 18 = .ok (.goto 4, 3) := by decide +kernel
theorem dX11_fault_4 : decode cX11_fault 4 = .ok (.aload_n 0, 1) := by decide +kernel
theorem dX11_fault_5 : decode cX11_fault 5 = .ok (.getfield 101, 3) := by decide +kernel
theorem dX11_fault_8 : decode cX11_fault 8 = .ok (.ireturn, 1) := by decide +kernel
end
section
theorem cd_X11_codeOf : Cond.code yX11_codeOf cX11_codeOf 2 (some (.object "LineKeeper$Code")) ∈ pWW := pw4 (List.mem_of_getElem? (i := 62) rfl) rfl
abbrev m_X11_codeOf : MT := (yX11_codeOf, cX11_codeOf, 2, (some (.object "LineKeeper$Code")))
theorem ok_X11_codeOf : pOk m_X11_codeOf := ⟨⟨cd_X11_codeOf, ini_11⟩, by decide +kernel, ⟨by decide +kernel, by decide +kernel⟩, Nat.le_of_ble_eq_true rfl⟩
theorem np_X11_codeOf : (parseMethodDescriptor yX11_codeOf.desc).map (fun d => d.parameters.length) = some 1 := by decide +kernel
theorem im_X11_codeOf : Cond.instanceMethod yX11_codeOf ∈ pWW := pw4 (List.mem_of_getElem? (i := 61) rfl) rfl
theorem se_X11_codeOf : Cond.selects RX11 yX11_codeOf yX11_codeOf ∈ pWW := pws (List.mem_map.mpr ⟨_, lw_pin 37 rfl, rfl⟩) rfl
theorem fl11_116 : Cond.fieldLink RX11 116 (TX11 2).1 (TX11 2).2.1 (TX11 2).2.2.1 ∈ pWW := pw2 (List.mem_of_getElem? (i := 198) rfl) rfl
theorem fl11_19 : Cond.fieldLink RX11 19 (TX11 4).1 (TX11 4).2.1 (TX11 4).2.2.1 ∈ pWW := pw2 (List.mem_of_getElem? (i := 200) rfl) rfl
theorem dX11_codeOf_0 : decode cX11_codeOf 0 = .ok (.iload_n 1, 1) := by decide +kernel
theorem dX11_codeOf_1 : decode cX11_codeOf 1 = .ok (.ifCond .lt 29, 3) := by decide +kernel
theorem dX11_codeOf_30 : decode cX11_codeOf 30 = .ok (.aconst_null, 1) := by decide +kernel
theorem dX11_codeOf_31 : decode cX11_codeOf 31 = .ok (.areturn, 1) := by decide +kernel
theorem dX11_codeOf_4 : decode cX11_codeOf 4 = .ok (.iload_n 1, 1) := by decide +kernel
theorem dX11_codeOf_5 : decode cX11_codeOf 5 = .ok (.aload_n 0, 1) := by decide +kernel
theorem dX11_codeOf_6 : decode cX11_codeOf 6 = .ok (.getfield 116, 3) := by decide +kernel
theorem dX11_codeOf_9 : decode cX11_codeOf 9 = .ok (.if_icmp .ge 21, 3) := by decide +kernel
theorem dX11_codeOf_12 : decode cX11_codeOf 12 = .ok (.iload_n 1, 1) := by decide +kernel
theorem dX11_codeOf_13 : decode cX11_codeOf 13 = .ok (.aload_n 0, 1) := by decide +kernel
theorem dX11_codeOf_14 : decode cX11_codeOf 14 = .ok (.getfield 19, 3) := by decide +kernel
theorem dX11_codeOf_17 : decode cX11_codeOf 17 = .ok (.arraylength, 1) := by decide +kernel
theorem dX11_codeOf_18 : decode cX11_codeOf 18 = .ok (.if_icmp .ge 12, 3) := by decide +kernel
theorem dX11_codeOf_21 : decode cX11_codeOf 21 = .ok (.aload_n 0, 1) := by decide +kernel
theorem dX11_codeOf_22 : decode cX11_codeOf 22 = .ok (.getfield 19, 3) := by decide +kernel
theorem dX11_codeOf_25 : decode cX11_codeOf 25 = .ok (.iload_n 1, 1) := by decide +kernel
theorem dX11_codeOf_26 : decode cX11_codeOf 26 = .ok (.aaload, 1) := by decide +kernel
theorem dX11_codeOf_27 : decode cX11_codeOf 27 = .ok (.goto 4, 3) := by decide +kernel
set_option maxRecDepth 20000 in
theorem k_X11_codeOf (d : Nat) {T : CT} {σ : MS} {a : Nat} {r : Int} (ha : OB T a 11) (h_r : -2147483648 ≤ r ∧ r ≤ 2147483647) (hw : WT T σ) : Tn (d + 1) m_X11_codeOf 0 T σ [(0, .ref a), (1, .int (iI r))] [] (fun ro T2 σ2 => ∃ v : Int, ro = some (vl true v) ∧ T = T2 ∧ σ = σ2 ∧ (v < 0 ∨ ∃ x : Nat, v = (x : Int) ∧ (T2 x).1 = 50)) := by
  refine tn_iload_n dX11_codeOf_0 rfl 1 rfl ?_
  refine tn_if_lt (tgt := 30) dX11_codeOf_1 (by decide) ⟨by omega, by omega⟩ (fun h1 => ?_) (fun h1 => ?_)
  · refine tn_null dX11_codeOf_30 ?_
    exact tn_aret rfl (Or.inl ⟨_, rfl⟩) (Or.inl rfl) dX11_codeOf_31 ⟨-1, congrArg some (vl_null (by decide)).symm, rfl, rfl, Or.inl (by decide)⟩
  · refine tn_iload_n dX11_codeOf_4 rfl 1 rfl ?_
    refine tn_aload_n dX11_codeOf_5 rfl 0 rfl ?_
    refine tn_getI (ci := 11) (i := 2) (n := 97) (t := σ.2.1 97 a) dX11_codeOf_6 rfl lay_11 (by decide) fl11_116 ha rfl rfl (rfl) ?_
    have g2 : ((0 : Int) ≤ σ.2.1 97 a ∧ σ.2.1 97 a ≤ 6) := wf_97 hw ha
    refine tn_icmp_ge (tgt := 30) dX11_codeOf_9 (by decide) ⟨by omega, by omega⟩ ⟨by omega, by omega⟩ (fun h3 => ?_) (fun h3 => ?_)
    · refine tn_null dX11_codeOf_30 ?_
      exact tn_aret rfl (Or.inl ⟨_, rfl⟩) (Or.inl rfl) dX11_codeOf_31 ⟨-1, congrArg some (vl_null (by decide)).symm, rfl, rfl, Or.inl (by decide)⟩
    · refine tn_iload_n dX11_codeOf_12 rfl 1 rfl ?_
      refine tn_aload_n dX11_codeOf_13 rfl 0 rfl ?_
      obtain ⟨x4, hx5, hk6, hl7⟩ : ∃ x : Nat, σ.2.1 99 a = (x : Int) ∧ AR T x 5 6 6 := wf_99 hw ha
      have hk6i : (T x4).1 = 4 ∨ (T x4).1 = 5 := by omega
      refine tn_getR (ci := 11) (i := 4) (n := 99) (x := x4) dX11_codeOf_14 rfl lay_11 (by decide) fl11_19 ha rfl rfl (hx5) ?_
      refine tn_alenX dX11_codeOf_17 (by have q9 := hk6i; omega) ?_
      refine tn_icmp_ge (tgt := 30) dX11_codeOf_18 (by decide) ⟨by omega, by omega⟩ ⟨by omega, by omega⟩ (fun h8 => absurd h8 (by omega)) (fun h8 => ?_)
      refine tn_aload_n dX11_codeOf_21 rfl 0 rfl ?_
      refine tn_getR (ci := 11) (i := 4) (n := 99) (x := x4) dX11_codeOf_22 rfl lay_11 (by decide) fl11_19 ha rfl rfl (hx5) ?_
      refine tn_iload_n dX11_codeOf_25 rfl 1 rfl ?_
      obtain ⟨x9, hx10, hk11⟩ := (hw).2.2.2.1.2 x4 hk6 (r) (by omega) (by omega)
      refine tn_aald (z := r) (x := x9) dX11_codeOf_26 hk6i (by omega) (by omega) (by omega) hx10 ?_
      have hk11o : OB T x9 1 := ⟨by omega, by rw [hk11]; rfl, by omega⟩
      refine tn_goto (tgt := 31) dX11_codeOf_27 (by decide) ?_
      exact tn_aret rfl (Or.inl ⟨_, rfl⟩) (Or.inr ⟨_, rfl⟩) dX11_codeOf_31 ⟨(x9 : Int), congrArg some (vl_ref rfl).symm, rfl, rfl, Or.inr ⟨_, rfl, hk11⟩⟩
end
section
theorem cd_X11_routine : Cond.code yX11_routine cX11_routine 4 (some .int) ∈ pWW := pw4 (List.mem_of_getElem? (i := 58) rfl) rfl
abbrev m_X11_routine : MT := (yX11_routine, cX11_routine, 4, (some .int))
theorem ok_X11_routine : pOk m_X11_routine := ⟨⟨cd_X11_routine, ini_11⟩, by decide +kernel, ⟨by decide +kernel, by decide +kernel⟩, Nat.le_of_ble_eq_true rfl⟩
theorem np_X11_routine : (parseMethodDescriptor yX11_routine.desc).map (fun d => d.parameters.length) = some 2 := by decide +kernel
theorem im_X11_routine : Cond.instanceMethod yX11_routine ∈ pWW := pw4 (List.mem_of_getElem? (i := 56) rfl) rfl
theorem se_X11_routine : Cond.selects RX11 yX11_routine yX11_routine ∈ pWW := pw4 (List.mem_of_getElem? (i := 57) rfl) rfl
theorem ml11_123 : Cond.methodLink RX11 123 yX11_codeOf ∈ pWW := pw4 (List.mem_of_getElem? (i := 59) rfl) rfl
theorem fl11_134 : Cond.fieldLink RX11 134 (TX1 2).1 (TX1 2).2.1 (TX1 2).2.2.1 ∈ pWW := pw1 (List.mem_of_getElem? (i := 89) rfl) rfl
theorem ml11_149 : Cond.methodLink RX11 149 yX1_homeOf ∈ pWW := pw4 (List.mem_of_getElem? (i := 84) rfl) rfl
theorem fl11_127 : Cond.fieldLink RX11 127 (TX1 1).1 (TX1 1).2.1 (TX1 1).2.2.1 ∈ pWW := pw1 (List.mem_of_getElem? (i := 84) rfl) rfl
theorem ml11_130 : Cond.methodLink RX11 130 yX1_acts ∈ pWW := pw4 (List.mem_of_getElem? (i := 63) rfl) rfl
theorem fl11_137 : Cond.fieldLink RX11 137 (TX1 3).1 (TX1 3).2.1 (TX1 3).2.2.1 ∈ pWW := pw1 (List.mem_of_getElem? (i := 96) rfl) rfl
theorem ml11_140 : Cond.methodLink RX11 140 yX1_registers ∈ pWW := pw4 (List.mem_of_getElem? (i := 70) rfl) rfl
theorem fl11_143 : Cond.fieldLink RX11 143 (TX1 5).1 (TX1 5).2.1 (TX1 5).2.2.1 ∈ pWW := pw1 (List.mem_of_getElem? (i := 105) rfl) rfl
theorem fl11_146 : Cond.fieldLink RX11 146 (TX1 4).1 (TX1 4).2.1 (TX1 4).2.2.1 ∈ pWW := pw1 (List.mem_of_getElem? (i := 100) rfl) rfl
theorem dX11_routine_0 : decode cX11_routine 0 = .ok (.aload_n 0, 1) := by decide +kernel
theorem dX11_routine_1 : decode cX11_routine 1 = .ok (.iload_n 1, 1) := by decide +kernel
theorem dX11_routine_2 : decode cX11_routine 2 = .ok (.invokevirtual 123, 3) := by decide +kernel
theorem dX11_routine_5 : decode cX11_routine 5 = .ok (.astore_n 3, 1) := by decide +kernel
theorem dX11_routine_6 : decode cX11_routine 6 = .ok (.aload_n 3, 1) := by decide +kernel
theorem dX11_routine_7 : decode cX11_routine 7 = .ok (.ifnull 7, 3) := by decide +kernel
theorem dX11_routine_14 : decode cX11_routine 14 = .ok (.iconst (-1), 1) := by decide +kernel
theorem dX11_routine_15 : decode cX11_routine 15 = .ok (.ireturn, 1) := by decide +kernel
theorem dX11_routine_10 : decode cX11_routine 10 = .ok (.iload_n 2, 1) := by decide +kernel
theorem dX11_routine_11 : decode cX11_routine 11 = .ok (.ifCond .ge 5, 3) := by decide +kernel
theorem dX11_routine_16 : decode cX11_routine 16 = .ok (.iload_n 2, 1) := by decide +kernel
theorem dX11_routine_17 : decode cX11_routine 17 = .ok (.tableswitch 78 0 6 #[43, 48, 53, 58, 63, 68, 73], 43) := by decide +kernel
theorem dX11_routine_95 : decode cX11_routine 95 = .ok (.iload_n 2, 1) := by decide +kernel
theorem dX11_routine_96 : decode cX11_routine 96 = .ok (.bipush 7, 2) := by decide +kernel
theorem dX11_routine_98 : decode cX11_routine 98 = .ok (.isub, 1) := by decide +kernel
theorem dX11_routine_99 : decode cX11_routine 99 = .ok (.aload_n 3, 1) := by decide +kernel
theorem dX11_routine_100 : decode cX11_routine 100 = .ok (.getfield 134, 3) := by decide +kernel
theorem dX11_routine_103 : decode cX11_routine 103 = .ok (.if_icmp .ge 15, 3) := by decide +kernel
theorem dX11_routine_118 : decode cX11_routine 118 = .ok (.iconst (-1), 1) := by decide +kernel
theorem dX11_routine_119 : decode cX11_routine 119 = .ok (.ireturn, 1) := by decide +kernel
theorem dX11_routine_106 : decode cX11_routine 106 = .ok (.aload_n 3, 1) := by decide +kernel
theorem dX11_routine_107 : decode cX11_routine 107 = .ok (.iconst 0, 1) := by decide +kernel
theorem dX11_routine_108 : decode cX11_routine 108 = .ok (.iload_n 2, 1) := by decide +kernel
theorem dX11_routine_109 : decode cX11_routine 109 = .ok (.bipush 7, 2) := by decide +kernel
theorem dX11_routine_111 : decode cX11_routine 111 = .ok (.isub, 1) := by decide +kernel
theorem dX11_routine_112 : decode cX11_routine 112 = .ok (.invokevirtual 149, 3) := by decide +kernel
theorem dX11_routine_115 : decode cX11_routine 115 = .ok (.goto 4, 3) := by decide +kernel
theorem dX11_routine_60 : decode cX11_routine 60 = .ok (.aload_n 3, 1) := by decide +kernel
theorem dX11_routine_61 : decode cX11_routine 61 = .ok (.getfield 127, 3) := by decide +kernel
theorem dX11_routine_64 : decode cX11_routine 64 = .ok (.ireturn, 1) := by decide +kernel
theorem dX11_routine_65 : decode cX11_routine 65 = .ok (.aload_n 3, 1) := by decide +kernel
theorem dX11_routine_66 : decode cX11_routine 66 = .ok (.invokevirtual 130, 3) := by decide +kernel
theorem dX11_routine_69 : decode cX11_routine 69 = .ok (.ireturn, 1) := by decide +kernel
theorem dX11_routine_70 : decode cX11_routine 70 = .ok (.aload_n 3, 1) := by decide +kernel
theorem dX11_routine_71 : decode cX11_routine 71 = .ok (.getfield 134, 3) := by decide +kernel
theorem dX11_routine_74 : decode cX11_routine 74 = .ok (.ireturn, 1) := by decide +kernel
theorem dX11_routine_75 : decode cX11_routine 75 = .ok (.aload_n 3, 1) := by decide +kernel
theorem dX11_routine_76 : decode cX11_routine 76 = .ok (.getfield 137, 3) := by decide +kernel
theorem dX11_routine_79 : decode cX11_routine 79 = .ok (.ireturn, 1) := by decide +kernel
theorem dX11_routine_80 : decode cX11_routine 80 = .ok (.aload_n 3, 1) := by decide +kernel
theorem dX11_routine_81 : decode cX11_routine 81 = .ok (.invokevirtual 140, 3) := by decide +kernel
theorem dX11_routine_84 : decode cX11_routine 84 = .ok (.ireturn, 1) := by decide +kernel
theorem dX11_routine_85 : decode cX11_routine 85 = .ok (.aload_n 3, 1) := by decide +kernel
theorem dX11_routine_86 : decode cX11_routine 86 = .ok (.getfield 143, 3) := by decide +kernel
theorem dX11_routine_89 : decode cX11_routine 89 = .ok (.ireturn, 1) := by decide +kernel
theorem dX11_routine_90 : decode cX11_routine 90 = .ok (.aload_n 3, 1) := by decide +kernel
theorem dX11_routine_91 : decode cX11_routine 91 = .ok (.getfield 146, 3) := by decide +kernel
theorem dX11_routine_94 : decode cX11_routine 94 = .ok (.ireturn, 1) := by decide +kernel
end
section
theorem cd_X11_item : Cond.code yX11_item cX11_item 5 (some .int) ∈ pWW := pw4 (List.mem_of_getElem? (i := 88) rfl) rfl
abbrev m_X11_item : MT := (yX11_item, cX11_item, 5, (some .int))
theorem ok_X11_item : pOk m_X11_item := ⟨⟨cd_X11_item, ini_11⟩, by decide +kernel, ⟨by decide +kernel, by decide +kernel⟩, Nat.le_of_ble_eq_true rfl⟩
theorem np_X11_item : (parseMethodDescriptor yX11_item.desc).map (fun d => d.parameters.length) = some 3 := by decide +kernel
theorem im_X11_item : Cond.instanceMethod yX11_item ∈ pWW := pw4 (List.mem_of_getElem? (i := 86) rfl) rfl
theorem se_X11_item : Cond.selects RX11 yX11_item yX11_item ∈ pWW := pw4 (List.mem_of_getElem? (i := 87) rfl) rfl
theorem fl11_152 : Cond.fieldLink RX11 152 "LineKeeper" "ASKED" "[I" ∈ pWW := pw4 (List.mem_of_getElem? (i := 89) rfl) rfl
theorem ml11_156 : Cond.methodLink RX11 156 yX1_get ∈ pWW := pw4 (List.mem_of_getElem? (i := 91) rfl) rfl
theorem dX11_item_0 : decode cX11_item 0 = .ok (.aload_n 0, 1) := by decide +kernel
theorem dX11_item_1 : decode cX11_item 1 = .ok (.iload_n 1, 1) := by decide +kernel
theorem dX11_item_2 : decode cX11_item 2 = .ok (.invokevirtual 123, 3) := by decide +kernel
theorem dX11_item_5 : decode cX11_item 5 = .ok (.astore 4, 2) := by decide +kernel
theorem dX11_item_7 : decode cX11_item 7 = .ok (.aload 4, 2) := by decide +kernel
theorem dX11_item_9 : decode cX11_item 9 = .ok (.ifnull 28, 3) := by decide +kernel
theorem dX11_item_37 : decode cX11_item 37 = .ok (.iconst (-1), 1) := by decide +kernel
theorem dX11_item_38 : decode cX11_item 38 = .ok (.ireturn, 1) := by decide +kernel
theorem dX11_item_12 : decode cX11_item 12 = .ok (.iload_n 2, 1) := by decide +kernel
theorem dX11_item_13 : decode cX11_item 13 = .ok (.ifCond .lt 24, 3) := by decide +kernel
theorem dX11_item_16 : decode cX11_item 16 = .ok (.iload_n 2, 1) := by decide +kernel
theorem dX11_item_17 : decode cX11_item 17 = .ok (.aload 4, 2) := by decide +kernel
theorem dX11_item_19 : decode cX11_item 19 = .ok (.getfield 127, 3) := by decide +kernel
theorem dX11_item_22 : decode cX11_item 22 = .ok (.if_icmp .ge 15, 3) := by decide +kernel
theorem dX11_item_25 : decode cX11_item 25 = .ok (.iload_n 3, 1) := by decide +kernel
theorem dX11_item_26 : decode cX11_item 26 = .ok (.ifCond .lt 11, 3) := by decide +kernel
theorem dX11_item_29 : decode cX11_item 29 = .ok (.iload_n 3, 1) := by decide +kernel
theorem dX11_item_30 : decode cX11_item 30 = .ok (.getstatic 152, 3) := by decide +kernel
theorem dX11_item_33 : decode cX11_item 33 = .ok (.arraylength, 1) := by decide +kernel
theorem dX11_item_34 : decode cX11_item 34 = .ok (.if_icmp .lt 5, 3) := by decide +kernel
theorem dX11_item_39 : decode cX11_item 39 = .ok (.aload 4, 2) := by decide +kernel
theorem dX11_item_41 : decode cX11_item 41 = .ok (.iload_n 2, 1) := by decide +kernel
theorem dX11_item_42 : decode cX11_item 42 = .ok (.getstatic 152, 3) := by decide +kernel
theorem dX11_item_45 : decode cX11_item 45 = .ok (.iload_n 3, 1) := by decide +kernel
theorem dX11_item_46 : decode cX11_item 46 = .ok (.iaload, 1) := by decide +kernel
theorem dX11_item_47 : decode cX11_item 47 = .ok (.invokevirtual 156, 3) := by decide +kernel
theorem dX11_item_50 : decode cX11_item 50 = .ok (.ireturn, 1) := by decide +kernel
set_option maxRecDepth 20000 in
theorem k_X11_item (d : Nat) {T : CT} {σ : MS} {a : Nat} {r : Int} {k : Int} {w : Int} (ha : OB T a 11) (h_r : -2147483648 ≤ r ∧ r ≤ 2147483647) (h_k : -2147483648 ≤ k ∧ k ≤ 2147483647) (h_w : -2147483648 ≤ w ∧ w ≤ 2147483647) (hw : WT T σ) : Tn (d + 2) m_X11_item 0 T σ [(0, .ref a), (1, .int (iI r)), (2, .int (iI k)), (3, .int (iI w))] [] (fun ro T2 σ2 => ∃ v : Int, ro = some (.int (iI v)) ∧ T = T2 ∧ σ = σ2 ∧ (-2147483648 ≤ v ∧ v ≤ 2147483647)) := by
  refine tn_aload_n dX11_item_0 rfl 0 rfl ?_
  refine tn_iload_n dX11_item_1 rfl 1 rfl ?_
  refine tn_callV (M := m_X11_item) (pc := 2) (ix := 123) (ci := 11) (M' := m_X11_codeOf) (As := [.int (iI r)]) (rest := []) dX11_item_2 ok_X11_codeOf im_X11_codeOf se_X11_codeOf ml11_123 np_X11_codeOf rfl rfl ha rfl (Nat.le_of_ble_eq_true rfl) (Nat.le_of_ble_eq_true rfl) rfl (k_X11_codeOf (d) (T := T) (σ := σ) (a := a) (r := r) ha (by omega) hw ) (fun r1 T3 σ2 gt4 hp => ?_)
  obtain ⟨v5, rfl, rfl, rfl, rv6⟩ := hp
  clear gt4
  rcases rv6 with rv6 | ⟨x7, rfl, hk8⟩
  · show Tn _ _ 5 T σ [(0, .ref a), (1, .int (iI r)), (2, .int (iI k)), (3, .int (iI w))] (vl true v5 :: []) _
    rw [vl_null rv6]
    refine tn_astoreN (L' := [(4, .null), (0, .ref a), (1, .int (iI r)), (2, .int (iI k)), (3, .int (iI w))]) dX11_item_5 (by decide) rfl ?_
    refine tn_aloadN dX11_item_7 0 rfl ?_
    refine tn_ifnullN (tgt := 37) dX11_item_9 (by decide) ?_
    refine tn_iconst dX11_item_37 ?_
    exact tn_iret rfl dX11_item_38 ⟨_, rfl, rfl, rfl, by omega⟩
  · show Tn _ _ 5 T σ [(0, .ref a), (1, .int (iI r)), (2, .int (iI k)), (3, .int (iI w))] (vl true (x7 : Int) :: []) _
    rw [vl_ref rfl]
    have hk8o : OB T x7 1 := ⟨by omega, by rw [hk8]; rfl, by omega⟩
    refine tn_astore (L' := [(4, .ref x7), (0, .ref a), (1, .int (iI r)), (2, .int (iI k)), (3, .int (iI w))]) dX11_item_5 (by decide) rfl ?_
    refine tn_aload dX11_item_7 0 rfl ?_
    refine tn_ifnull dX11_item_9 ?_
    refine tn_iload_n dX11_item_12 rfl 3 rfl ?_
    refine tn_if_lt (tgt := 37) dX11_item_13 (by decide) ⟨by omega, by omega⟩ (fun h9 => ?_) (fun h9 => ?_)
    · refine tn_iconst dX11_item_37 ?_
      exact tn_iret rfl dX11_item_38 ⟨_, rfl, rfl, rfl, by omega⟩
    · refine tn_iload_n dX11_item_16 rfl 3 rfl ?_
      refine tn_aload dX11_item_17 0 rfl ?_
      refine tn_getI (ci := 1) (i := 1) (n := 6) (t := σ.2.1 6 x7) dX11_item_19 rfl lay_1 (by decide) fl11_127 hk8o rfl rfl (rfl) ?_
      have g10 : ((0 : Int) ≤ σ.2.1 6 x7 ∧ σ.2.1 6 x7 ≤ 5000) ∧ ((T x7).1 = 50 → σ.2.1 6 x7 ≤ 200) := wf_6 hw hk8o
      have g10x := g10.2
      replace g10 := g10.1
      have g10x := g10x hk8
      refine tn_icmp_ge (tgt := 37) dX11_item_22 (by decide) ⟨by omega, by omega⟩ ⟨by omega, by omega⟩ (fun h11 => ?_) (fun h11 => ?_)
      · refine tn_iconst dX11_item_37 ?_
        exact tn_iret rfl dX11_item_38 ⟨_, rfl, rfl, rfl, by omega⟩
      · refine tn_iload_n dX11_item_25 rfl 4 rfl ?_
        refine tn_if_lt (tgt := 37) dX11_item_26 (by decide) ⟨by omega, by omega⟩ (fun h12 => ?_) (fun h12 => ?_)
        · refine tn_iconst dX11_item_37 ?_
          exact tn_iret rfl dX11_item_38 ⟨_, rfl, rfl, rfl, by omega⟩
        · refine tn_iload_n dX11_item_29 rfl 4 rfl ?_
          refine tn_stLen st_ak dX11_item_30 fl11_152 dX11_item_33 ?_
          show Tn _ _ 34 T σ [(4, .ref x7), (0, .ref a), (1, .int (iI r)), (2, .int (iI k)), (3, .int (iI w))] (.int (iI 8) :: [.int (iI w)]) _
          refine tn_icmp_lt (tgt := 39) dX11_item_34 (by decide) ⟨by omega, by omega⟩ ⟨by decide, by decide⟩ (fun h13 => ?_) (fun h13 => ?_)
          · refine tn_aload dX11_item_39 0 rfl ?_
            refine tn_iload_n dX11_item_41 rfl 3 rfl ?_
            refine tn_stInt (z := w) st_ak dX11_item_42 fl11_152 (Or.inl ⟨_, rfl, rfl, dX11_item_45⟩) (q := 4) rfl dX11_item_46 (by omega) (by omega) (by decide) (fun v14 g15 => ?_)
            have g15r := ak_rng g15
            clear g15
            show Tn _ _ 47 T σ [(4, .ref x7), (0, .ref a), (1, .int (iI r)), (2, .int (iI k)), (3, .int (iI w))] [.int (iI v14), .int (iI k), .ref x7] _
            refine tn_callV (M := m_X11_item) (pc := 47) (ix := 156) (ci := 1) (M' := m_X1_get) (As := [.int (iI k), .int (iI v14)]) (rest := []) dX11_item_47 ok_X1_get im_X1_get se_X1_get ml11_156 np_X1_get rfl rfl hk8o rfl (Nat.le_of_ble_eq_true rfl) (Nat.le_of_ble_eq_true rfl) rfl (k_X1_get (d) (T := T) (σ := σ) (a := x7) (k := k) (c := v14) hk8o (by omega) (by omega) hw (by omega)) (fun r16 T18 σ17 gt19 hp => ?_)
            obtain ⟨v21, rfl, rfl, rfl, f20⟩ := hp
            clear gt19
            show Tn _ _ 50 T σ [(4, .ref x7), (0, .ref a), (1, .int (iI r)), (2, .int (iI k)), (3, .int (iI w))] [.int (iI v21)] _
            exact tn_iret rfl dX11_item_50 ⟨_, rfl, rfl, rfl, by omega⟩
          · refine tn_iconst dX11_item_37 ?_
            exact tn_iret rfl dX11_item_38 ⟨_, rfl, rfl, rfl, by omega⟩
end
