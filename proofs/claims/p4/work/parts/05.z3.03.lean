theorem cd_X5_note : Cond.code yX5_note cX5_note 3 none ∈ pWW := pw3 (List.mem_of_getElem? (i := 83) rfl) rfl
abbrev m_X5_note : MT := (yX5_note, cX5_note, 3, none)
theorem ok_X5_note : pOk m_X5_note := ⟨⟨cd_X5_note, ini_5⟩, by decide +kernel, ⟨by decide +kernel, by decide +kernel⟩, Nat.le_of_ble_eq_true rfl⟩
theorem np_X5_note : (parseMethodDescriptor yX5_note.desc).map (fun d => d.parameters.length) = some 2 := by decide +kernel
theorem im_X5_note : Cond.instanceMethod yX5_note ∈ pWW := pw3 (List.mem_of_getElem? (i := 82) rfl) rfl
theorem se_X5_note : Cond.selects RX5 yX5_note yX5_note ∈ pWW := pws (List.mem_map.mpr ⟨_, lw_pin 8 rfl, rfl⟩) rfl
theorem dX5_note_0 : decode cX5_note 0 = .ok (.aload_n 0, 1) := by decide +kernel
theorem dX5_note_1 : decode cX5_note 1 = .ok (.getfield 51, 3) := by decide +kernel
theorem dX5_note_4 : decode cX5_note 4 = .ok (.ifCond .eq 27, 3) := by decide +kernel
theorem dX5_note_31 : decode cX5_note 31 = .ok (.aload_n 0, 1) := by decide +kernel
theorem dX5_note_32 : decode cX5_note 32 = .ok (.iload_n 1, 1) := by decide +kernel
theorem dX5_note_33 : decode cX5_note 33 = .ok (.putfield 51, 3) := by decide +kernel
theorem dX5_note_36 : decode cX5_note 36 = .ok (.aload_n 0, 1) := by decide +kernel
theorem dX5_note_37 : decode cX5_note 37 = .ok (.iload_n 2, 1) := by decide +kernel
theorem dX5_note_38 : decode cX5_note 38 = .ok (.putfield 55, 3) := by decide +kernel
theorem dX5_note_41 : decode cX5_note 41 = .ok (.return_, 1) := by decide +kernel
theorem dX5_note_7 : decode cX5_note 7 = .ok (.iload_n 2, 1) := by decide +kernel
theorem dX5_note_8 : decode cX5_note 8 = .ok (.aload_n 0, 1) := by decide +kernel
theorem dX5_note_9 : decode cX5_note 9 = .ok (.getfield 55, 3) := by decide +kernel
theorem dX5_note_12 : decode cX5_note 12 = .ok (.if_icmp .lt 19, 3) := by decide +kernel
theorem dX5_note_15 : decode cX5_note 15 = .ok (.iload_n 2, 1) := by decide +kernel
theorem dX5_note_16 : decode cX5_note 16 = .ok (.aload_n 0, 1) := by decide +kernel
theorem dX5_note_17 : decode cX5_note 17 = .ok (.getfield 55, 3) := by decide +kernel
theorem dX5_note_20 : decode cX5_note 20 = .ok (.if_icmp .ne 21, 3) := by decide +kernel
theorem dX5_note_23 : decode cX5_note 23 = .ok (.iload_n 1, 1) := by decide +kernel
theorem dX5_note_24 : decode cX5_note 24 = .ok (.aload_n 0, 1) := by decide +kernel
theorem dX5_note_25 : decode cX5_note 25 = .ok (.getfield 51, 3) := by decide +kernel
theorem dX5_note_28 : decode cX5_note 28 = .ok (.if_icmp .ge 13, 3) := by decide +kernel
set_option maxRecDepth 20000 in
theorem k_X5_note (d : Nat) {T : CT} {σ : MS} {a : Nat} {p1 : Int} {p2 : Int} (ha : OB T a 5) (h_p1 : -2147483648 ≤ p1 ∧ p1 ≤ 2147483647) (h_p2 : -2147483648 ≤ p2 ∧ p2 ≤ 2147483647) (hw : WT T σ) : Tn (d + 1) m_X5_note 0 T σ [(0, .ref a), (1, .int (iI p1)), (2, .int (iI p2))] [] (fun ro T2 σ2 => ro = none ∧ T = T2 ∧ WT T2 σ2 ∧ FrC T [43, 44] σ σ2) := by
  refine tn_aload_n dX5_note_0 rfl 0 rfl ?_
  refine tn_getI (ci := 5) (i := 10) (n := 43) (t := σ.2.1 43 a) dX5_note_1 rfl lay_5 (by decide) fl5_51 ha rfl rfl (rfl) ?_
  have g1 : ((-2147483648 : Int) ≤ σ.2.1 43 a ∧ σ.2.1 43 a ≤ 2147483647) := wf_43 hw ha
  refine tn_if_eq (tgt := 31) dX5_note_4 (by decide) ⟨by omega, by omega⟩ (fun h2 => ?_) (fun h2 => ?_)
  · refine tn_aload_n dX5_note_31 rfl 0 rfl ?_
    refine tn_iload_n dX5_note_32 rfl 1 rfl ?_
    refine tn_putV (ci := 5) (i := 10) (n := 43) (r := false) (v := p1) tyX5 tyX5_ok nmX5 dX5_note_33 rfl lay_5 (by decide) fl5_51 rfl (tyX5_ok 10 (by decide)) rfl rfl rfl ha rfl rfl ?_
    refine tn_aload_n dX5_note_36 rfl 0 rfl ?_
    refine tn_iload_n dX5_note_37 rfl 2 rfl ?_
    refine tn_putV (ci := 5) (i := 11) (n := 44) (r := false) (v := p2) tyX5 tyX5_ok nmX5 dX5_note_38 rfl lay_5 (by decide) fl5_55 rfl (tyX5_ok 11 (by decide)) rfl rfl rfl ha rfl rfl ?_
    exact tn_vret rfl dX5_note_41 ⟨rfl, rfl, ((hw.put (by decide) (by decide) (fo_43 (by omega))).put (by decide) (by decide) (fo_44 (by omega))), ((FrC.rfl.put (by decide) (by decide)).put (by decide) (by decide))⟩
  · refine tn_iload_n dX5_note_7 rfl 2 rfl ?_
    refine tn_aload_n dX5_note_8 rfl 0 rfl ?_
    refine tn_getI (ci := 5) (i := 11) (n := 44) (t := σ.2.1 44 a) dX5_note_9 rfl lay_5 (by decide) fl5_55 ha rfl rfl (rfl) ?_
    have g3 : ((-2147483648 : Int) ≤ σ.2.1 44 a ∧ σ.2.1 44 a ≤ 2147483647) := wf_44 hw ha
    refine tn_icmp_lt (tgt := 31) dX5_note_12 (by decide) ⟨by omega, by omega⟩ ⟨by omega, by omega⟩ (fun h4 => ?_) (fun h4 => ?_)
    · refine tn_aload_n dX5_note_31 rfl 0 rfl ?_
      refine tn_iload_n dX5_note_32 rfl 1 rfl ?_
      refine tn_putV (ci := 5) (i := 10) (n := 43) (r := false) (v := p1) tyX5 tyX5_ok nmX5 dX5_note_33 rfl lay_5 (by decide) fl5_51 rfl (tyX5_ok 10 (by decide)) rfl rfl rfl ha rfl rfl ?_
      refine tn_aload_n dX5_note_36 rfl 0 rfl ?_
      refine tn_iload_n dX5_note_37 rfl 2 rfl ?_
      refine tn_putV (ci := 5) (i := 11) (n := 44) (r := false) (v := p2) tyX5 tyX5_ok nmX5 dX5_note_38 rfl lay_5 (by decide) fl5_55 rfl (tyX5_ok 11 (by decide)) rfl rfl rfl ha rfl rfl ?_
      exact tn_vret rfl dX5_note_41 ⟨rfl, rfl, ((hw.put (by decide) (by decide) (fo_43 (by omega))).put (by decide) (by decide) (fo_44 (by omega))), ((FrC.rfl.put (by decide) (by decide)).put (by decide) (by decide))⟩
    · refine tn_iload_n dX5_note_15 rfl 2 rfl ?_
      refine tn_aload_n dX5_note_16 rfl 0 rfl ?_
      refine tn_getI (ci := 5) (i := 11) (n := 44) (t := σ.2.1 44 a) dX5_note_17 rfl lay_5 (by decide) fl5_55 ha rfl rfl (rfl) ?_
      refine tn_icmp_ne (tgt := 41) dX5_note_20 (by decide) ⟨by omega, by omega⟩ ⟨by omega, by omega⟩ (fun h5 => ?_) (fun h5 => ?_)
      · exact tn_vret rfl dX5_note_41 ⟨rfl, rfl, hw, FrC.rfl⟩
      · refine tn_iload_n dX5_note_23 rfl 1 rfl ?_
        refine tn_aload_n dX5_note_24 rfl 0 rfl ?_
        refine tn_getI (ci := 5) (i := 10) (n := 43) (t := σ.2.1 43 a) dX5_note_25 rfl lay_5 (by decide) fl5_51 ha rfl rfl (rfl) ?_
        refine tn_icmp_ge (tgt := 41) dX5_note_28 (by decide) ⟨by omega, by omega⟩ ⟨by omega, by omega⟩ (fun h6 => ?_) (fun h6 => ?_)
        · exact tn_vret rfl dX5_note_41 ⟨rfl, rfl, hw, FrC.rfl⟩
        · refine tn_aload_n dX5_note_31 rfl 0 rfl ?_
          refine tn_iload_n dX5_note_32 rfl 1 rfl ?_
          refine tn_putV (ci := 5) (i := 10) (n := 43) (r := false) (v := p1) tyX5 tyX5_ok nmX5 dX5_note_33 rfl lay_5 (by decide) fl5_51 rfl (tyX5_ok 10 (by decide)) rfl rfl rfl ha rfl rfl ?_
          refine tn_aload_n dX5_note_36 rfl 0 rfl ?_
          refine tn_iload_n dX5_note_37 rfl 2 rfl ?_
          refine tn_putV (ci := 5) (i := 11) (n := 44) (r := false) (v := p2) tyX5 tyX5_ok nmX5 dX5_note_38 rfl lay_5 (by decide) fl5_55 rfl (tyX5_ok 11 (by decide)) rfl rfl rfl ha rfl rfl ?_
          exact tn_vret rfl dX5_note_41 ⟨rfl, rfl, ((hw.put (by decide) (by decide) (fo_43 (by omega))).put (by decide) (by decide) (fo_44 (by omega))), ((FrC.rfl.put (by decide) (by decide)).put (by decide) (by decide))⟩
