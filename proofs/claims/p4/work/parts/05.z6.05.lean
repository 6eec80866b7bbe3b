theorem cd_X11_codeOf : Cond.code yX11_codeOf cX11_codeOf 2 (some (.object "LineKeeper$Code")) ∈ pWW := pw4 (List.mem_of_getElem? (i := 62) rfl) rfl
abbrev m_X11_codeOf : MT := (yX11_codeOf, cX11_codeOf, 2, (some (.object "LineKeeper$Code")))
theorem ok_X11_codeOf : pOk m_X11_codeOf := ⟨⟨cd_X11_codeOf, ini_11⟩, by decide +kernel, ⟨by decide +kernel, by decide +kernel⟩, Nat.le_of_ble_eq_true rfl⟩
theorem np_X11_codeOf : (parseMethodDescriptor yX11_codeOf.desc).map (fun d => d.parameters.length) = some 1 := by decide +kernel
theorem im_X11_codeOf : Cond.instanceMethod yX11_codeOf ∈ pWW := pw4 (List.mem_of_getElem? (i := 61) rfl) rfl
theorem se_X11_codeOf : Cond.selects RX11 yX11_codeOf yX11_codeOf ∈ pWW := pws (List.mem_map.mpr ⟨_, lw_pin 37 rfl, rfl⟩) rfl
theorem fl11_116 : Cond.fieldLink RX11 116 (TX11 2).1 (TX11 2).2.1 (TX11 2).2.2.1 ∈ pWW := pw2 (List.mem_of_getElem? (i := 198) rfl) rfl
theorem fl11_19 : Cond.fieldLink RX11 19 (TX11 4).1 (TX11 4).2.1 (TX11 4).2.2.1 ∈ pWW := pw2 (List.mem_of_getElem? (i := 200) rfl) rfl
theorem dX11_codeOf_0 : decode cX11_codeOf 0 = .ok (.iload_n 1, 1) := by decide +kernel
theorem dX11_codeOf_1 : decode cX11_codeOf 1 = .ok (.ifCond .lt 29, 3) := by decide +kernel
theorem dX11_codeOf_30 : decode cX11_codeOf 30 = .ok (.aconst_null, 1) := by decide +kernel
theorem dX11_codeOf_31 : decode cX11_codeOf 31 = .ok (.areturn, 1) := by decide +kernel
theorem dX11_codeOf_4 : decode cX11_codeOf 4 = .ok (.iload_n 1, 1) := by decide +kernel
theorem dX11_codeOf_5 : decode cX11_codeOf 5 = .ok (.aload_n 0, 1) := by decide +kernel
theorem dX11_codeOf_6 : decode cX11_codeOf 6 = .ok (.getfield 116, 3) := by decide +kernel
theorem dX11_codeOf_9 : decode cX11_codeOf 9 = .ok (.if_icmp .ge 21, 3) := by decide +kernel
theorem dX11_codeOf_12 : decode cX11_codeOf 12 = .ok (.iload_n 1, 1) := by decide +kernel
theorem dX11_codeOf_13 : decode cX11_codeOf 13 = .ok (.aload_n 0, 1) := by decide +kernel
theorem dX11_codeOf_14 : decode cX11_codeOf 14 = .ok (.getfield 19, 3) := by decide +kernel
theorem dX11_codeOf_17 : decode cX11_codeOf 17 = .ok (.arraylength, 1) := by decide +kernel
theorem dX11_codeOf_18 : decode cX11_codeOf 18 = .ok (.if_icmp .ge 12, 3) := by decide +kernel
theorem dX11_codeOf_21 : decode cX11_codeOf 21 = .ok (.aload_n 0, 1) := by decide +kernel
theorem dX11_codeOf_22 : decode cX11_codeOf 22 = .ok (.getfield 19, 3) := by decide +kernel
theorem dX11_codeOf_25 : decode cX11_codeOf 25 = .ok (.iload_n 1, 1) := by decide +kernel
theorem dX11_codeOf_26 : decode cX11_codeOf 26 = .ok (.aaload, 1) := by decide +kernel
theorem dX11_codeOf_27 : decode cX11_codeOf 27 = .ok (.goto 4, 3) := by decide +kernel
set_option maxRecDepth 20000 in
theorem k_X11_codeOf (d : Nat) {T : CT} {σ : MS} {a : Nat} {r : Int} (ha : OB T a 11) (h_r : -2147483648 ≤ r ∧ r ≤ 2147483647) (hw : WT T σ) : Tn (d + 1) m_X11_codeOf 0 T σ [(0, .ref a), (1, .int (iI r))] [] (fun ro T2 σ2 => ∃ v : Int, ro = some (vl true v) ∧ T = T2 ∧ σ = σ2 ∧ (v < 0 ∨ ∃ x : Nat, v = (x : Int) ∧ (T2 x).1 = 50)) := by
  refine tn_iload_n dX11_codeOf_0 rfl 1 rfl ?_
  refine tn_if_lt (tgt := 30) dX11_codeOf_1 (by decide) ⟨by omega, by omega⟩ (fun h1 => ?_) (fun h1 => ?_)
  · refine tn_null dX11_codeOf_30 ?_
    exact tn_aret rfl (Or.inl ⟨_, rfl⟩) (Or.inl rfl) dX11_codeOf_31 ⟨-1, congrArg some (vl_null (by decide)).symm, rfl, rfl, Or.inl (by decide)⟩
  · refine tn_iload_n dX11_codeOf_4 rfl 1 rfl ?_
    refine tn_aload_n dX11_codeOf_5 rfl 0 rfl ?_
    refine tn_getI (ci := 11) (i := 2) (n := 97) (t := σ.2.1 97 a) dX11_codeOf_6 rfl lay_11 (by decide) fl11_116 ha rfl rfl (rfl) ?_
    have g2 : ((0 : Int) ≤ σ.2.1 97 a ∧ σ.2.1 97 a ≤ 6) := wf_97 hw ha
    refine tn_icmp_ge (tgt := 30) dX11_codeOf_9 (by decide) ⟨by omega, by omega⟩ ⟨by omega, by omega⟩ (fun h3 => ?_) (fun h3 => ?_)
    · refine tn_null dX11_codeOf_30 ?_
      exact tn_aret rfl (Or.inl ⟨_, rfl⟩) (Or.inl rfl) dX11_codeOf_31 ⟨-1, congrArg some (vl_null (by decide)).symm, rfl, rfl, Or.inl (by decide)⟩
    · refine tn_iload_n dX11_codeOf_12 rfl 1 rfl ?_
      refine tn_aload_n dX11_codeOf_13 rfl 0 rfl ?_
      obtain ⟨x4, hx5, hk6, hl7⟩ : ∃ x : Nat, σ.2.1 99 a = (x : Int) ∧ AR T x 5 6 6 := wf_99 hw ha
      have hk6i : (T x4).1 = 4 ∨ (T x4).1 = 5 := by omega
      refine tn_getR (ci := 11) (i := 4) (n := 99) (x := x4) dX11_codeOf_14 rfl lay_11 (by decide) fl11_19 ha rfl rfl (hx5) ?_
      refine tn_alenX dX11_codeOf_17 (by have q9 := hk6i; omega) ?_
      refine tn_icmp_ge (tgt := 30) dX11_codeOf_18 (by decide) ⟨by omega, by omega⟩ ⟨by omega, by omega⟩ (fun h8 => absurd h8 (by omega)) (fun h8 => ?_)
      refine tn_aload_n dX11_codeOf_21 rfl 0 rfl ?_
      refine tn_getR (ci := 11) (i := 4) (n := 99) (x := x4) dX11_codeOf_22 rfl lay_11 (by decide) fl11_19 ha rfl rfl (hx5) ?_
      refine tn_iload_n dX11_codeOf_25 rfl 1 rfl ?_
      obtain ⟨x9, hx10, hk11⟩ := (hw).2.2.2.1.2 x4 hk6 (r) (by omega) (by omega)
      refine tn_aald (z := r) (x := x9) dX11_codeOf_26 hk6i (by omega) (by omega) (by omega) hx10 ?_
      have hk11o : OB T x9 1 := ⟨by omega, by rw [hk11]; rfl, by omega⟩
      refine tn_goto (tgt := 31) dX11_codeOf_27 (by decide) ?_
      exact tn_aret rfl (Or.inl ⟨_, rfl⟩) (Or.inr ⟨_, rfl⟩) dX11_codeOf_31 ⟨(x9 : Int), congrArg some (vl_ref rfl).symm, rfl, rfl, Or.inr ⟨_, rfl, hk11⟩⟩
