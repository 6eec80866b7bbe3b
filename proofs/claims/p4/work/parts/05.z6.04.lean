theorem cd_X11_fault : Cond.code yX11_fault cX11_fault 2 (some .int) ∈ pWW := pw4 (List.mem_of_getElem? (i := 54) rfl) rfl
abbrev m_X11_fault : MT := (yX11_fault, cX11_fault, 2, (some .int))
theorem ok_X11_fault : pOk m_X11_fault := ⟨⟨cd_X11_fault, ini_11⟩, by decide +kernel, ⟨by decide +kernel, by decide +kernel⟩, Nat.le_of_ble_eq_true rfl⟩
theorem np_X11_fault : (parseMethodDescriptor yX11_fault.desc).map (fun d => d.parameters.length) = some 1 := by decide +kernel
theorem im_X11_fault : Cond.instanceMethod yX11_fault ∈ pWW := pw4 (List.mem_of_getElem? (i := 52) rfl) rfl
theorem se_X11_fault : Cond.selects RX11 yX11_fault yX11_fault ∈ pWW := pw4 (List.mem_of_getElem? (i := 53) rfl) rfl
theorem fl11_43 : Cond.fieldLink RX11 43 (TX11 10).1 (TX11 10).2.1 (TX11 10).2.2.1 ∈ pWW := pw2 (List.mem_of_getElem? (i := 206) rfl) rfl
theorem fl11_101 : Cond.fieldLink RX11 101 (TX11 9).1 (TX11 9).2.1 (TX11 9).2.2.1 ∈ pWW := pw2 (List.mem_of_getElem? (i := 205) rfl) rfl
theorem dX11_fault_0 : decode cX11_fault 0 = .ok (.iload_n 1, 1) := by decide +kernel
theorem dX11_fault_1 : decode cX11_fault 1 = .ok (.ifCond .ne 8, 3) := by decide +kernel
theorem dX11_fault_9 : decode cX11_fault 9 = .ok (.iload_n 1, 1) := by decide +kernel
theorem dX11_fault_10 : decode cX11_fault 10 = .ok (.iconst 1, 1) := by decide +kernel
theorem dX11_fault_11 : decode cX11_fault 11 = .ok (.if_icmp .ne 10, 3) := by decide +kernel
theorem dX11_fault_21 : decode cX11_fault 21 = .ok (.iconst (-1), 1) := by decide +kernel
theorem dX11_fault_22 : decode cX11_fault 22 = .ok (.ireturn, 1) := by decide +kernel
theorem dX11_fault_14 : decode cX11_fault 14 = .ok (.aload_n 0, 1) := by decide +kernel
theorem dX11_fault_15 : decode cX11_fault 15 = .ok (.getfield 43, 3) := by decide +kernel
theorem dX11_fault_18 : decode cX11_fault 18 = .ok (.goto 4, 3) := by decide +kernel
theorem dX11_fault_4 : decode cX11_fault 4 = .ok (.aload_n 0, 1) := by decide +kernel
theorem dX11_fault_5 : decode cX11_fault 5 = .ok (.getfield 101, 3) := by decide +kernel
theorem dX11_fault_8 : decode cX11_fault 8 = .ok (.ireturn, 1) := by decide +kernel
set_option maxRecDepth 20000 in
theorem k_X11_fault (d : Nat) {T : CT} {σ : MS} {a : Nat} {w : Int} (ha : OB T a 11) (h_w : -2147483648 ≤ w ∧ w ≤ 2147483647) (hw : WT T σ) : Tn (d + 1) m_X11_fault 0 T σ [(0, .ref a), (1, .int (iI w))] [] (fun ro T2 σ2 => ∃ v : Int, ro = some (.int (iI v)) ∧ T = T2 ∧ σ = σ2 ∧ (-2147483648 ≤ v ∧ v ≤ 2147483647)) := by
  refine tn_iload_n dX11_fault_0 rfl 1 rfl ?_
  refine tn_if_ne (tgt := 9) dX11_fault_1 (by decide) ⟨by omega, by omega⟩ (fun h1 => ?_) (fun h1 => ?_)
  · refine tn_iload_n dX11_fault_9 rfl 1 rfl ?_
    refine tn_iconst dX11_fault_10 ?_
    refine tn_icmp_ne (tgt := 21) dX11_fault_11 (by decide) ⟨by omega, by omega⟩ ⟨by decide, by decide⟩ (fun h2 => ?_) (fun h2 => ?_)
    · refine tn_iconst dX11_fault_21 ?_
      exact tn_iret rfl dX11_fault_22 ⟨_, rfl, rfl, rfl, by omega⟩
    · refine tn_aload_n dX11_fault_14 rfl 0 rfl ?_
      refine tn_getI (ci := 11) (i := 10) (n := 105) (t := σ.2.1 105 a) dX11_fault_15 rfl lay_11 (by decide) fl11_43 ha rfl rfl (rfl) ?_
      have g3 : ((-2147483648 : Int) ≤ σ.2.1 105 a ∧ σ.2.1 105 a ≤ 2147483647) := wf_105 hw ha
      refine tn_goto (tgt := 22) dX11_fault_18 (by decide) ?_
      exact tn_iret rfl dX11_fault_22 ⟨_, rfl, rfl, rfl, by omega⟩
  · refine tn_aload_n dX11_fault_4 rfl 0 rfl ?_
    refine tn_getI (ci := 11) (i := 9) (n := 104) (t := σ.2.1 104 a) dX11_fault_5 rfl lay_11 (by decide) fl11_101 ha rfl rfl (rfl) ?_
    have g4 : ((-2147483648 : Int) ≤ σ.2.1 104 a ∧ σ.2.1 104 a ≤ 2147483647) := wf_104 hw ha
    exact tn_iret rfl dX11_fault_8 ⟨_, rfl, rfl, rfl, by omega⟩
