theorem cd_X1_hasName : Cond.code yX1_hasName cX1_hasName 3 (some .boolean) ∈ pWW := pw4 (List.mem_of_getElem? (i := 104) rfl) rfl
abbrev m_X1_hasName : MT := (yX1_hasName, cX1_hasName, 3, (some .boolean))
theorem ok_X1_hasName : pOk m_X1_hasName := ⟨⟨cd_X1_hasName, ini_1⟩, by decide +kernel, ⟨by decide +kernel, by decide +kernel⟩, Nat.le_of_ble_eq_true rfl⟩
theorem np_X1_hasName : (parseMethodDescriptor yX1_hasName.desc).map (fun d => d.parameters.length) = some 2 := by decide +kernel
theorem im_X1_hasName : Cond.instanceMethod yX1_hasName ∈ pWW := pw4 (List.mem_of_getElem? (i := 102) rfl) rfl
theorem se_X1_hasName : Cond.selects RX1 yX1_hasName yX1_hasName ∈ pWW := pw4 (List.mem_of_getElem? (i := 103) rfl) rfl
theorem dX1_hasName_0 : decode cX1_hasName 0 = .ok (.iload_n 1, 1) := by decide +kernel
theorem dX1_hasName_1 : decode cX1_hasName 1 = .ok (.ifCond .lt 31, 3) := by decide +kernel
theorem dX1_hasName_32 : decode cX1_hasName 32 = .ok (.iconst 0, 1) := by decide +kernel
theorem dX1_hasName_33 : decode cX1_hasName 33 = .ok (.ireturn, 1) := by decide +kernel
theorem dX1_hasName_4 : decode cX1_hasName 4 = .ok (.iload_n 1, 1) := by decide +kernel
theorem dX1_hasName_5 : decode cX1_hasName 5 = .ok (.aload_n 0, 1) := by decide +kernel
theorem dX1_hasName_6 : decode cX1_hasName 6 = .ok (.getfield 46, 3) := by decide +kernel
theorem dX1_hasName_9 : decode cX1_hasName 9 = .ok (.if_icmp .ge 23, 3) := by decide +kernel
theorem dX1_hasName_12 : decode cX1_hasName 12 = .ok (.iload_n 2, 1) := by decide +kernel
theorem dX1_hasName_13 : decode cX1_hasName 13 = .ok (.ifCond .lt 19, 3) := by decide +kernel
theorem dX1_hasName_16 : decode cX1_hasName 16 = .ok (.iload_n 2, 1) := by decide +kernel
theorem dX1_hasName_17 : decode cX1_hasName 17 = .ok (.aload_n 0, 1) := by decide +kernel
theorem dX1_hasName_18 : decode cX1_hasName 18 = .ok (.getfield 24, 3) := by decide +kernel
theorem dX1_hasName_21 : decode cX1_hasName 21 = .ok (.iload_n 1, 1) := by decide +kernel
theorem dX1_hasName_22 : decode cX1_hasName 22 = .ok (.invokestatic 53, 3) := by decide +kernel
theorem dX1_hasName_25 : decode cX1_hasName 25 = .ok (.if_icmp .ge 7, 3) := by decide +kernel
theorem dX1_hasName_28 : decode cX1_hasName 28 = .ok (.iconst 1, 1) := by decide +kernel
theorem dX1_hasName_29 : decode cX1_hasName 29 = .ok (.goto 4, 3) := by decide +kernel
set_option maxRecDepth 20000 in
theorem k_X1_hasName (d : Nat) {T : CT} {σ : MS} {a : Nat} {f : Int} {m : Int} (ha : OB T a 1) (h_f : -2147483648 ≤ f ∧ f ≤ 2147483647) (h_m : -2147483648 ≤ m ∧ m ≤ 2147483647) (hw : WT T σ) : Tn (d + 2) m_X1_hasName 0 T σ [(0, .ref a), (1, .int (iI f)), (2, .int (iI m))] [] (fun ro T2 σ2 => ∃ v : Int, ro = some (.int (iI v)) ∧ T = T2 ∧ σ = σ2 ∧ (v = 0 ∨ v = 1)) := by
  refine tn_iload_n dX1_hasName_0 rfl 1 rfl ?_
  refine tn_if_lt (tgt := 32) dX1_hasName_1 (by decide) ⟨by omega, by omega⟩ (fun h1 => ?_) (fun h1 => ?_)
  · refine tn_iconst dX1_hasName_32 ?_
    exact tn_zret (v := 0) rfl (by decide) dX1_hasName_33 ⟨_, rfl, rfl, rfl, by omega⟩
  · refine tn_iload_n dX1_hasName_4 rfl 1 rfl ?_
    refine tn_aload_n dX1_hasName_5 rfl 0 rfl ?_
    refine tn_getI (ci := 1) (i := 5) (n := 10) (t := σ.2.1 10 a) dX1_hasName_6 rfl lay_1 (by decide) fl1_46 ha rfl rfl (rfl) ?_
    have g2 : ((0 : Int) ≤ σ.2.1 10 a ∧ σ.2.1 10 a ≤ 12) := wf_10 hw ha
    refine tn_icmp_ge (tgt := 32) dX1_hasName_9 (by decide) ⟨by omega, by omega⟩ ⟨by omega, by omega⟩ (fun h3 => ?_) (fun h3 => ?_)
    · refine tn_iconst dX1_hasName_32 ?_
      exact tn_zret (v := 0) rfl (by decide) dX1_hasName_33 ⟨_, rfl, rfl, rfl, by omega⟩
    · refine tn_iload_n dX1_hasName_12 rfl 2 rfl ?_
      refine tn_if_lt (tgt := 32) dX1_hasName_13 (by decide) ⟨by omega, by omega⟩ (fun h4 => ?_) (fun h4 => ?_)
      · refine tn_iconst dX1_hasName_32 ?_
        exact tn_zret (v := 0) rfl (by decide) dX1_hasName_33 ⟨_, rfl, rfl, rfl, by omega⟩
      · refine tn_iload_n dX1_hasName_16 rfl 2 rfl ?_
        refine tn_aload_n dX1_hasName_17 rfl 0 rfl ?_
        obtain ⟨x5, hx6, hk7, hl8⟩ : ∃ x : Nat, σ.2.1 14 a = (x : Int) ∧ AR T x 11 12 12 := wf_14 hw ha
        have hk7i : IA T x5 := by unfold IA; omega
        refine tn_getR (ci := 1) (i := 9) (n := 14) (x := x5) dX1_hasName_18 rfl lay_1 (by decide) fl1_24 ha rfl rfl (hx6) ?_
        refine tn_iload_n dX1_hasName_21 rfl 1 rfl ?_
        refine tn_callSN (M := m_X1_hasName) (pc := 22) (ix := 53) (M' := m_X11_at) (As := [.ref x5, .int (iI f)]) (rest := [.int (iI m)]) dX1_hasName_22 ok_X11_at stt_X11_at nl1_53 np_X11_at rfl (Nat.le_of_ble_eq_true rfl) (Nat.le_of_ble_eq_true rfl) rfl (k_X11_at (d) (T := T) (σ := σ) (x := x5) (i := f) hk7i (by omega) (by omega) hw ) (fun r9 T11 σ10 gt12 hp => ?_)
        obtain ⟨v16, rfl, rfl, rfl, f13, f14, f15⟩ := hp
        clear gt12
        have f14n := f14.2.1 hk7
        clear f14 f15
        show Tn _ _ 25 T σ [(0, .ref a), (1, .int (iI f)), (2, .int (iI m))] [.int (iI v16), .int (iI m)] _
        refine tn_icmp_ge (tgt := 32) dX1_hasName_25 (by decide) ⟨by omega, by omega⟩ ⟨by omega, by omega⟩ (fun h17 => ?_) (fun h17 => ?_)
        · refine tn_iconst dX1_hasName_32 ?_
          exact tn_zret (v := 0) rfl (by decide) dX1_hasName_33 ⟨_, rfl, rfl, rfl, by omega⟩
        · refine tn_iconst dX1_hasName_28 ?_
          refine tn_goto (tgt := 33) dX1_hasName_29 (by decide) ?_
          exact tn_zret (v := 1) rfl (by decide) dX1_hasName_33 ⟨_, rfl, rfl, rfl, by omega⟩
