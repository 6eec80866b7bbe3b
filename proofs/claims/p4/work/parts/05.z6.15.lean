theorem cd_X11_go : Cond.code yX11_go cX11_go 3 (some .int) ∈ pWW := pw6 (List.mem_of_getElem? (i := 51) rfl) rfl
abbrev m_X11_go : MT := (yX11_go, cX11_go, 3, (some .int))
theorem ok_X11_go : pOk m_X11_go := ⟨⟨cd_X11_go, ini_11⟩, by decide +kernel, ⟨by decide +kernel, by decide +kernel⟩, Nat.le_of_ble_eq_true rfl⟩
theorem np_X11_go : (parseMethodDescriptor yX11_go.desc).map (fun d => d.parameters.length) = some 2 := by decide +kernel
theorem im_X11_go : Cond.instanceMethod yX11_go ∈ pWW := pw6 (List.mem_of_getElem? (i := 49) rfl) rfl
theorem se_X11_go : Cond.selects RX11 yX11_go yX11_go ∈ pWW := pw6 (List.mem_of_getElem? (i := 50) rfl) rfl
theorem fl11_208 : Cond.fieldLink RX11 208 (TX7 1).1 (TX7 1).2.1 (TX7 1).2.2.1 ∈ pWW := pw2 (List.mem_of_getElem? (i := 136) rfl) rfl
theorem ml11_211 : Cond.methodLink RX11 211 yX7_advance ∈ pWW := pw6 (List.mem_of_getElem? (i := 52) rfl) rfl
theorem dX11_go_0 : decode cX11_go 0 = .ok (.iload_n 1, 1) := by decide +kernel
theorem dX11_go_1 : decode cX11_go 1 = .ok (.ifCond .lt 30, 3) := by decide +kernel
theorem dX11_go_31 : decode cX11_go 31 = .ok (.iconst (-1), 1) := by decide +kernel
theorem dX11_go_32 : decode cX11_go 32 = .ok (.ireturn, 1) := by decide +kernel
theorem dX11_go_4 : decode cX11_go 4 = .ok (.iload_n 1, 1) := by decide +kernel
theorem dX11_go_5 : decode cX11_go 5 = .ok (.iconst 2, 1) := by decide +kernel
theorem dX11_go_6 : decode cX11_go 6 = .ok (.if_icmp .gt 25, 3) := by decide +kernel
theorem dX11_go_9 : decode cX11_go 9 = .ok (.iload_n 2, 1) := by decide +kernel
theorem dX11_go_10 : decode cX11_go 10 = .ok (.iconst 1, 1) := by decide +kernel
theorem dX11_go_11 : decode cX11_go 11 = .ok (.if_icmp .lt 20, 3) := by decide +kernel
theorem dX11_go_14 : decode cX11_go 14 = .ok (.iload_n 2, 1) := by decide +kernel
theorem dX11_go_15 : decode cX11_go 15 = .ok (.sipush 20000, 3) := by decide +kernel
theorem dX11_go_18 : decode cX11_go 18 = .ok (.if_icmp .gt 13, 3) := by decide +kernel
theorem dX11_go_21 : decode cX11_go 21 = .ok (.aload_n 0, 1) := by decide +kernel
theorem dX11_go_22 : decode cX11_go 22 = .ok (.getfield 83, 3) := by decide +kernel
theorem dX11_go_25 : decode cX11_go 25 = .ok (.getfield 208, 3) := by decide +kernel
theorem dX11_go_28 : decode cX11_go 28 = .ok (.ifCond .ne 5, 3) := by decide +kernel
theorem dX11_go_33 : decode cX11_go 33 = .ok (.aload_n 0, 1) := by decide +kernel
theorem dX11_go_34 : decode cX11_go 34 = .ok (.getfield 83, 3) := by decide +kernel
theorem dX11_go_37 : decode cX11_go 37 = .ok (.iload_n 1, 1) := by decide +kernel
theorem dX11_go_38 : decode cX11_go 38 = .ok (.iload_n 2, 1) := by decide +kernel
theorem dX11_go_39 : decode cX11_go 39 = .ok (.invokevirtual 211, 3) := by decide +kernel
theorem dX11_go_42 : decode cX11_go 42 = .ok (.ireturn, 1) := by decide +kernel
set_option maxRecDepth 20000 in
theorem k_X11_go (d : Nat) {T : CT} {σ : MS} {a : Nat} {w : Int} {n : Int} {B : Int} (ha : OB T a 11) (h_w : -2147483648 ≤ w ∧ w ≤ 2147483647) (h_n : -2147483648 ≤ n ∧ n ≤ 2147483647) (hw : WT T σ) (htr : TR σ a B) (hB : B ≤ 11164000) : Tn (d + 7) m_X11_go 0 T σ [(0, .ref a), (1, .int (iI w)), (2, .int (iI n))] [] (fun ro T2 σ2 => ∃ v : Int, ro = some (.int (iI v)) ∧ T = T2 ∧ WT T2 σ2 ∧ FrC T [56, 57, 58, 65, 66, 67, 68, 69, 515] σ σ2 ∧ (-2147483648 ≤ v ∧ v ≤ 2147483647) ∧ (TR σ2 a (B + 20001))) := by
  refine tn_iload_n dX11_go_0 rfl 1 rfl ?_
  refine tn_if_lt (tgt := 31) dX11_go_1 (by decide) ⟨by omega, by omega⟩ (fun h1 => ?_) (fun h1 => ?_)
  · refine tn_iconst dX11_go_31 ?_
    exact tn_iret rfl dX11_go_32 ⟨_, rfl, rfl, hw, FrC.rfl, by omega, htr.up (by omega)⟩
  · refine tn_iload_n dX11_go_4 rfl 1 rfl ?_
    refine tn_iconst dX11_go_5 ?_
    refine tn_icmp_gt (tgt := 31) dX11_go_6 (by decide) ⟨by omega, by omega⟩ ⟨by decide, by decide⟩ (fun h2 => ?_) (fun h2 => ?_)
    · refine tn_iconst dX11_go_31 ?_
      exact tn_iret rfl dX11_go_32 ⟨_, rfl, rfl, hw, FrC.rfl, by omega, htr.up (by omega)⟩
    · refine tn_iload_n dX11_go_9 rfl 2 rfl ?_
      refine tn_iconst dX11_go_10 ?_
      refine tn_icmp_lt (tgt := 31) dX11_go_11 (by decide) ⟨by omega, by omega⟩ ⟨by decide, by decide⟩ (fun h3 => ?_) (fun h3 => ?_)
      · refine tn_iconst dX11_go_31 ?_
        exact tn_iret rfl dX11_go_32 ⟨_, rfl, rfl, hw, FrC.rfl, by omega, htr.up (by omega)⟩
      · refine tn_iload_n dX11_go_14 rfl 2 rfl ?_
        refine tn_sipush dX11_go_15 (by decide) ?_
        refine tn_icmp_gt (tgt := 31) dX11_go_18 (by decide) ⟨by omega, by omega⟩ ⟨by decide, by decide⟩ (fun h4 => ?_) (fun h4 => ?_)
        · refine tn_iconst dX11_go_31 ?_
          exact tn_iret rfl dX11_go_32 ⟨_, rfl, rfl, hw, FrC.rfl, by omega, htr.up (by omega)⟩
        · refine tn_aload_n dX11_go_21 rfl 0 rfl ?_
          obtain ⟨x5, hx6, hk7⟩ : ∃ x : Nat, σ.2.1 103 a = (x : Int) ∧ (T x).1 = 37 := wf_103 hw ha
          have hk7o : OB T x5 7 := ⟨by omega, by rw [hk7]; rfl, by omega⟩
          refine tn_getR (ci := 11) (i := 8) (n := 103) (x := x5) dX11_go_22 rfl lay_11 (by decide) fl11_83 ha rfl rfl (hx6) ?_
          refine tn_getI (ci := 7) (i := 1) (n := 56) (t := σ.2.1 56 x5) dX11_go_25 rfl lay_7 (by decide) fl11_208 hk7o rfl rfl (rfl) ?_
          have g9 : ((-2147483648 : Int) ≤ σ.2.1 56 x5 ∧ σ.2.1 56 x5 ≤ 2147483647) := wf_56 hw hk7o
          refine tn_if_ne (tgt := 33) dX11_go_28 (by decide) ⟨by omega, by omega⟩ (fun h10 => ?_) (fun h10 => ?_)
          · refine tn_aload_n dX11_go_33 rfl 0 rfl ?_
            refine tn_getR (ci := 11) (i := 8) (n := 103) (x := x5) dX11_go_34 rfl lay_11 (by decide) fl11_83 ha rfl rfl (hx6) ?_
            refine tn_iload_n dX11_go_37 rfl 1 rfl ?_
            refine tn_iload_n dX11_go_38 rfl 2 rfl ?_
            refine tn_callV (M := m_X11_go) (pc := 39) (ix := 211) (ci := 7) (M' := m_X7_advance) (As := [.int (iI w), .int (iI n)]) (rest := []) dX11_go_39 ok_X7_advance im_X7_advance se_X7_advance ml11_211 np_X7_advance rfl rfl hk7o rfl (Nat.le_of_ble_eq_true rfl) (Nat.le_of_ble_eq_true rfl) rfl (k_X7_advance (d) (T := T) (σ := σ) (a := x5) (w := w) (n := n) hk7o hk7 (by omega) (by omega) hw (by omega) (by have q9 := htr x5 (hx6); omega)) (fun r11 T13 σ12 gt14 hp => ?_)
            obtain ⟨v17, rfl, rfl, w18, F19, f15, f16⟩ := hp
            clear gt14
            show Tn _ _ 42 T σ12 [(0, .ref a), (1, .int (iI w)), (2, .int (iI n))] [.int (iI v17)] _
            exact tn_iret rfl dX11_go_42 ⟨_, rfl, rfl, w18, (FrC.rfl.trans (FrC.sub F19 (by decide))), by omega, TR.of (rc_F F19 (Or.inl (by decide)) (by decide) (hx6)) (by have q9 := htr x5 hx6; omega)⟩
          · refine tn_iconst dX11_go_31 ?_
            exact tn_iret rfl dX11_go_32 ⟨_, rfl, rfl, hw, FrC.rfl, by omega, htr.up (by omega)⟩
