theorem cd_X11_item : Cond.code yX11_item cX11_item 5 (some .int) ∈ pWW := pw4 (List.mem_of_getElem? (i := 88) rfl) rfl
abbrev m_X11_item : MT := (yX11_item, cX11_item, 5, (some .int))
theorem ok_X11_item : pOk m_X11_item := ⟨⟨cd_X11_item, ini_11⟩, by decide +kernel, ⟨by decide +kernel, by decide +kernel⟩, Nat.le_of_ble_eq_true rfl⟩
theorem np_X11_item : (parseMethodDescriptor yX11_item.desc).map (fun d => d.parameters.length) = some 3 := by decide +kernel
theorem im_X11_item : Cond.instanceMethod yX11_item ∈ pWW := pw4 (List.mem_of_getElem? (i := 86) rfl) rfl
theorem se_X11_item : Cond.selects RX11 yX11_item yX11_item ∈ pWW := pw4 (List.mem_of_getElem? (i := 87) rfl) rfl
theorem fl11_152 : Cond.fieldLink RX11 152 "LineKeeper" "ASKED" "[I" ∈ pWW := pw4 (List.mem_of_getElem? (i := 89) rfl) rfl
theorem ml11_156 : Cond.methodLink RX11 156 yX1_get ∈ pWW := pw4 (List.mem_of_getElem? (i := 91) rfl) rfl
theorem dX11_item_0 : decode cX11_item 0 = .ok (.aload_n 0, 1) := by decide +kernel
theorem dX11_item_1 : decode cX11_item 1 = .ok (.iload_n 1, 1) := by decide +kernel
theorem dX11_item_2 : decode cX11_item 2 = .ok (.invokevirtual 123, 3) := by decide +kernel
theorem dX11_item_5 : decode cX11_item 5 = .ok (.astore 4, 2) := by decide +kernel
theorem dX11_item_7 : decode cX11_item 7 = .ok (.aload 4, 2) := by decide +kernel
theorem dX11_item_9 : decode cX11_item 9 = .ok (.ifnull 28, 3) := by decide +kernel
theorem dX11_item_37 : decode cX11_item 37 = .ok (.iconst (-1), 1) := by decide +kernel
theorem dX11_item_38 : decode cX11_item 38 = .ok (.ireturn, 1) := by decide +kernel
theorem dX11_item_12 : decode cX11_item 12 = .ok (.iload_n 2, 1) := by decide +kernel
theorem dX11_item_13 : decode cX11_item 13 = .ok (.ifCond .lt 24, 3) := by decide +kernel
theorem dX11_item_16 : decode cX11_item 16 = .ok (.iload_n 2, 1) := by decide +kernel
theorem dX11_item_17 : decode cX11_item 17 = .ok (.aload 4, 2) := by decide +kernel
theorem dX11_item_19 : decode cX11_item 19 = .ok (.getfield 127, 3) := by decide +kernel
theorem dX11_item_22 : decode cX11_item 22 = .ok (.if_icmp .ge 15, 3) := by decide +kernel
theorem dX11_item_25 : decode cX11_item 25 = .ok (.iload_n 3, 1) := by decide +kernel
theorem dX11_item_26 : decode cX11_item 26 = .ok (.ifCond .lt 11, 3) := by decide +kernel
theorem dX11_item_29 : decode cX11_item 29 = .ok (.iload_n 3, 1) := by decide +kernel
theorem dX11_item_30 : decode cX11_item 30 = .ok (.getstatic 152, 3) := by decide +kernel
theorem dX11_item_33 : decode cX11_item 33 = .ok (.arraylength, 1) := by decide +kernel
theorem dX11_item_34 : decode cX11_item 34 = .ok (.if_icmp .lt 5, 3) := by decide +kernel
theorem dX11_item_39 : decode cX11_item 39 = .ok (.aload 4, 2) := by decide +kernel
theorem dX11_item_41 : decode cX11_item 41 = .ok (.iload_n 2, 1) := by decide +kernel
theorem dX11_item_42 : decode cX11_item 42 = .ok (.getstatic 152, 3) := by decide +kernel
theorem dX11_item_45 : decode cX11_item 45 = .ok (.iload_n 3, 1) := by decide +kernel
theorem dX11_item_46 : decode cX11_item 46 = .ok (.iaload, 1) := by decide +kernel
theorem dX11_item_47 : decode cX11_item 47 = .ok (.invokevirtual 156, 3) := by decide +kernel
theorem dX11_item_50 : decode cX11_item 50 = .ok (.ireturn, 1) := by decide +kernel
set_option maxRecDepth 20000 in
theorem k_X11_item (d : Nat) {T : CT} {σ : MS} {a : Nat} {r : Int} {k : Int} {w : Int} (ha : OB T a 11) (h_r : -2147483648 ≤ r ∧ r ≤ 2147483647) (h_k : -2147483648 ≤ k ∧ k ≤ 2147483647) (h_w : -2147483648 ≤ w ∧ w ≤ 2147483647) (hw : WT T σ) : Tn (d + 2) m_X11_item 0 T σ [(0, .ref a), (1, .int (iI r)), (2, .int (iI k)), (3, .int (iI w))] [] (fun ro T2 σ2 => ∃ v : Int, ro = some (.int (iI v)) ∧ T = T2 ∧ σ = σ2 ∧ (-2147483648 ≤ v ∧ v ≤ 2147483647)) := by
  refine tn_aload_n dX11_item_0 rfl 0 rfl ?_
  refine tn_iload_n dX11_item_1 rfl 1 rfl ?_
  refine tn_callV (M := m_X11_item) (pc := 2) (ix := 123) (ci := 11) (M' := m_X11_codeOf) (As := [.int (iI r)]) (rest := []) dX11_item_2 ok_X11_codeOf im_X11_codeOf se_X11_codeOf ml11_123 np_X11_codeOf rfl rfl ha rfl (Nat.le_of_ble_eq_true rfl) (Nat.le_of_ble_eq_true rfl) rfl (k_X11_codeOf (d) (T := T) (σ := σ) (a := a) (r := r) ha (by omega) hw ) (fun r1 T3 σ2 gt4 hp => ?_)
  obtain ⟨v5, rfl, rfl, rfl, rv6⟩ := hp
  clear gt4
  rcases rv6 with rv6 | ⟨x7, rfl, hk8⟩
  · show Tn _ _ 5 T σ [(0, .ref a), (1, .int (iI r)), (2, .int (iI k)), (3, .int (iI w))] (vl true v5 :: []) _
    rw [vl_null rv6]
    refine tn_astoreN (L' := [(4, .null), (0, .ref a), (1, .int (iI r)), (2, .int (iI k)), (3, .int (iI w))]) dX11_item_5 (by decide) rfl ?_
    refine tn_aloadN dX11_item_7 0 rfl ?_
    refine tn_ifnullN (tgt := 37) dX11_item_9 (by decide) ?_
    refine tn_iconst dX11_item_37 ?_
    exact tn_iret rfl dX11_item_38 ⟨_, rfl, rfl, rfl, by omega⟩
  · show Tn _ _ 5 T σ [(0, .ref a), (1, .int (iI r)), (2, .int (iI k)), (3, .int (iI w))] (vl true (x7 : Int) :: []) _
    rw [vl_ref rfl]
    have hk8o : OB T x7 1 := ⟨by omega, by rw [hk8]; rfl, by omega⟩
    refine tn_astore (L' := [(4, .ref x7), (0, .ref a), (1, .int (iI r)), (2, .int (iI k)), (3, .int (iI w))]) dX11_item_5 (by decide) rfl ?_
    refine tn_aload dX11_item_7 0 rfl ?_
    refine tn_ifnull dX11_item_9 ?_
    refine tn_iload_n dX11_item_12 rfl 3 rfl ?_
    refine tn_if_lt (tgt := 37) dX11_item_13 (by decide) ⟨by omega, by omega⟩ (fun h9 => ?_) (fun h9 => ?_)
    · refine tn_iconst dX11_item_37 ?_
      exact tn_iret rfl dX11_item_38 ⟨_, rfl, rfl, rfl, by omega⟩
    · refine tn_iload_n dX11_item_16 rfl 3 rfl ?_
      refine tn_aload dX11_item_17 0 rfl ?_
      refine tn_getI (ci := 1) (i := 1) (n := 6) (t := σ.2.1 6 x7) dX11_item_19 rfl lay_1 (by decide) fl11_127 hk8o rfl rfl (rfl) ?_
      have g10 : ((0 : Int) ≤ σ.2.1 6 x7 ∧ σ.2.1 6 x7 ≤ 5000) ∧ ((T x7).1 = 50 → σ.2.1 6 x7 ≤ 200) := wf_6 hw hk8o
      have g10x := g10.2
      replace g10 := g10.1
      have g10x := g10x hk8
      refine tn_icmp_ge (tgt := 37) dX11_item_22 (by decide) ⟨by omega, by omega⟩ ⟨by omega, by omega⟩ (fun h11 => ?_) (fun h11 => ?_)
      · refine tn_iconst dX11_item_37 ?_
        exact tn_iret rfl dX11_item_38 ⟨_, rfl, rfl, rfl, by omega⟩
      · refine tn_iload_n dX11_item_25 rfl 4 rfl ?_
        refine tn_if_lt (tgt := 37) dX11_item_26 (by decide) ⟨by omega, by omega⟩ (fun h12 => ?_) (fun h12 => ?_)
        · refine tn_iconst dX11_item_37 ?_
          exact tn_iret rfl dX11_item_38 ⟨_, rfl, rfl, rfl, by omega⟩
        · refine tn_iload_n dX11_item_29 rfl 4 rfl ?_
          refine tn_stLen st_ak dX11_item_30 fl11_152 dX11_item_33 ?_
          show Tn _ _ 34 T σ [(4, .ref x7), (0, .ref a), (1, .int (iI r)), (2, .int (iI k)), (3, .int (iI w))] (.int (iI 8) :: [.int (iI w)]) _
          refine tn_icmp_lt (tgt := 39) dX11_item_34 (by decide) ⟨by omega, by omega⟩ ⟨by decide, by decide⟩ (fun h13 => ?_) (fun h13 => ?_)
          · refine tn_aload dX11_item_39 0 rfl ?_
            refine tn_iload_n dX11_item_41 rfl 3 rfl ?_
            refine tn_stInt (z := w) st_ak dX11_item_42 fl11_152 (Or.inl ⟨_, rfl, rfl, dX11_item_45⟩) (q := 4) rfl dX11_item_46 (by omega) (by omega) (by decide) (fun v14 g15 => ?_)
            have g15r := ak_rng g15
            clear g15
            show Tn _ _ 47 T σ [(4, .ref x7), (0, .ref a), (1, .int (iI r)), (2, .int (iI k)), (3, .int (iI w))] [.int (iI v14), .int (iI k), .ref x7] _
            refine tn_callV (M := m_X11_item) (pc := 47) (ix := 156) (ci := 1) (M' := m_X1_get) (As := [.int (iI k), .int (iI v14)]) (rest := []) dX11_item_47 ok_X1_get im_X1_get se_X1_get ml11_156 np_X1_get rfl rfl hk8o rfl (Nat.le_of_ble_eq_true rfl) (Nat.le_of_ble_eq_true rfl) rfl (k_X1_get (d) (T := T) (σ := σ) (a := x7) (k := k) (c := v14) hk8o (by omega) (by omega) hw (by omega)) (fun r16 T18 σ17 gt19 hp => ?_)
            obtain ⟨v21, rfl, rfl, rfl, f20⟩ := hp
            clear gt19
            show Tn _ _ 50 T σ [(4, .ref x7), (0, .ref a), (1, .int (iI r)), (2, .int (iI k)), (3, .int (iI w))] [.int (iI v21)] _
            exact tn_iret rfl dX11_item_50 ⟨_, rfl, rfl, rfl, by omega⟩
          · refine tn_iconst dX11_item_37 ?_
            exact tn_iret rfl dX11_item_38 ⟨_, rfl, rfl, rfl, by omega⟩
