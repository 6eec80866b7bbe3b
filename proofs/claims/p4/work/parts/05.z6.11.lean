theorem cd_X11_pass : Cond.code yX11_pass cX11_pass 5 (some .int) ∈ pWW := pw4 (List.mem_of_getElem? (i := 179) rfl) rfl
abbrev m_X11_pass : MT := (yX11_pass, cX11_pass, 5, (some .int))
theorem ok_X11_pass : pOk m_X11_pass := ⟨⟨cd_X11_pass, ini_11⟩, by decide +kernel, ⟨by decide +kernel, by decide +kernel⟩, Nat.le_of_ble_eq_true rfl⟩
theorem np_X11_pass : (parseMethodDescriptor yX11_pass.desc).map (fun d => d.parameters.length) = some 2 := by decide +kernel
theorem im_X11_pass : Cond.instanceMethod yX11_pass ∈ pWW := pw4 (List.mem_of_getElem? (i := 177) rfl) rfl
theorem se_X11_pass : Cond.selects RX11 yX11_pass yX11_pass ∈ pWW := pw4 (List.mem_of_getElem? (i := 178) rfl) rfl
theorem ml11_194 : Cond.methodLink RX11 194 yX11_tear ∈ pWW := pw4 (List.mem_of_getElem? (i := 180) rfl) rfl
theorem ml11_198 : Cond.methodLink RX11 198 yX1_link ∈ pWW := pw4 (List.mem_of_getElem? (i := 24) rfl) rfl
theorem ml11_201 : Cond.methodLink RX11 201 yX10_spoil ∈ pWW := pw4 (List.mem_of_getElem? (i := 42) rfl) rfl
theorem fl11_83 : Cond.fieldLink RX11 83 (TX11 8).1 (TX11 8).2.1 (TX11 8).2.2.1 ∈ pWW := pw2 (List.mem_of_getElem? (i := 204) rfl) rfl
theorem ml11_120 : Cond.methodLink RX11 120 yX7_forget ∈ pWW := pw4 (List.mem_of_getElem? (i := 47) rfl) rfl
theorem dX11_pass_0 : decode cX11_pass 0 = .ok (.aload_n 0, 1) := by decide +kernel
theorem dX11_pass_1 : decode cX11_pass 1 = .ok (.iload_n 2, 1) := by decide +kernel
theorem dX11_pass_2 : decode cX11_pass 2 = .ok (.invokevirtual 123, 3) := by decide +kernel
theorem dX11_pass_5 : decode cX11_pass 5 = .ok (.astore_n 3, 1) := by decide +kernel
theorem dX11_pass_6 : decode cX11_pass 6 = .ok (.aload_n 3, 1) := by decide +kernel
theorem dX11_pass_7 : decode cX11_pass 7 = .ok (.ifnull 12, 3) := by decide +kernel
theorem dX11_pass_19 : decode cX11_pass 19 = .ok (.iconst (-1), 1) := by decide +kernel
theorem dX11_pass_20 : decode cX11_pass 20 = .ok (.ireturn, 1) := by decide +kernel
theorem dX11_pass_10 : decode cX11_pass 10 = .ok (.iload_n 1, 1) := by decide +kernel
theorem dX11_pass_11 : decode cX11_pass 11 = .ok (.ifCond .lt 8, 3) := by decide +kernel
theorem dX11_pass_14 : decode cX11_pass 14 = .ok (.iload_n 1, 1) := by decide +kernel
theorem dX11_pass_15 : decode cX11_pass 15 = .ok (.iconst 5, 1) := by decide +kernel
theorem dX11_pass_16 : decode cX11_pass 16 = .ok (.if_icmp .le 5, 3) := by decide +kernel
theorem dX11_pass_21 : decode cX11_pass 21 = .ok (.aload_n 0, 1) := by decide +kernel
theorem dX11_pass_22 : decode cX11_pass 22 = .ok (.iload_n 1, 1) := by decide +kernel
theorem dX11_pass_23 : decode cX11_pass 23 = .ok (.iload_n 2, 1) := by decide +kernel
theorem dX11_pass_24 : decode cX11_pass 24 = .ok (.aload_n 3, 1) := by decide +kernel
theorem dX11_pass_25 : decode cX11_pass 25 = .ok (.invokevirtual 194, 3) := by decide +kernel
theorem dX11_pass_28 : decode cX11_pass 28 = .ok (.istore 4, 2) := by decide +kernel
theorem dX11_pass_30 : decode cX11_pass 30 = .ok (.aload_n 3, 1) := by decide +kernel
theorem dX11_pass_31 : decode cX11_pass 31 = .ok (.invokevirtual 198, 3) := by decide +kernel
theorem dX11_pass_34 : decode cX11_pass 34 = .ok (.aload_n 0, 1) := by decide +kernel
theorem dX11_pass_35 : decode cX11_pass 35 = .ok (.getfield 39, 3) := by decide +kernel
theorem dX11_pass_38 : decode cX11_pass 38 = .ok (.iload_n 2, 1) := by decide +kernel
theorem dX11_pass_39 : decode cX11_pass 39 = .ok (.invokevirtual 201, 3) := by decide +kernel
theorem dX11_pass_42 : decode cX11_pass 42 = .ok (.aload_n 0, 1) := by decide +kernel
theorem dX11_pass_43 : decode cX11_pass 43 = .ok (.getfield 83, 3) := by decide +kernel
theorem dX11_pass_46 : decode cX11_pass 46 = .ok (.invokevirtual 120, 3) := by decide +kernel
theorem dX11_pass_49 : decode cX11_pass 49 = .ok (.iload 4, 2) := by decide +kernel
theorem dX11_pass_51 : decode cX11_pass 51 = .ok (.ireturn, 1) := by decide +kernel
set_option maxRecDepth 20000 in
theorem k_X11_pass (d : Nat) {T : CT} {σ : MS} {a : Nat} {k : Int} {r : Int} (ha : OB T a 11) (h_k : -2147483648 ≤ k ∧ k ≤ 2147483647) (h_r : -2147483648 ≤ r ∧ r ≤ 2147483647) (hw : WT T σ) : Tn (d + 9) m_X11_pass 0 T σ [(0, .ref a), (1, .int (iI k)), (2, .int (iI r))] [] (fun ro T2 σ2 => ∃ v : Int, ro = some (.int (iI v)) ∧ WT T2 σ2 ∧ FrC T [5, 6, 10, 22, 25, 26, 27, 28, 29, 30, 31, 32, 56, 80] σ σ2 ∧ (-2147483648 ≤ v ∧ v ≤ 2147483647)) := by
  refine tn_aload_n dX11_pass_0 rfl 0 rfl ?_
  refine tn_iload_n dX11_pass_1 rfl 2 rfl ?_
  refine tn_callV (M := m_X11_pass) (pc := 2) (ix := 123) (ci := 11) (M' := m_X11_codeOf) (As := [.int (iI r)]) (rest := []) dX11_pass_2 ok_X11_codeOf im_X11_codeOf se_X11_codeOf ml11_123 np_X11_codeOf rfl rfl ha rfl (Nat.le_of_ble_eq_true rfl) (Nat.le_of_ble_eq_true rfl) rfl (k_X11_codeOf (d + 7) (T := T) (σ := σ) (a := a) (r := r) ha (by omega) hw ) (fun r1 T3 σ2 gt4 hp => ?_)
  obtain ⟨v5, rfl, rfl, rfl, rv6⟩ := hp
  clear gt4
  rcases rv6 with rv6 | ⟨x7, rfl, hk8⟩
  · show Tn _ _ 5 T σ [(0, .ref a), (1, .int (iI k)), (2, .int (iI r))] (vl true v5 :: []) _
    rw [vl_null rv6]
    refine tn_astore_nN (L' := [(3, .null), (0, .ref a), (1, .int (iI k)), (2, .int (iI r))]) dX11_pass_5 rfl (by decide) rfl ?_
    refine tn_aload_nN dX11_pass_6 rfl 0 rfl ?_
    refine tn_ifnullN (tgt := 19) dX11_pass_7 (by decide) ?_
    refine tn_iconst dX11_pass_19 ?_
    exact tn_iret rfl dX11_pass_20 ⟨_, rfl, hw, FrC.rfl, by omega⟩
  · show Tn _ _ 5 T σ [(0, .ref a), (1, .int (iI k)), (2, .int (iI r))] (vl true (x7 : Int) :: []) _
    rw [vl_ref rfl]
    have hk8o : OB T x7 1 := ⟨by omega, by rw [hk8]; rfl, by omega⟩
    refine tn_astore_n (L' := [(3, .ref x7), (0, .ref a), (1, .int (iI k)), (2, .int (iI r))]) dX11_pass_5 rfl (by decide) rfl ?_
    refine tn_aload_n dX11_pass_6 rfl 0 rfl ?_
    refine tn_ifnull dX11_pass_7 ?_
    refine tn_iload_n dX11_pass_10 rfl 2 rfl ?_
    refine tn_if_lt (tgt := 19) dX11_pass_11 (by decide) ⟨by omega, by omega⟩ (fun h9 => ?_) (fun h9 => ?_)
    · refine tn_iconst dX11_pass_19 ?_
      exact tn_iret rfl dX11_pass_20 ⟨_, rfl, hw, FrC.rfl, by omega⟩
    · refine tn_iload_n dX11_pass_14 rfl 2 rfl ?_
      refine tn_iconst dX11_pass_15 ?_
      refine tn_icmp_le (tgt := 21) dX11_pass_16 (by decide) ⟨by omega, by omega⟩ ⟨by decide, by decide⟩ (fun h10 => ?_) (fun h10 => ?_)
      · refine tn_aload_n dX11_pass_21 rfl 1 rfl ?_
        refine tn_iload_n dX11_pass_22 rfl 2 rfl ?_
        refine tn_iload_n dX11_pass_23 rfl 3 rfl ?_
        refine tn_aload_n dX11_pass_24 rfl 0 rfl ?_
        refine tn_callV (M := m_X11_pass) (pc := 25) (ix := 194) (ci := 11) (M' := m_X11_tear) (As := [.int (iI k), .int (iI r), .ref x7]) (rest := []) dX11_pass_25 ok_X11_tear im_X11_tear se_X11_tear ml11_194 np_X11_tear rfl rfl ha rfl (Nat.le_of_ble_eq_true rfl) (Nat.le_of_ble_eq_true rfl) rfl (k_X11_tear (d) (T := T) (σ := σ) (a := a) (k := k) (r := r) (c := x7) ha (by omega) (by omega) hk8o hk8 hw ) (fun r11 T13 σ12 gt14 hp => ?_)
        obtain ⟨v16, rfl, w17, F18, f15⟩ := hp
        replace ha : OB T13 a 11 := gt14.ob ha
        replace hk8o : OB T13 x7 1 := gt14.ob hk8o
        replace hk8 : (T13 x7).1 = 50 := gt14.kk hk8 (by decide) (by decide)
        show Tn _ _ 28 T13 σ12 [(3, .ref x7), (0, .ref a), (1, .int (iI k)), (2, .int (iI r))] [.int (iI v16)] _
        refine tn_istore (L' := [(4, .int (iI v16)), (3, .ref x7), (0, .ref a), (1, .int (iI k)), (2, .int (iI r))]) dX11_pass_28 (by decide) rfl ?_
        refine tn_aload_n dX11_pass_30 rfl 1 rfl ?_
        refine tn_callV (M := m_X11_pass) (pc := 31) (ix := 198) (ci := 1) (M' := m_X1_link) (As := []) (rest := []) dX11_pass_31 ok_X1_link im_X1_link se_X1_link ml11_198 np_X1_link rfl rfl hk8o rfl (Nat.le_of_ble_eq_true rfl) (Nat.le_of_ble_eq_true rfl) rfl (k_X1_link (d + 5) (T := T13) (σ := σ12) (a := x7) hk8o w17 ) (fun r19 T21 σ20 gt22 hp => ?_)
        obtain ⟨rfl, rfl, w24, F25⟩ := hp
        clear gt22
        show Tn _ _ 34 T13 σ20 [(4, .int (iI v16)), (3, .ref x7), (0, .ref a), (1, .int (iI k)), (2, .int (iI r))] [] _
        refine tn_aload_n dX11_pass_34 rfl 2 rfl ?_
        obtain ⟨x26, hx27, hk28⟩ : ∃ x : Nat, σ12.2.1 102 a = (x : Int) ∧ (T13 x).1 = 40 := wf_102 w17 ha
        have hk28o : OB T13 x26 10 := ⟨by omega, by rw [hk28]; rfl, by omega⟩
        refine tn_getR (ci := 11) (i := 7) (n := 102) (x := x26) dX11_pass_35 rfl lay_11 (by decide) fl11_39 ha rfl rfl (rc_F F25 (Or.inl (by decide)) (by decide) (hx27)) ?_
        refine tn_iload_n dX11_pass_38 rfl 4 rfl ?_
        refine tn_callV (M := m_X11_pass) (pc := 39) (ix := 201) (ci := 10) (M' := m_X10_spoil) (As := [.int (iI r)]) (rest := []) dX11_pass_39 ok_X10_spoil im_X10_spoil se_X10_spoil ml11_201 np_X10_spoil rfl rfl hk28o rfl (Nat.le_of_ble_eq_true rfl) (Nat.le_of_ble_eq_true rfl) rfl (k_X10_spoil (d + 6) (T := T13) (σ := σ20) (a := x26) (p1 := r) hk28o (by omega) w24 ) (fun r30 T32 σ31 gt33 hp => ?_)
        obtain ⟨rfl, rfl, w35, F36⟩ := hp
        clear gt33
        show Tn _ _ 42 T13 σ31 [(4, .int (iI v16)), (3, .ref x7), (0, .ref a), (1, .int (iI k)), (2, .int (iI r))] [] _
        refine tn_aload_n dX11_pass_42 rfl 2 rfl ?_
        obtain ⟨x37, hx38, hk39⟩ : ∃ x : Nat, σ12.2.1 103 a = (x : Int) ∧ (T13 x).1 = 37 := wf_103 w17 ha
        have hk39o : OB T13 x37 7 := ⟨by omega, by rw [hk39]; rfl, by omega⟩
        refine tn_getR (ci := 11) (i := 8) (n := 103) (x := x37) dX11_pass_43 rfl lay_11 (by decide) fl11_83 ha rfl rfl (rc_F F36 (Or.inl (by decide)) (by decide) (rc_F F25 (Or.inl (by decide)) (by decide) (hx38))) ?_
        refine tn_callV (M := m_X11_pass) (pc := 46) (ix := 120) (ci := 7) (M' := m_X7_forget) (As := []) (rest := []) dX11_pass_46 ok_X7_forget im_X7_forget se_X7_forget ml11_120 np_X7_forget rfl rfl hk39o rfl (Nat.le_of_ble_eq_true rfl) (Nat.le_of_ble_eq_true rfl) rfl (k_X7_forget (d + 7) (T := T13) (σ := σ31) (a := x37) hk39o w35 ) (fun r41 T43 σ42 gt44 hp => ?_)
        obtain ⟨rfl, rfl, w46, F47⟩ := hp
        clear gt44
        show Tn _ _ 49 T13 σ42 [(4, .int (iI v16)), (3, .ref x7), (0, .ref a), (1, .int (iI k)), (2, .int (iI r))] [] _
        refine tn_iload dX11_pass_49 0 rfl ?_
        exact tn_iret rfl dX11_pass_51 ⟨_, rfl, w46, ((((FrC.rfl.trans (FrC.sub F18 (by decide))).trans (FrC.sub (FrC.old F25 gt14) (by decide))).trans (FrC.sub (FrC.old F36 gt14) (by decide))).trans (FrC.sub (FrC.old F47 gt14) (by decide))), by omega⟩
      · refine tn_iconst dX11_pass_19 ?_
        exact tn_iret rfl dX11_pass_20 ⟨_, rfl, hw, FrC.rfl, by omega⟩
