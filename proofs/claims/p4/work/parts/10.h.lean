theorem ml12_539 : Cond.methodLink RX12 539 yX12_paramAt ∈ pWW := pw10 (List.mem_of_getElem? (i := 5) rfl) rfl
theorem dX12_startMachine_37 : decode cX12_startMachine 37 = .ok (.iload 7, 2) := by decide +kernel
theorem dX12_startMachine_39 : decode cX12_startMachine 39 = .ok (.aload_n 0, 1) := by decide +kernel
theorem dX12_startMachine_40 : decode cX12_startMachine 40 = .ok (.getfield 35, 3) := by decide +kernel
theorem dX12_startMachine_43 : decode cX12_startMachine 43 = .ok (.iload_n 2, 1) := by decide +kernel
theorem dX12_startMachine_44 : decode cX12_startMachine 44 = .ok (.iaload, 1) := by decide +kernel
theorem dX12_startMachine_45 : decode cX12_startMachine 45 = .ok (.if_icmp .ge 61, 3) := by decide +kernel
theorem dX12_startMachine_48 : decode cX12_startMachine 48 = .ok (.aload_n 0, 1) := by decide +kernel
theorem dX12_startMachine_49 : decode cX12_startMachine 49 = .ok (.getfield 179, 3) := by decide +kernel
theorem dX12_startMachine_52 : decode cX12_startMachine 52 = .ok (.sipush 1728, 3) := by decide +kernel
theorem dX12_startMachine_55 : decode cX12_startMachine 55 = .ok (.iload_n 1, 1) := by decide +kernel
theorem dX12_startMachine_56 : decode cX12_startMachine 56 = .ok (.imul, 1) := by decide +kernel
theorem dX12_startMachine_57 : decode cX12_startMachine 57 = .ok (.aload_n 0, 1) := by decide +kernel
theorem dX12_startMachine_58 : decode cX12_startMachine 58 = .ok (.iload_n 1, 1) := by decide +kernel
theorem dX12_startMachine_59 : decode cX12_startMachine 59 = .ok (.iload_n 2, 1) := by decide +kernel
theorem dX12_startMachine_60 : decode cX12_startMachine 60 = .ok (.iload 7, 2) := by decide +kernel
theorem dX12_startMachine_62 : decode cX12_startMachine 62 = .ok (.invokevirtual 539, 3) := by decide +kernel
theorem dX12_startMachine_65 : decode cX12_startMachine 65 = .ok (.iadd, 1) := by decide +kernel
theorem dX12_startMachine_66 : decode cX12_startMachine 66 = .ok (.iload 7, 2) := by decide +kernel
theorem dX12_startMachine_68 : decode cX12_startMachine 68 = .ok (.ifCond .ne 7, 3) := by decide +kernel
theorem dX12_startMachine_75 : decode cX12_startMachine 75 = .ok (.iload 7, 2) := by decide +kernel
theorem dX12_startMachine_77 : decode cX12_startMachine 77 = .ok (.iconst 1, 1) := by decide +kernel
theorem dX12_startMachine_78 : decode cX12_startMachine 78 = .ok (.if_icmp .ne 8, 3) := by decide +kernel
theorem dX12_startMachine_86 : decode cX12_startMachine 86 = .ok (.iload 7, 2) := by decide +kernel
theorem dX12_startMachine_88 : decode cX12_startMachine 88 = .ok (.iconst 2, 1) := by decide +kernel
theorem dX12_startMachine_89 : decode cX12_startMachine 89 = .ok (.if_icmp .ne 8, 3) := by decide +kernel
theorem dX12_startMachine_97 : decode cX12_startMachine 97 = .ok (.iload 6, 2) := by decide +kernel
theorem dX12_startMachine_99 : decode cX12_startMachine 99 = .ok (.iastore, 1) := by decide +kernel
theorem dX12_startMachine_100 : decode cX12_startMachine 100 = .ok (.iinc 7 1, 3) := by decide +kernel
theorem dX12_startMachine_103 : decode cX12_startMachine 103 = .ok (.goto (-66), 3) := by decide +kernel
theorem dX12_startMachine_92 : decode cX12_startMachine 92 = .ok (.iload 5, 2) := by decide +kernel
theorem dX12_startMachine_94 : decode cX12_startMachine 94 = .ok (.goto 5, 3) := by decide +kernel
theorem dX12_startMachine_81 : decode cX12_startMachine 81 = .ok (.iload 4, 2) := by decide +kernel
theorem dX12_startMachine_83 : decode cX12_startMachine 83 = .ok (.goto 16, 3) := by decide +kernel
theorem dX12_startMachine_71 : decode cX12_startMachine 71 = .ok (.iload_n 3, 1) := by decide +kernel
theorem dX12_startMachine_72 : decode cX12_startMachine 72 = .ok (.goto 27, 3) := by decide +kernel
set_option maxHeartbeats 4000000 in
set_option maxRecDepth 20000 in
theorem l_startM (d : Nat) {b : Nat} {σ0 : MS} {m : Int} {x : Int} {a1 : Int} {a2 : Int} {a3 : Int} {a4 : Int} {post : Option Value → MS → Prop} (hm2 : 0 ≤ m ∧ m ≤ 2) (hx : 0 ≤ x ∧ x < 6) (hR0 : RG σ0) (hpm : 0 ≤ σ0.2.1 11 x ∧ σ0.2.1 11 x ≤ 4) (hnm : ∀ n, 0 ≤ n → n < σ0.2.1 11 x → 0 ≤ σ0.2.1 18 (144 * x + n) ∧ σ0.2.1 18 (144 * x + n) < 192) (h_a1 : -2147483648 ≤ a1 ∧ a1 ≤ 2147483647) (h_a2 : -2147483648 ≤ a2 ∧ a2 ≤ 2147483647) (h_a3 : -2147483648 ≤ a3 ∧ a3 ≤ 2147483647) (h_a4 : -2147483648 ≤ a4 ∧ a4 ≤ 2147483647) (hx_106 : ∀ (n1 : Int) (σ : MS) , (Fr [] [82] [] σ0 σ) → (RG σ) → Tm (d + 2) m_X12_startMachine 106 b σ [(7, .int (iI n1)), (0, .ref b), (1, .int (iI m)), (2, .int (iI x)), (3, .int (iI a1)), (4, .int (iI a2)), (5, .int (iI a3)), (6, .int (iI a4))] [] post) : ∀ (n : Nat) (n1 : Int) (σ : MS) , (Fr [] [82] [] σ0 σ) → (RG σ) → (0 ≤ n1 ∧ n1 ≤ 4) → (4 - n1).toNat = n → Tm (d + 2) m_X12_startMachine 37 b σ [(7, .int (iI n1)), (0, .ref b), (1, .int (iI m)), (2, .int (iI x)), (3, .int (iI a1)), (4, .int (iI a2)), (5, .int (iI a3)), (6, .int (iI a4))] [] post := by
  intro n
  induction n using Nat.strongRecOn with
  | _ n ih =>
    intro n1 σ hF hR h0 hm
    refine tm_iload dX12_startMachine_37 0 rfl ?_
    refine tm_aload_n dX12_startMachine_39 rfl 1 rfl ?_
    refine tm_get (k := 11) (v := .ref (b + 1 + 8)) lay_12 dX12_startMachine_40 (by decide) fl12_35 rfl ?_
    refine tm_iload_n dX12_startMachine_43 rfl 3 rfl ?_
    refine tm_iald (z := x) (v := σ0.2.1 11 x) dX12_startMachine_44 (show mT[8]? = some (11, 0, 6) from rfl) (by omega) (by omega) (by decide) (ra_F hF (by decide) (rfl)) ?_
    have g1 := RG.a hR0 11 (x)
    refine tm_icmp_ge (tgt := 106) dX12_startMachine_45 (by decide) ⟨by omega, by omega⟩ ⟨by omega, by omega⟩ (fun h2 => ?_) (fun h2 => ?_)
    · exact tm_sub [0, 1, 2, 3, 4, 5, 6, 7] rfl (hx_106 (n1) σ (Fr.rfl.trans (Fr.sub hF (by decide) (by decide) (by decide))) hR)
    · have hq := hnm n1 (by omega) (by omega)
      have e18 : σ.2.1 18 (144 * x + n1) = σ0.2.1 18 (144 * x + n1) := by rw [hF.2.1 18 (by decide)]
      refine tm_aload_n dX12_startMachine_48 rfl 1 rfl ?_
      refine tm_get (k := 82) (v := .ref (b + 1 + 53)) lay_12 dX12_startMachine_49 (by decide) fl12_179 rfl ?_
      refine tm_sipush dX12_startMachine_52 (by decide) ?_
      refine tm_iload_n dX12_startMachine_55 rfl 2 rfl ?_
      refine tm_imul dX12_startMachine_56 ?_
      refine tm_aload_n dX12_startMachine_57 rfl 1 rfl ?_
      refine tm_iload_n dX12_startMachine_58 rfl 2 rfl ?_
      refine tm_iload_n dX12_startMachine_59 rfl 3 rfl ?_
      refine tm_iload dX12_startMachine_60 0 rfl ?_
      refine tm_callV (M := m_X12_startMachine) (pc := 62) (ix := 539) (M' := m_X12_paramAt) (As := [.int (iI m), .int (iI x), .int (iI n1)]) (rest := [.int (iI (1728 * m)), .ref (b + 1 + 53)]) dX12_startMachine_62 ok_X12_paramAt im_X12_paramAt se_X12_paramAt ml12_539 np_X12_paramAt rfl rfl (Nat.le_of_ble_eq_true rfl) (Nat.le_of_ble_eq_true rfl) rfl (c_X12_paramAt (d) (σ := σ) (m := m) (x := x) (n := n1) (by omega) (by omega)) (fun r3 σ4 hp => ?_)
      obtain ⟨v5, rfl, rfl, f6, f7⟩ := hp
      show Tm _ _ 65 b σ [(7, .int (iI n1)), (0, .ref b), (1, .int (iI m)), (2, .int (iI x)), (3, .int (iI a1)), (4, .int (iI a2)), (5, .int (iI a3)), (6, .int (iI a4))] [.int (iI v5), .int (iI (1728 * m)), .ref (b + 1 + 53)] _
      refine tm_iadd dX12_startMachine_65 ?_
      refine tm_iload dX12_startMachine_66 0 rfl ?_
      refine tm_if_ne (tgt := 75) dX12_startMachine_68 (by decide) ⟨by omega, by omega⟩ (fun h8 => ?_) (fun h8 => ?_)
      · refine tm_iload dX12_startMachine_75 0 rfl ?_
        refine tm_iconst dX12_startMachine_77 ?_
        refine tm_icmp_ne (tgt := 86) dX12_startMachine_78 (by decide) ⟨by omega, by omega⟩ ⟨by decide, by decide⟩ (fun h9 => ?_) (fun h9 => ?_)
        · refine tm_iload dX12_startMachine_86 0 rfl ?_
          refine tm_iconst dX12_startMachine_88 ?_
          refine tm_icmp_ne (tgt := 97) dX12_startMachine_89 (by decide) ⟨by omega, by omega⟩ ⟨by decide, by decide⟩ (fun h10 => ?_) (fun h10 => ?_)
          · refine tm_iload dX12_startMachine_97 7 rfl ?_
            refine tm_iast (z := (1728 * m) + v5) (v := a4) dX12_startMachine_99 (show mT[53]? = some (82, 0, 5184) from rfl) (by omega) (by omega) (by decide) ?_
            refine tm_iinc (q0 := 0) (L' := [(7, .int (iI (n1 + 1))), (0, .ref b), (1, .int (iI m)), (2, .int (iI x)), (3, .int (iI a1)), (4, .int (iI a2)), (5, .int (iI a3)), (6, .int (iI a4))]) dX12_startMachine_100 rfl (by decide) rfl ?_
            refine tm_goto (tgt := 37) dX12_startMachine_103 (by decide) ?_
            exact tm_sub [0, 1, 2, 3, 4, 5, 6, 7] rfl (ih _ (by omega) (n1 + 1) (sA 82 ((1728 * m) + v5) (a4) σ) ((Fr.rfl.trans (Fr.sub hF (by decide) (by decide) (by decide))).A (by decide)) (hR.A (by omega)) (by omega) rfl)
          · refine tm_iload dX12_startMachine_92 6 rfl ?_
            refine tm_goto (tgt := 99) dX12_startMachine_94 (by decide) ?_
            refine tm_iast (z := (1728 * m) + v5) (v := a3) dX12_startMachine_99 (show mT[53]? = some (82, 0, 5184) from rfl) (by omega) (by omega) (by decide) ?_
            refine tm_iinc (q0 := 0) (L' := [(7, .int (iI (n1 + 1))), (0, .ref b), (1, .int (iI m)), (2, .int (iI x)), (3, .int (iI a1)), (4, .int (iI a2)), (5, .int (iI a3)), (6, .int (iI a4))]) dX12_startMachine_100 rfl (by decide) rfl ?_
            refine tm_goto (tgt := 37) dX12_startMachine_103 (by decide) ?_
            exact tm_sub [0, 1, 2, 3, 4, 5, 6, 7] rfl (ih _ (by omega) (n1 + 1) (sA 82 ((1728 * m) + v5) (a3) σ) ((Fr.rfl.trans (Fr.sub hF (by decide) (by decide) (by decide))).A (by decide)) (hR.A (by omega)) (by omega) rfl)
        · refine tm_iload dX12_startMachine_81 5 rfl ?_
          refine tm_goto (tgt := 99) dX12_startMachine_83 (by decide) ?_
          refine tm_iast (z := (1728 * m) + v5) (v := a2) dX12_startMachine_99 (show mT[53]? = some (82, 0, 5184) from rfl) (by omega) (by omega) (by decide) ?_
          refine tm_iinc (q0 := 0) (L' := [(7, .int (iI (n1 + 1))), (0, .ref b), (1, .int (iI m)), (2, .int (iI x)), (3, .int (iI a1)), (4, .int (iI a2)), (5, .int (iI a3)), (6, .int (iI a4))]) dX12_startMachine_100 rfl (by decide) rfl ?_
          refine tm_goto (tgt := 37) dX12_startMachine_103 (by decide) ?_
          exact tm_sub [0, 1, 2, 3, 4, 5, 6, 7] rfl (ih _ (by omega) (n1 + 1) (sA 82 ((1728 * m) + v5) (a2) σ) ((Fr.rfl.trans (Fr.sub hF (by decide) (by decide) (by decide))).A (by decide)) (hR.A (by omega)) (by omega) rfl)
      · refine tm_iload_n dX12_startMachine_71 rfl 4 rfl ?_
        refine tm_goto (tgt := 99) dX12_startMachine_72 (by decide) ?_
        refine tm_iast (z := (1728 * m) + v5) (v := a1) dX12_startMachine_99 (show mT[53]? = some (82, 0, 5184) from rfl) (by omega) (by omega) (by decide) ?_
        refine tm_iinc (q0 := 0) (L' := [(7, .int (iI (n1 + 1))), (0, .ref b), (1, .int (iI m)), (2, .int (iI x)), (3, .int (iI a1)), (4, .int (iI a2)), (5, .int (iI a3)), (6, .int (iI a4))]) dX12_startMachine_100 rfl (by decide) rfl ?_
        refine tm_goto (tgt := 37) dX12_startMachine_103 (by decide) ?_
        exact tm_sub [0, 1, 2, 3, 4, 5, 6, 7] rfl (ih _ (by omega) (n1 + 1) (sA 82 ((1728 * m) + v5) (a1) σ) ((Fr.rfl.trans (Fr.sub hF (by decide) (by decide) (by decide))).A (by decide)) (hR.A (by omega)) (by omega) rfl)
theorem fl12_155 : Cond.fieldLink RX12 155 (TX12 74).1 (TX12 74).2.1 (TX12 74).2.2.1 ∈ pWW := pw7 (List.mem_of_getElem? (i := 79) rfl) rfl
theorem fl12_158 : Cond.fieldLink RX12 158 (TX12 75).1 (TX12 75).2.1 (TX12 75).2.2.1 ∈ pWW := pw7 (List.mem_of_getElem? (i := 80) rfl) rfl
theorem ml12_536 : Cond.methodLink RX12 536 yX12_enterCall ∈ pWW := pw10 (List.mem_of_getElem? (i := 1) rfl) rfl
theorem dX12_startMachine_0 : decode cX12_startMachine 0 = .ok (.aload_n 0, 1) := by decide +kernel
theorem dX12_startMachine_1 : decode cX12_startMachine 1 = .ok (.getfield 152, 3) := by decide +kernel
theorem dX12_startMachine_4 : decode cX12_startMachine 4 = .ok (.iload_n 1, 1) := by decide +kernel
theorem dX12_startMachine_5 : decode cX12_startMachine 5 = .ok (.iconst 0, 1) := by decide +kernel
theorem dX12_startMachine_6 : decode cX12_startMachine 6 = .ok (.iastore, 1) := by decide +kernel
theorem dX12_startMachine_7 : decode cX12_startMachine 7 = .ok (.aload_n 0, 1) := by decide +kernel
theorem dX12_startMachine_8 : decode cX12_startMachine 8 = .ok (.getfield 155, 3) := by decide +kernel
theorem dX12_startMachine_11 : decode cX12_startMachine 11 = .ok (.iload_n 1, 1) := by decide +kernel
theorem dX12_startMachine_12 : decode cX12_startMachine 12 = .ok (.iconst 0, 1) := by decide +kernel
theorem dX12_startMachine_13 : decode cX12_startMachine 13 = .ok (.iastore, 1) := by decide +kernel
theorem dX12_startMachine_14 : decode cX12_startMachine 14 = .ok (.aload_n 0, 1) := by decide +kernel
theorem dX12_startMachine_15 : decode cX12_startMachine 15 = .ok (.getfield 158, 3) := by decide +kernel
theorem dX12_startMachine_18 : decode cX12_startMachine 18 = .ok (.iload_n 1, 1) := by decide +kernel
theorem dX12_startMachine_19 : decode cX12_startMachine 19 = .ok (.iconst 0, 1) := by decide +kernel
theorem dX12_startMachine_20 : decode cX12_startMachine 20 = .ok (.iastore, 1) := by decide +kernel
theorem dX12_startMachine_21 : decode cX12_startMachine 21 = .ok (.aload_n 0, 1) := by decide +kernel
theorem dX12_startMachine_22 : decode cX12_startMachine 22 = .ok (.getfield 161, 3) := by decide +kernel
theorem dX12_startMachine_25 : decode cX12_startMachine 25 = .ok (.iload_n 1, 1) := by decide +kernel
theorem dX12_startMachine_26 : decode cX12_startMachine 26 = .ok (.iconst 0, 1) := by decide +kernel
theorem dX12_startMachine_27 : decode cX12_startMachine 27 = .ok (.iastore, 1) := by decide +kernel
theorem dX12_startMachine_28 : decode cX12_startMachine 28 = .ok (.aload_n 0, 1) := by decide +kernel
theorem dX12_startMachine_29 : decode cX12_startMachine 29 = .ok (.iload_n 1, 1) := by decide +kernel
theorem dX12_startMachine_30 : decode cX12_startMachine 30 = .ok (.iload_n 2, 1) := by decide +kernel
theorem dX12_startMachine_31 : decode cX12_startMachine 31 = .ok (.invokevirtual 536, 3) := by decide +kernel
theorem dX12_startMachine_34 : decode cX12_startMachine 34 = .ok (.iconst 0, 1) := by decide +kernel
theorem dX12_startMachine_35 : decode cX12_startMachine 35 = .ok (.istore 7, 2) := by decide +kernel
theorem dX12_startMachine_106 : decode cX12_startMachine 106 = .ok (.return_, 1) := by decide +kernel
set_option maxHeartbeats 4000000 in
set_option maxRecDepth 20000 in
theorem c_X12_startMachine (d : Nat) {b : Nat} {σ : MS} {m : Int} {x : Int} {a1 : Int} {a2 : Int} {a3 : Int} {a4 : Int} (hm2 : 0 ≤ m ∧ m ≤ 2) (hx : 0 ≤ x ∧ x < 6) (hR : RG σ) (hpm : 0 ≤ σ.2.1 11 x ∧ σ.2.1 11 x ≤ 4) (hnm : ∀ n, 0 ≤ n → n < σ.2.1 11 x → 0 ≤ σ.2.1 18 (144 * x + n) ∧ σ.2.1 18 (144 * x + n) < 192) (h_a1 : -2147483648 ≤ a1 ∧ a1 ≤ 2147483647) (h_a2 : -2147483648 ≤ a2 ∧ a2 ≤ 2147483647) (h_a3 : -2147483648 ≤ a3 ∧ a3 ≤ 2147483647) (h_a4 : -2147483648 ≤ a4 ∧ a4 ≤ 2147483647) : Tm (d + 2) m_X12_startMachine 0 b σ [(0, .ref b), (1, .int (iI m)), (2, .int (iI x)), (3, .int (iI a1)), (4, .int (iI a2)), (5, .int (iI a3)), (6, .int (iI a4))] [] (fun ro σ2 => ro = none ∧ (Fr [] [73, 74, 75, 76, 78, 79, 80, 81, 82] [] σ σ2) ∧ (RG σ2) ∧ (σ2.2.1 73 m = 1) ∧ (σ2.2.1 78 (9 * m) = x ∧ σ2.2.1 79 (9 * m) = 0 ∧ σ2.2.1 80 (9 * m) = 0) ∧ (∀ j, j ≠ m → σ2.2.1 73 j = σ.2.1 73 j) ∧ (∀ j, j ≠ 9 * m → σ2.2.1 78 j = σ.2.1 78 j ∧ σ2.2.1 79 j = σ.2.1 79 j ∧ σ2.2.1 80 j = σ.2.1 80 j)) := by
  refine tm_aload_n dX12_startMachine_0 rfl 0 rfl ?_
  refine tm_get (k := 73) (v := .ref (b + 1 + 44)) lay_12 dX12_startMachine_1 (by decide) fl12_152 rfl ?_
  refine tm_iload_n dX12_startMachine_4 rfl 1 rfl ?_
  refine tm_iconst dX12_startMachine_5 ?_
  refine tm_iast (z := m) (v := 0) dX12_startMachine_6 (show mT[44]? = some (73, 0, 3) from rfl) (by omega) (by omega) (by decide) ?_
  refine tm_aload_n dX12_startMachine_7 rfl 0 rfl ?_
  refine tm_get (k := 74) (v := .ref (b + 1 + 45)) lay_12 dX12_startMachine_8 (by decide) fl12_155 rfl ?_
  refine tm_iload_n dX12_startMachine_11 rfl 1 rfl ?_
  refine tm_iconst dX12_startMachine_12 ?_
  refine tm_iast (z := m) (v := 0) dX12_startMachine_13 (show mT[45]? = some (74, 0, 3) from rfl) (by omega) (by omega) (by decide) ?_
  refine tm_aload_n dX12_startMachine_14 rfl 0 rfl ?_
  refine tm_get (k := 75) (v := .ref (b + 1 + 46)) lay_12 dX12_startMachine_15 (by decide) fl12_158 rfl ?_
  refine tm_iload_n dX12_startMachine_18 rfl 1 rfl ?_
  refine tm_iconst dX12_startMachine_19 ?_
  refine tm_iast (z := m) (v := 0) dX12_startMachine_20 (show mT[46]? = some (75, 0, 3) from rfl) (by omega) (by omega) (by decide) ?_
  refine tm_aload_n dX12_startMachine_21 rfl 0 rfl ?_
  refine tm_get (k := 76) (v := .ref (b + 1 + 47)) lay_12 dX12_startMachine_22 (by decide) fl12_161 rfl ?_
  refine tm_iload_n dX12_startMachine_25 rfl 1 rfl ?_
  refine tm_iconst dX12_startMachine_26 ?_
  refine tm_iast (z := m) (v := 0) dX12_startMachine_27 (show mT[47]? = some (76, 0, 3) from rfl) (by omega) (by omega) (by decide) ?_
  have z73 : (sA 76 (m) (0) (sA 75 (m) (0) (sA 74 (m) (0) (sA 73 (m) (0) σ)))).2.1 73 m = 0 := ra_o (by decide) (ra_o (by decide) (ra_o (by decide) ra_eq))
  refine tm_aload_n dX12_startMachine_28 rfl 0 rfl ?_
  refine tm_iload_n dX12_startMachine_29 rfl 1 rfl ?_
  refine tm_iload_n dX12_startMachine_30 rfl 2 rfl ?_
  refine tm_callV (M := m_X12_startMachine) (pc := 31) (ix := 536) (M' := m_X12_enterCall) (As := [.int (iI m), .int (iI x)]) (rest := []) dX12_startMachine_31 ok_X12_enterCall im_X12_enterCall se_X12_enterCall ml12_536 np_X12_enterCall rfl rfl (Nat.le_of_ble_eq_true rfl) (Nat.le_of_ble_eq_true rfl) rfl (c_X12_enterCall (d) (σ := (sA 76 (m) (0) (sA 75 (m) (0) (sA 74 (m) (0) (sA 73 (m) (0) σ))))) (m := m) (r := x) ((((hR.A (by omega)).A (by omega)).A (by omega)).A (by omega)) hm2 (by rw [z73]; decide) (by omega)) (fun r1 σ2 hp => ?_)
  obtain ⟨rfl, f4, f5, f6, f7, f8, f9⟩ := hp
  show Tm _ _ 34 b σ2 [(0, .ref b), (1, .int (iI m)), (2, .int (iI x)), (3, .int (iI a1)), (4, .int (iI a2)), (5, .int (iI a3)), (6, .int (iI a4))] [] _
  have hE2 := f6
  have hE3 := f7
  have hE4 := f8
  have hE5 := f9
  refine tm_iconst dX12_startMachine_34 ?_
  refine tm_istore (L' := [(7, .int (iI 0)), (0, .ref b), (1, .int (iI m)), (2, .int (iI x)), (3, .int (iI a1)), (4, .int (iI a2)), (5, .int (iI a3)), (6, .int (iI a4))]) dX12_startMachine_35 (by decide) rfl ?_
  refine tm_sub [0, 1, 2, 3, 4, 5, 6, 7] rfl (l_startM (d) (σ0 := σ2) (m := m) (x := x) (a1 := a1) (a2 := a2) (a3 := a3) (a4 := a4) hm2 hx f5 (by rw [((show Fr [] [73, 74, 75, 76, 78, 79, 80, 81, 82] [] σ σ2 from (((((Fr.rfl.A (by decide)).A (by decide)).A (by decide)).A (by decide)).trans (Fr.sub f4 (by decide) (by decide) (by decide))))).2.1 11 (by decide)]; exact hpm) (by rw [((show Fr [] [73, 74, 75, 76, 78, 79, 80, 81, 82] [] σ σ2 from (((((Fr.rfl.A (by decide)).A (by decide)).A (by decide)).A (by decide)).trans (Fr.sub f4 (by decide) (by decide) (by decide))))).2.1 11 (by decide), ((show Fr [] [73, 74, 75, 76, 78, 79, 80, 81, 82] [] σ σ2 from (((((Fr.rfl.A (by decide)).A (by decide)).A (by decide)).A (by decide)).trans (Fr.sub f4 (by decide) (by decide) (by decide))))).2.1 18 (by decide)]; exact hnm) (by omega) (by omega) (by omega) (by omega) (fun n114 σ15 F12 R13 => ?_) _ (0) σ2 Fr.rfl f5 (by omega) rfl)
  show Tm _ _ 106 b σ15 [(7, .int (iI n114)), (0, .ref b), (1, .int (iI m)), (2, .int (iI x)), (3, .int (iI a1)), (4, .int (iI a2)), (5, .int (iI a3)), (6, .int (iI a4))] [] _
  exact tm_vret rfl dX12_startMachine_106 (⟨rfl, ((((((Fr.rfl.A (by decide)).A (by decide)).A (by decide)).A (by decide)).trans (Fr.sub f4 (by decide) (by decide) (by decide))).trans (Fr.sub F12 (by decide) (by decide) (by decide))), R13, ra_F F12 (by decide) (hE2.trans (by rw [z73]; rfl)), by rw [z73] at hE3; rw [show 9 * m + 0 = 9 * m by omega] at hE3; exact ⟨ra_F F12 (by decide) hE3.1, ra_F F12 (by decide) hE3.2.1, ra_F F12 (by decide) hE3.2.2⟩, fun j hj => ra_F F12 (by decide) ((hE4 j hj).trans (ra_o (by decide) (ra_o (by decide) (ra_o (by decide) (ra_ne hj rfl))))), fun j hj => by rw [z73] at hE5; have q := hE5 j (by omega); exact ⟨ra_F F12 (by decide) (q.1.trans rfl), ra_F F12 (by decide) (q.2.1.trans rfl), ra_F F12 (by decide) (q.2.2.trans rfl)⟩⟩)
