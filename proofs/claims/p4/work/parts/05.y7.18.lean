theorem cd_X6_fold : Cond.code yX6_fold cX6_fold 8 (some .int) ∈ pWW := pw4 (List.mem_of_getElem? (i := 187) rfl) rfl
abbrev m_X6_fold : MT := (yX6_fold, cX6_fold, 8, (some .int))
theorem ok_X6_fold : pOk m_X6_fold := ⟨⟨cd_X6_fold, ini_6⟩, by decide +kernel, ⟨by decide +kernel, by decide +kernel⟩, Nat.le_of_ble_eq_true rfl⟩
theorem np_X6_fold : (parseMethodDescriptor yX6_fold.desc).map (fun d => d.parameters.length) = some 1 := by decide +kernel
theorem im_X6_fold : Cond.instanceMethod yX6_fold ∈ pWW := pw4 (List.mem_of_getElem? (i := 185) rfl) rfl
theorem se_X6_fold : Cond.selects RX6 yX6_fold yX6_fold ∈ pWW := pw4 (List.mem_of_getElem? (i := 186) rfl) rfl
theorem fl6_22 : Cond.fieldLink RX6 22 (TX1 1).1 (TX1 1).2.1 (TX1 1).2.2.1 ∈ pWW := pw1 (List.mem_of_getElem? (i := 79) rfl) rfl
theorem ml6_28 : Cond.methodLink RX6 28 yJ7_fill_53178 ∈ pWW := pw4 (List.mem_of_getElem? (i := 188) rfl) rfl
theorem nl6_42 : (RX6, 42, yX11_isAct, "LineKeeper") ∈ nst_M := List.mem_of_getElem? (i := 17) rfl
theorem ml6_56 : Cond.methodLink RX6 56 yX6_goesOut ∈ pWW := pw4 (List.mem_of_getElem? (i := 222) rfl) rfl
theorem ml6_59 : Cond.methodLink RX6 59 yX1_removeRow ∈ pWW := pw4 (List.mem_of_getElem? (i := 226) rfl) rfl
theorem ml6_46 : Cond.methodLink RX6 46 yX6_foldOperands ∈ pWW := pw4 (List.mem_of_getElem? (i := 197) rfl) rfl
theorem ml6_50 : Cond.methodLink RX6 50 yX6_foldAct ∈ pWW := pw4 (List.mem_of_getElem? (i := 202) rfl) rfl
theorem ml6_53 : Cond.methodLink RX6 53 yX6_learn ∈ pWW := pw4 (List.mem_of_getElem? (i := 216) rfl) rfl
theorem ml6_38 : Cond.methodLink RX6 38 yX6_foldBind ∈ pWW := pw4 (List.mem_of_getElem? (i := 190) rfl) rfl
theorem dX6_fold_0 : decode cX6_fold 0 = .ok (.iconst 0, 1) := by decide +kernel
theorem dX6_fold_1 : decode cX6_fold 1 = .ok (.istore_n 2, 1) := by decide +kernel
theorem dX6_fold_2 : decode cX6_fold 2 = .ok (.iconst 0, 1) := by decide +kernel
theorem dX6_fold_3 : decode cX6_fold 3 = .ok (.istore_n 3, 1) := by decide +kernel
theorem dX6_fold_4 : decode cX6_fold 4 = .ok (.aload_n 1, 1) := by decide +kernel
theorem dX6_fold_5 : decode cX6_fold 5 = .ok (.getfield 22, 3) := by decide +kernel
theorem dX6_fold_8 : decode cX6_fold 8 = .ok (.istore 4, 2) := by decide +kernel
theorem dX6_fold_10 : decode cX6_fold 10 = .ok (.aload_n 0, 1) := by decide +kernel
theorem dX6_fold_11 : decode cX6_fold 11 = .ok (.getfield 9, 3) := by decide +kernel
theorem dX6_fold_14 : decode cX6_fold 14 = .ok (.iconst 0, 1) := by decide +kernel
theorem dX6_fold_15 : decode cX6_fold 15 = .ok (.invokestatic 28, 3) := by decide +kernel
theorem dX6_fold_18 : decode cX6_fold 18 = .ok (.iconst 0, 1) := by decide +kernel
theorem dX6_fold_19 : decode cX6_fold 19 = .ok (.istore 5, 2) := by decide +kernel
theorem dX6_fold_21 : decode cX6_fold 21 = .ok (.iload 5, 2) := by decide +kernel
theorem dX6_fold_23 : decode cX6_fold 23 = .ok (.iload 4, 2) := by decide +kernel
theorem dX6_fold_25 : decode cX6_fold 25 = .ok (.if_icmp .ge 117, 3) := by decide +kernel
theorem dX6_fold_28 : decode cX6_fold 28 = .ok (.aload_n 1, 1) := by decide +kernel
theorem dX6_fold_29 : decode cX6_fold 29 = .ok (.iload_n 3, 1) := by decide +kernel
theorem dX6_fold_30 : decode cX6_fold 30 = .ok (.iconst 0, 1) := by decide +kernel
theorem dX6_fold_31 : decode cX6_fold 31 = .ok (.invokevirtual 34, 3) := by decide +kernel
theorem dX6_fold_34 : decode cX6_fold 34 = .ok (.istore 6, 2) := by decide +kernel
theorem dX6_fold_36 : decode cX6_fold 36 = .ok (.iload 6, 2) := by decide +kernel
theorem dX6_fold_38 : decode cX6_fold 38 = .ok (.bipush 13, 2) := by decide +kernel
theorem dX6_fold_40 : decode cX6_fold 40 = .ok (.if_icmp .ne 14, 3) := by decide +kernel
theorem dX6_fold_54 : decode cX6_fold 54 = .ok (.iload 6, 2) := by decide +kernel
theorem dX6_fold_56 : decode cX6_fold 56 = .ok (.bipush 12, 2) := by decide +kernel
theorem dX6_fold_58 : decode cX6_fold 58 = .ok (.if_icmp .ne 12, 3) := by decide +kernel
theorem dX6_fold_70 : decode cX6_fold 70 = .ok (.iload 6, 2) := by decide +kernel
theorem dX6_fold_72 : decode cX6_fold 72 = .ok (.invokestatic 42, 3) := by decide +kernel
theorem dX6_fold_75 : decode cX6_fold 75 = .ok (.ifCond .eq 41, 3) := by decide +kernel
theorem dX6_fold_116 : decode cX6_fold 116 = .ok (.aload_n 0, 1) := by decide +kernel
theorem dX6_fold_117 : decode cX6_fold 117 = .ok (.aload_n 1, 1) := by decide +kernel
theorem dX6_fold_118 : decode cX6_fold 118 = .ok (.iload_n 3, 1) := by decide +kernel
theorem dX6_fold_119 : decode cX6_fold 119 = .ok (.invokevirtual 56, 3) := by decide +kernel
theorem dX6_fold_122 : decode cX6_fold 122 = .ok (.ifCond .eq 11, 3) := by decide +kernel
theorem dX6_fold_133 : decode cX6_fold 133 = .ok (.iinc 3 1, 3) := by decide +kernel
theorem dX6_fold_136 : decode cX6_fold 136 = .ok (.iinc 5 1, 3) := by decide +kernel
theorem dX6_fold_139 : decode cX6_fold 139 = .ok (.goto (-118), 3) := by decide +kernel
theorem dX6_fold_125 : decode cX6_fold 125 = .ok (.aload_n 1, 1) := by decide +kernel
theorem dX6_fold_126 : decode cX6_fold 126 = .ok (.iload_n 3, 1) := by decide +kernel
theorem dX6_fold_127 : decode cX6_fold 127 = .ok (.invokevirtual 59, 3) := by decide +kernel
theorem dX6_fold_130 : decode cX6_fold 130 = .ok (.goto 6, 3) := by decide +kernel
theorem dX6_fold_78 : decode cX6_fold 78 = .ok (.aload_n 0, 1) := by decide +kernel
theorem dX6_fold_79 : decode cX6_fold 79 = .ok (.aload_n 1, 1) := by decide +kernel
theorem dX6_fold_80 : decode cX6_fold 80 = .ok (.iload_n 3, 1) := by decide +kernel
theorem dX6_fold_81 : decode cX6_fold 81 = .ok (.invokevirtual 46, 3) := by decide +kernel
theorem dX6_fold_84 : decode cX6_fold 84 = .ok (.istore 7, 2) := by decide +kernel
theorem dX6_fold_86 : decode cX6_fold 86 = .ok (.iload 7, 2) := by decide +kernel
theorem dX6_fold_88 : decode cX6_fold 88 = .ok (.aload_n 0, 1) := by decide +kernel
theorem dX6_fold_89 : decode cX6_fold 89 = .ok (.aload_n 1, 1) := by decide +kernel
theorem dX6_fold_90 : decode cX6_fold 90 = .ok (.iload_n 3, 1) := by decide +kernel
theorem dX6_fold_91 : decode cX6_fold 91 = .ok (.invokevirtual 50, 3) := by decide +kernel
theorem dX6_fold_94 : decode cX6_fold 94 = .ok (.ior, 1) := by decide +kernel
theorem dX6_fold_95 : decode cX6_fold 95 = .ok (.istore 7, 2) := by decide +kernel
theorem dX6_fold_97 : decode cX6_fold 97 = .ok (.iload_n 2, 1) := by decide +kernel
theorem dX6_fold_98 : decode cX6_fold 98 = .ok (.iload 7, 2) := by decide +kernel
theorem dX6_fold_100 : decode cX6_fold 100 = .ok (.ifCond .eq 7, 3) := by decide +kernel
theorem dX6_fold_107 : decode cX6_fold 107 = .ok (.iconst 0, 1) := by decide +kernel
theorem dX6_fold_108 : decode cX6_fold 108 = .ok (.iadd, 1) := by decide +kernel
theorem dX6_fold_109 : decode cX6_fold 109 = .ok (.istore_n 2, 1) := by decide +kernel
theorem dX6_fold_110 : decode cX6_fold 110 = .ok (.aload_n 0, 1) := by decide +kernel
theorem dX6_fold_111 : decode cX6_fold 111 = .ok (.aload_n 1, 1) := by decide +kernel
theorem dX6_fold_112 : decode cX6_fold 112 = .ok (.iload_n 3, 1) := by decide +kernel
theorem dX6_fold_113 : decode cX6_fold 113 = .ok (.invokevirtual 53, 3) := by decide +kernel
theorem dX6_fold_103 : decode cX6_fold 103 = .ok (.iconst 1, 1) := by decide +kernel
theorem dX6_fold_104 : decode cX6_fold 104 = .ok (.goto 4, 3) := by decide +kernel
theorem dX6_fold_61 : decode cX6_fold 61 = .ok (.aload_n 0, 1) := by decide +kernel
theorem dX6_fold_62 : decode cX6_fold 62 = .ok (.aload_n 1, 1) := by decide +kernel
theorem dX6_fold_63 : decode cX6_fold 63 = .ok (.iload_n 3, 1) := by decide +kernel
theorem dX6_fold_64 : decode cX6_fold 64 = .ok (.invokevirtual 38, 3) := by decide +kernel
theorem dX6_fold_67 : decode cX6_fold 67 = .ok (.goto 49, 3) := by decide +kernel
theorem dX6_fold_43 : decode cX6_fold 43 = .ok (.aload_n 0, 1) := by decide +kernel
theorem dX6_fold_44 : decode cX6_fold 44 = .ok (.getfield 9, 3) := by decide +kernel
theorem dX6_fold_47 : decode cX6_fold 47 = .ok (.iconst 0, 1) := by decide +kernel
theorem dX6_fold_48 : decode cX6_fold 48 = .ok (.invokestatic 28, 3) := by decide +kernel
theorem dX6_fold_51 : decode cX6_fold 51 = .ok (.goto 65, 3) := by decide +kernel
set_option maxRecDepth 20000 in
theorem l_X6_fold_21 (d : Nat) {T : CT} {σ0 : MS} {a : Nat} {rx1 : Nat} {c4 : Int} {post : Option Value → CT → MS → Prop} (h_a : OB T a 6) (h_rx1 : OB T rx1 1) (t_rx1 : (T rx1).1 = 50) (r_c4 : 0 ≤ c4 ∧ c4 ≤ 200) (hw0 : WT T σ0) (hx_142 : ∀ (i2 : Int) (i3 : Int) (i5 : Int) (σ : MS) , (WT T σ) → (FrC T [6] σ0 σ) → (-2147483648 ≤ i2 ∧ i2 ≤ 2147483647) → (-2147483648 ≤ i3 ∧ i3 ≤ 2147483647) → (0 ≤ i5 ∧ i5 ≤ 2147483647) → Tn (d + 4) m_X6_fold 142 T σ [(0, .ref a), (1, .ref rx1), (2, .int (iI i2)), (3, .int (iI i3)), (4, .int (iI c4)), (5, .int (iI i5))] [] post) : ∀ (n : Nat) (i2 : Int) (i3 : Int) (i5 : Int) (σ : MS) , (WT T σ) → (FrC T [6] σ0 σ) → (-2147483648 ≤ i2 ∧ i2 ≤ 2147483647) → (-2147483648 ≤ i3 ∧ i3 ≤ 2147483647) → (0 ≤ i5 ∧ i5 ≤ 2147483647) → (2147483700 - i5).toNat = n → Tn (d + 4) m_X6_fold 21 T σ [(0, .ref a), (1, .ref rx1), (2, .int (iI i2)), (3, .int (iI i3)), (4, .int (iI c4)), (5, .int (iI i5))] [] post := by
  intro n
  induction n using Nat.strongRecOn with
  | _ n ih =>
    intro i2 i3 i5 σ hw hF r_i2 r_i3 r_i5 hm
    refine tn_iload dX6_fold_21 5 rfl ?_
    refine tn_iload dX6_fold_23 4 rfl ?_
    refine tn_icmp_ge (tgt := 142) dX6_fold_25 (by decide) ⟨by omega, by omega⟩ ⟨by omega, by omega⟩ (fun h1 => ?_) (fun h1 => ?_)
    · exact tn_sub [0, 1, 2, 3, 4, 5] rfl (hx_142 (i2) (i3) (i5) σ hw (FrC.rfl.trans (FrC.sub hF (by decide))) (by omega) (by omega) (by omega))
    · refine tn_aload_n dX6_fold_28 rfl 1 rfl ?_
      refine tn_iload_n dX6_fold_29 rfl 3 rfl ?_
      refine tn_iconst dX6_fold_30 ?_
      refine tn_callV (M := m_X6_fold) (pc := 31) (ix := 34) (ci := 1) (M' := m_X1_get) (As := [.int (iI i3), .int (iI 0)]) (rest := []) dX6_fold_31 ok_X1_get im_X1_get se_X1_get ml6_34 np_X1_get rfl rfl h_rx1 rfl (Nat.le_of_ble_eq_true rfl) (Nat.le_of_ble_eq_true rfl) rfl (k_X1_get (d + 2) (T := T) (σ := σ) (a := rx1) (k := i3) (c := 0) h_rx1 (by omega) (by decide) hw (by omega)) (fun r2 T4 σ3 gt5 hp => ?_)
      obtain ⟨v7, rfl, rfl, rfl, f6⟩ := hp
      clear gt5
      show Tn _ _ 34 T σ [(0, .ref a), (1, .ref rx1), (2, .int (iI i2)), (3, .int (iI i3)), (4, .int (iI c4)), (5, .int (iI i5))] [.int (iI v7)] _
      refine tn_istore (L' := [(6, .int (iI v7)), (0, .ref a), (1, .ref rx1), (2, .int (iI i2)), (3, .int (iI i3)), (4, .int (iI c4)), (5, .int (iI i5))]) dX6_fold_34 (by decide) rfl ?_
      refine tn_iload dX6_fold_36 0 rfl ?_
      refine tn_bipush dX6_fold_38 (by decide) ?_
      refine tn_icmp_ne (tgt := 54) dX6_fold_40 (by decide) ⟨by omega, by omega⟩ ⟨by decide, by decide⟩ (fun h8 => ?_) (fun h8 => ?_)
      · refine tn_iload dX6_fold_54 0 rfl ?_
        refine tn_bipush dX6_fold_56 (by decide) ?_
        refine tn_icmp_ne (tgt := 70) dX6_fold_58 (by decide) ⟨by omega, by omega⟩ ⟨by decide, by decide⟩ (fun h9 => ?_) (fun h9 => ?_)
        · refine tn_iload dX6_fold_70 0 rfl ?_
          refine tn_callSN (M := m_X6_fold) (pc := 72) (ix := 42) (M' := m_X11_isAct) (As := [.int (iI v7)]) (rest := []) dX6_fold_72 ok_X11_isAct stt_X11_isAct nl6_42 np_X11_isAct rfl (Nat.le_of_ble_eq_true rfl) (Nat.le_of_ble_eq_true rfl) rfl (k_X11_isAct (d + 2) (T := T) (σ := σ) (k := v7) (by omega) hw ) (fun r10 T12 σ11 gt13 hp => ?_)
          obtain ⟨v15, rfl, rfl, rfl, f14⟩ := hp
          clear gt13
          show Tn _ _ 75 T σ [(6, .int (iI v7)), (0, .ref a), (1, .ref rx1), (2, .int (iI i2)), (3, .int (iI i3)), (4, .int (iI c4)), (5, .int (iI i5))] [.int (iI v15)] _
          refine tn_if_eq (tgt := 116) dX6_fold_75 (by decide) ⟨by omega, by omega⟩ (fun h16 => ?_) (fun h16 => ?_)
          · refine tn_aload_n dX6_fold_116 rfl 1 rfl ?_
            refine tn_aload_n dX6_fold_117 rfl 2 rfl ?_
            refine tn_iload_n dX6_fold_118 rfl 4 rfl ?_
            refine tn_callV (M := m_X6_fold) (pc := 119) (ix := 56) (ci := 6) (M' := m_X6_goesOut) (As := [.ref rx1, .int (iI i3)]) (rest := []) dX6_fold_119 ok_X6_goesOut im_X6_goesOut se_X6_goesOut ml6_56 np_X6_goesOut rfl rfl h_a rfl (Nat.le_of_ble_eq_true rfl) (Nat.le_of_ble_eq_true rfl) rfl (k_X6_goesOut (d + 1) (T := T) (σ := σ) (a := a) (p1 := rx1) (p2 := i3) h_a h_rx1 t_rx1 (by omega) hw ) (fun r17 T19 σ18 gt20 hp => ?_)
            obtain ⟨v22, rfl, rfl, rfl, f21⟩ := hp
            clear gt20
            show Tn _ _ 122 T σ [(6, .int (iI v7)), (0, .ref a), (1, .ref rx1), (2, .int (iI i2)), (3, .int (iI i3)), (4, .int (iI c4)), (5, .int (iI i5))] [.int (iI v22)] _
            refine tn_if_eq (tgt := 133) dX6_fold_122 (by decide) ⟨by omega, by omega⟩ (fun h23 => ?_) (fun h23 => ?_)
            · refine tn_iinc (q0 := 4) (L' := [(3, .int (iI (i3 + 1))), (6, .int (iI v7)), (0, .ref a), (1, .ref rx1), (2, .int (iI i2)), (4, .int (iI c4)), (5, .int (iI i5))]) dX6_fold_133 rfl (by decide) rfl ?_
              obtain ⟨z24, g25, g25e⟩ := wr_ex (i3 + 1)
              rw [g25e]
              have g25r : -2147483648 ≤ z24 ∧ z24 ≤ 2147483647 := g25
              refine tn_iinc (q0 := 6) (L' := [(5, .int (iI (i5 + 1))), (3, .int (iI z24)), (6, .int (iI v7)), (0, .ref a), (1, .ref rx1), (2, .int (iI i2)), (4, .int (iI c4))]) dX6_fold_136 rfl (by decide) rfl ?_
              refine tn_goto (tgt := 21) dX6_fold_139 (by decide) ?_
              exact tn_sub [3, 4, 5, 1, 6, 0] rfl (ih _ (by omega) (i2) (z24) (i5 + 1) σ hw (FrC.rfl.trans (FrC.sub hF (by decide))) (by omega) (by omega) (by omega) rfl)
            · refine tn_aload_n dX6_fold_125 rfl 2 rfl ?_
              refine tn_iload_n dX6_fold_126 rfl 4 rfl ?_
              refine tn_callV (M := m_X6_fold) (pc := 127) (ix := 59) (ci := 1) (M' := m_X1_removeRow) (As := [.int (iI i3)]) (rest := []) dX6_fold_127 ok_X1_removeRow im_X1_removeRow se_X1_removeRow ml6_59 np_X1_removeRow rfl rfl h_rx1 rfl (Nat.le_of_ble_eq_true rfl) (Nat.le_of_ble_eq_true rfl) rfl (k_X1_removeRow (d + 2) (T := T) (σ := σ) (a := rx1) (k := i3) h_rx1 t_rx1 (by omega) hw ) (fun r26 T28 σ27 gt29 hp => ?_)
              obtain ⟨rfl, rfl, w31, F32⟩ := hp
              clear gt29
              show Tn _ _ 130 T σ27 [(6, .int (iI v7)), (0, .ref a), (1, .ref rx1), (2, .int (iI i2)), (3, .int (iI i3)), (4, .int (iI c4)), (5, .int (iI i5))] [] _
              refine tn_goto (tgt := 136) dX6_fold_130 (by decide) ?_
              refine tn_iinc (q0 := 6) (L' := [(5, .int (iI (i5 + 1))), (6, .int (iI v7)), (0, .ref a), (1, .ref rx1), (2, .int (iI i2)), (3, .int (iI i3)), (4, .int (iI c4))]) dX6_fold_136 rfl (by decide) rfl ?_
              refine tn_goto (tgt := 21) dX6_fold_139 (by decide) ?_
              exact tn_sub [2, 3, 4, 5, 6, 0] rfl (ih _ (by omega) (i2) (i3) (i5 + 1) σ27 w31 ((FrC.rfl.trans (FrC.sub hF (by decide))).trans (FrC.sub F32 (by decide))) (by omega) (by omega) (by omega) rfl)
          · refine tn_aload_n dX6_fold_78 rfl 1 rfl ?_
            refine tn_aload_n dX6_fold_79 rfl 2 rfl ?_
            refine tn_iload_n dX6_fold_80 rfl 4 rfl ?_
            refine tn_callV (M := m_X6_fold) (pc := 81) (ix := 46) (ci := 6) (M' := m_X6_foldOperands) (As := [.ref rx1, .int (iI i3)]) (rest := []) dX6_fold_81 ok_X6_foldOperands im_X6_foldOperands se_X6_foldOperands ml6_46 np_X6_foldOperands rfl rfl h_a rfl (Nat.le_of_ble_eq_true rfl) (Nat.le_of_ble_eq_true rfl) rfl (k_X6_foldOperands (d + 1) (T := T) (σ := σ) (a := a) (p1 := rx1) (p2 := i3) h_a h_rx1 t_rx1 (by omega) hw ) (fun r33 T35 σ34 gt36 hp => ?_)
            obtain ⟨v38, rfl, rfl, w39, F40, f37⟩ := hp
            clear gt36
            show Tn _ _ 84 T σ34 [(6, .int (iI v7)), (0, .ref a), (1, .ref rx1), (2, .int (iI i2)), (3, .int (iI i3)), (4, .int (iI c4)), (5, .int (iI i5))] [.int (iI v38)] _
            refine tn_istore (L' := [(7, .int (iI v38)), (6, .int (iI v7)), (0, .ref a), (1, .ref rx1), (2, .int (iI i2)), (3, .int (iI i3)), (4, .int (iI c4)), (5, .int (iI i5))]) dX6_fold_84 (by decide) rfl ?_
            refine tn_iload dX6_fold_86 0 rfl ?_
            refine tn_aload_n dX6_fold_88 rfl 2 rfl ?_
            refine tn_aload_n dX6_fold_89 rfl 3 rfl ?_
            refine tn_iload_n dX6_fold_90 rfl 5 rfl ?_
            refine tn_callV (M := m_X6_fold) (pc := 91) (ix := 50) (ci := 6) (M' := m_X6_foldAct) (As := [.ref rx1, .int (iI i3)]) (rest := [.int (iI v38)]) dX6_fold_91 ok_X6_foldAct im_X6_foldAct se_X6_foldAct ml6_50 np_X6_foldAct rfl rfl h_a rfl (Nat.le_of_ble_eq_true rfl) (Nat.le_of_ble_eq_true rfl) rfl (k_X6_foldAct (d) (T := T) (σ := σ34) (a := a) (p1 := rx1) (p2 := i3) h_a h_rx1 t_rx1 (by omega) w39 ) (fun r41 T43 σ42 gt44 hp => ?_)
            obtain ⟨v46, rfl, rfl, w47, F48, f45⟩ := hp
            clear gt44
            show Tn _ _ 94 T σ42 [(7, .int (iI v38)), (6, .int (iI v7)), (0, .ref a), (1, .ref rx1), (2, .int (iI i2)), (3, .int (iI i3)), (4, .int (iI c4)), (5, .int (iI i5))] [.int (iI v46), .int (iI v38)] _
            refine tn_ior dX6_fold_94 ?_
            refine tn_bor (x := v38) (y := v46) (by omega) (by omega) (fun z51 g52 => ?_)
            refine tn_istore (L' := [(7, .int (iI z51)), (6, .int (iI v7)), (0, .ref a), (1, .ref rx1), (2, .int (iI i2)), (3, .int (iI i3)), (4, .int (iI c4)), (5, .int (iI i5))]) dX6_fold_95 (by decide) rfl ?_
            refine tn_iload_n dX6_fold_97 rfl 4 rfl ?_
            refine tn_iload dX6_fold_98 0 rfl ?_
            refine tn_if_eq (tgt := 107) dX6_fold_100 (by decide) ⟨by omega, by omega⟩ (fun h53 => ?_) (fun h53 => ?_)
            · refine tn_iconst dX6_fold_107 ?_
              refine tn_iadd dX6_fold_108 ?_
              refine tn_istore_n (L' := [(2, .int (iI (i2 + 0))), (7, .int (iI z51)), (6, .int (iI v7)), (0, .ref a), (1, .ref rx1), (3, .int (iI i3)), (4, .int (iI c4)), (5, .int (iI i5))]) dX6_fold_109 rfl (by decide) rfl ?_
              refine tn_aload_n dX6_fold_110 rfl 3 rfl ?_
              refine tn_aload_n dX6_fold_111 rfl 4 rfl ?_
              refine tn_iload_n dX6_fold_112 rfl 5 rfl ?_
              refine tn_callV (M := m_X6_fold) (pc := 113) (ix := 53) (ci := 6) (M' := m_X6_learn) (As := [.ref rx1, .int (iI i3)]) (rest := []) dX6_fold_113 ok_X6_learn im_X6_learn se_X6_learn ml6_53 np_X6_learn rfl rfl h_a rfl (Nat.le_of_ble_eq_true rfl) (Nat.le_of_ble_eq_true rfl) rfl (k_X6_learn (d) (T := T) (σ := σ42) (a := a) (p1 := rx1) (p2 := i3) h_a h_rx1 t_rx1 (by omega) w47 ) (fun r54 T56 σ55 gt57 hp => ?_)
              obtain ⟨rfl, rfl, w59, F60⟩ := hp
              clear gt57
              show Tn _ _ 116 T σ55 [(2, .int (iI (i2 + 0))), (7, .int (iI z51)), (6, .int (iI v7)), (0, .ref a), (1, .ref rx1), (3, .int (iI i3)), (4, .int (iI c4)), (5, .int (iI i5))] [] _
              refine tn_aload_n dX6_fold_116 rfl 3 rfl ?_
              refine tn_aload_n dX6_fold_117 rfl 4 rfl ?_
              refine tn_iload_n dX6_fold_118 rfl 5 rfl ?_
              refine tn_callV (M := m_X6_fold) (pc := 119) (ix := 56) (ci := 6) (M' := m_X6_goesOut) (As := [.ref rx1, .int (iI i3)]) (rest := []) dX6_fold_119 ok_X6_goesOut im_X6_goesOut se_X6_goesOut ml6_56 np_X6_goesOut rfl rfl h_a rfl (Nat.le_of_ble_eq_true rfl) (Nat.le_of_ble_eq_true rfl) rfl (k_X6_goesOut (d + 1) (T := T) (σ := σ55) (a := a) (p1 := rx1) (p2 := i3) h_a h_rx1 t_rx1 (by omega) w59 ) (fun r61 T63 σ62 gt64 hp => ?_)
              obtain ⟨v66, rfl, rfl, rfl, f65⟩ := hp
              clear gt64
              show Tn _ _ 122 T σ55 [(2, .int (iI (i2 + 0))), (7, .int (iI z51)), (6, .int (iI v7)), (0, .ref a), (1, .ref rx1), (3, .int (iI i3)), (4, .int (iI c4)), (5, .int (iI i5))] [.int (iI v66)] _
              refine tn_if_eq (tgt := 133) dX6_fold_122 (by decide) ⟨by omega, by omega⟩ (fun h67 => ?_) (fun h67 => ?_)
              · refine tn_iinc (q0 := 5) (L' := [(3, .int (iI (i3 + 1))), (2, .int (iI (i2 + 0))), (7, .int (iI z51)), (6, .int (iI v7)), (0, .ref a), (1, .ref rx1), (4, .int (iI c4)), (5, .int (iI i5))]) dX6_fold_133 rfl (by decide) rfl ?_
                obtain ⟨z68, g69, g69e⟩ := wr_ex (i3 + 1)
                rw [g69e]
                have g69r : -2147483648 ≤ z68 ∧ z68 ≤ 2147483647 := g69
                refine tn_iinc (q0 := 7) (L' := [(5, .int (iI (i5 + 1))), (3, .int (iI z68)), (2, .int (iI (i2 + 0))), (7, .int (iI z51)), (6, .int (iI v7)), (0, .ref a), (1, .ref rx1), (4, .int (iI c4))]) dX6_fold_136 rfl (by decide) rfl ?_
                refine tn_goto (tgt := 21) dX6_fold_139 (by decide) ?_
                exact tn_sub [5, 6, 2, 1, 7, 0] rfl (ih _ (by omega) (i2 + 0) (z68) (i5 + 1) σ55 w59 ((((FrC.rfl.trans (FrC.sub hF (by decide))).trans (FrC.sub F40 (by decide))).trans (FrC.sub F48 (by decide))).trans (FrC.sub F60 (by decide))) (by omega) (by omega) (by omega) rfl)
              · refine tn_aload_n dX6_fold_125 rfl 4 rfl ?_
                refine tn_iload_n dX6_fold_126 rfl 5 rfl ?_
                refine tn_callV (M := m_X6_fold) (pc := 127) (ix := 59) (ci := 1) (M' := m_X1_removeRow) (As := [.int (iI i3)]) (rest := []) dX6_fold_127 ok_X1_removeRow im_X1_removeRow se_X1_removeRow ml6_59 np_X1_removeRow rfl rfl h_rx1 rfl (Nat.le_of_ble_eq_true rfl) (Nat.le_of_ble_eq_true rfl) rfl (k_X1_removeRow (d + 2) (T := T) (σ := σ55) (a := rx1) (k := i3) h_rx1 t_rx1 (by omega) w59 ) (fun r70 T72 σ71 gt73 hp => ?_)
                obtain ⟨rfl, rfl, w75, F76⟩ := hp
                clear gt73
                show Tn _ _ 130 T σ71 [(2, .int (iI (i2 + 0))), (7, .int (iI z51)), (6, .int (iI v7)), (0, .ref a), (1, .ref rx1), (3, .int (iI i3)), (4, .int (iI c4)), (5, .int (iI i5))] [] _
                refine tn_goto (tgt := 136) dX6_fold_130 (by decide) ?_
                refine tn_iinc (q0 := 7) (L' := [(5, .int (iI (i5 + 1))), (2, .int (iI (i2 + 0))), (7, .int (iI z51)), (6, .int (iI v7)), (0, .ref a), (1, .ref rx1), (3, .int (iI i3)), (4, .int (iI c4))]) dX6_fold_136 rfl (by decide) rfl ?_
                refine tn_goto (tgt := 21) dX6_fold_139 (by decide) ?_
                exact tn_sub [4, 5, 1, 6, 7, 0] rfl (ih _ (by omega) (i2 + 0) (i3) (i5 + 1) σ71 w75 (((((FrC.rfl.trans (FrC.sub hF (by decide))).trans (FrC.sub F40 (by decide))).trans (FrC.sub F48 (by decide))).trans (FrC.sub F60 (by decide))).trans (FrC.sub F76 (by decide))) (by omega) (by omega) (by omega) rfl)
            · refine tn_iconst dX6_fold_103 ?_
              refine tn_goto (tgt := 108) dX6_fold_104 (by decide) ?_
              refine tn_iadd dX6_fold_108 ?_
              refine tn_any (fun z77 g78 => ?_)
              have g78r : -2147483648 ≤ z77 ∧ z77 ≤ 2147483647 := g78
              refine tn_istore_n (L' := [(2, .int (iI z77)), (7, .int (iI z51)), (6, .int (iI v7)), (0, .ref a), (1, .ref rx1), (3, .int (iI i3)), (4, .int (iI c4)), (5, .int (iI i5))]) dX6_fold_109 rfl (by decide) rfl ?_
              refine tn_aload_n dX6_fold_110 rfl 3 rfl ?_
              refine tn_aload_n dX6_fold_111 rfl 4 rfl ?_
              refine tn_iload_n dX6_fold_112 rfl 5 rfl ?_
              refine tn_callV (M := m_X6_fold) (pc := 113) (ix := 53) (ci := 6) (M' := m_X6_learn) (As := [.ref rx1, .int (iI i3)]) (rest := []) dX6_fold_113 ok_X6_learn im_X6_learn se_X6_learn ml6_53 np_X6_learn rfl rfl h_a rfl (Nat.le_of_ble_eq_true rfl) (Nat.le_of_ble_eq_true rfl) rfl (k_X6_learn (d) (T := T) (σ := σ42) (a := a) (p1 := rx1) (p2 := i3) h_a h_rx1 t_rx1 (by omega) w47 ) (fun r79 T81 σ80 gt82 hp => ?_)
              obtain ⟨rfl, rfl, w84, F85⟩ := hp
              clear gt82
              show Tn _ _ 116 T σ80 [(2, .int (iI z77)), (7, .int (iI z51)), (6, .int (iI v7)), (0, .ref a), (1, .ref rx1), (3, .int (iI i3)), (4, .int (iI c4)), (5, .int (iI i5))] [] _
              refine tn_aload_n dX6_fold_116 rfl 3 rfl ?_
              refine tn_aload_n dX6_fold_117 rfl 4 rfl ?_
              refine tn_iload_n dX6_fold_118 rfl 5 rfl ?_
              refine tn_callV (M := m_X6_fold) (pc := 119) (ix := 56) (ci := 6) (M' := m_X6_goesOut) (As := [.ref rx1, .int (iI i3)]) (rest := []) dX6_fold_119 ok_X6_goesOut im_X6_goesOut se_X6_goesOut ml6_56 np_X6_goesOut rfl rfl h_a rfl (Nat.le_of_ble_eq_true rfl) (Nat.le_of_ble_eq_true rfl) rfl (k_X6_goesOut (d + 1) (T := T) (σ := σ80) (a := a) (p1 := rx1) (p2 := i3) h_a h_rx1 t_rx1 (by omega) w84 ) (fun r86 T88 σ87 gt89 hp => ?_)
              obtain ⟨v91, rfl, rfl, rfl, f90⟩ := hp
              clear gt89
              show Tn _ _ 122 T σ80 [(2, .int (iI z77)), (7, .int (iI z51)), (6, .int (iI v7)), (0, .ref a), (1, .ref rx1), (3, .int (iI i3)), (4, .int (iI c4)), (5, .int (iI i5))] [.int (iI v91)] _
              refine tn_if_eq (tgt := 133) dX6_fold_122 (by decide) ⟨by omega, by omega⟩ (fun h92 => ?_) (fun h92 => ?_)
              · refine tn_iinc (q0 := 5) (L' := [(3, .int (iI (i3 + 1))), (2, .int (iI z77)), (7, .int (iI z51)), (6, .int (iI v7)), (0, .ref a), (1, .ref rx1), (4, .int (iI c4)), (5, .int (iI i5))]) dX6_fold_133 rfl (by decide) rfl ?_
                obtain ⟨z93, g94, g94e⟩ := wr_ex (i3 + 1)
                rw [g94e]
                have g94r : -2147483648 ≤ z93 ∧ z93 ≤ 2147483647 := g94
                refine tn_iinc (q0 := 7) (L' := [(5, .int (iI (i5 + 1))), (3, .int (iI z93)), (2, .int (iI z77)), (7, .int (iI z51)), (6, .int (iI v7)), (0, .ref a), (1, .ref rx1), (4, .int (iI c4))]) dX6_fold_136 rfl (by decide) rfl ?_
                refine tn_goto (tgt := 21) dX6_fold_139 (by decide) ?_
                exact tn_sub [5, 6, 2, 1, 7, 0] rfl (ih _ (by omega) (z77) (z93) (i5 + 1) σ80 w84 ((((FrC.rfl.trans (FrC.sub hF (by decide))).trans (FrC.sub F40 (by decide))).trans (FrC.sub F48 (by decide))).trans (FrC.sub F85 (by decide))) (by omega) (by omega) (by omega) rfl)
              · refine tn_aload_n dX6_fold_125 rfl 4 rfl ?_
                refine tn_iload_n dX6_fold_126 rfl 5 rfl ?_
                refine tn_callV (M := m_X6_fold) (pc := 127) (ix := 59) (ci := 1) (M' := m_X1_removeRow) (As := [.int (iI i3)]) (rest := []) dX6_fold_127 ok_X1_removeRow im_X1_removeRow se_X1_removeRow ml6_59 np_X1_removeRow rfl rfl h_rx1 rfl (Nat.le_of_ble_eq_true rfl) (Nat.le_of_ble_eq_true rfl) rfl (k_X1_removeRow (d + 2) (T := T) (σ := σ80) (a := rx1) (k := i3) h_rx1 t_rx1 (by omega) w84 ) (fun r95 T97 σ96 gt98 hp => ?_)
                obtain ⟨rfl, rfl, w100, F101⟩ := hp
                clear gt98
                show Tn _ _ 130 T σ96 [(2, .int (iI z77)), (7, .int (iI z51)), (6, .int (iI v7)), (0, .ref a), (1, .ref rx1), (3, .int (iI i3)), (4, .int (iI c4)), (5, .int (iI i5))] [] _
                refine tn_goto (tgt := 136) dX6_fold_130 (by decide) ?_
                refine tn_iinc (q0 := 7) (L' := [(5, .int (iI (i5 + 1))), (2, .int (iI z77)), (7, .int (iI z51)), (6, .int (iI v7)), (0, .ref a), (1, .ref rx1), (3, .int (iI i3)), (4, .int (iI c4))]) dX6_fold_136 rfl (by decide) rfl ?_
                refine tn_goto (tgt := 21) dX6_fold_139 (by decide) ?_
                exact tn_sub [4, 5, 1, 6, 7, 0] rfl (ih _ (by omega) (z77) (i3) (i5 + 1) σ96 w100 (((((FrC.rfl.trans (FrC.sub hF (by decide))).trans (FrC.sub F40 (by decide))).trans (FrC.sub F48 (by decide))).trans (FrC.sub F85 (by decide))).trans (FrC.sub F101 (by decide))) (by omega) (by omega) (by omega) rfl)
        · refine tn_aload_n dX6_fold_61 rfl 1 rfl ?_
          refine tn_aload_n dX6_fold_62 rfl 2 rfl ?_
          refine tn_iload_n dX6_fold_63 rfl 4 rfl ?_
          refine tn_callV (M := m_X6_fold) (pc := 64) (ix := 38) (ci := 6) (M' := m_X6_foldBind) (As := [.ref rx1, .int (iI i3)]) (rest := []) dX6_fold_64 ok_X6_foldBind im_X6_foldBind se_X6_foldBind ml6_38 np_X6_foldBind rfl rfl h_a rfl (Nat.le_of_ble_eq_true rfl) (Nat.le_of_ble_eq_true rfl) rfl (k_X6_foldBind (d) (T := T) (σ := σ) (a := a) (p1 := rx1) (p2 := i3) h_a h_rx1 t_rx1 (by omega) hw ) (fun r102 T104 σ103 gt105 hp => ?_)
          obtain ⟨rfl, rfl, w107, F108⟩ := hp
          clear gt105
          show Tn _ _ 67 T σ103 [(6, .int (iI v7)), (0, .ref a), (1, .ref rx1), (2, .int (iI i2)), (3, .int (iI i3)), (4, .int (iI c4)), (5, .int (iI i5))] [] _
          refine tn_goto (tgt := 116) dX6_fold_67 (by decide) ?_
          refine tn_aload_n dX6_fold_116 rfl 1 rfl ?_
          refine tn_aload_n dX6_fold_117 rfl 2 rfl ?_
          refine tn_iload_n dX6_fold_118 rfl 4 rfl ?_
          refine tn_callV (M := m_X6_fold) (pc := 119) (ix := 56) (ci := 6) (M' := m_X6_goesOut) (As := [.ref rx1, .int (iI i3)]) (rest := []) dX6_fold_119 ok_X6_goesOut im_X6_goesOut se_X6_goesOut ml6_56 np_X6_goesOut rfl rfl h_a rfl (Nat.le_of_ble_eq_true rfl) (Nat.le_of_ble_eq_true rfl) rfl (k_X6_goesOut (d + 1) (T := T) (σ := σ103) (a := a) (p1 := rx1) (p2 := i3) h_a h_rx1 t_rx1 (by omega) w107 ) (fun r109 T111 σ110 gt112 hp => ?_)
          obtain ⟨v114, rfl, rfl, rfl, f113⟩ := hp
          clear gt112
          show Tn _ _ 122 T σ103 [(6, .int (iI v7)), (0, .ref a), (1, .ref rx1), (2, .int (iI i2)), (3, .int (iI i3)), (4, .int (iI c4)), (5, .int (iI i5))] [.int (iI v114)] _
          refine tn_if_eq (tgt := 133) dX6_fold_122 (by decide) ⟨by omega, by omega⟩ (fun h115 => ?_) (fun h115 => ?_)
          · refine tn_iinc (q0 := 4) (L' := [(3, .int (iI (i3 + 1))), (6, .int (iI v7)), (0, .ref a), (1, .ref rx1), (2, .int (iI i2)), (4, .int (iI c4)), (5, .int (iI i5))]) dX6_fold_133 rfl (by decide) rfl ?_
            obtain ⟨z116, g117, g117e⟩ := wr_ex (i3 + 1)
            rw [g117e]
            have g117r : -2147483648 ≤ z116 ∧ z116 ≤ 2147483647 := g117
            refine tn_iinc (q0 := 6) (L' := [(5, .int (iI (i5 + 1))), (3, .int (iI z116)), (6, .int (iI v7)), (0, .ref a), (1, .ref rx1), (2, .int (iI i2)), (4, .int (iI c4))]) dX6_fold_136 rfl (by decide) rfl ?_
            refine tn_goto (tgt := 21) dX6_fold_139 (by decide) ?_
            exact tn_sub [3, 4, 5, 1, 6, 0] rfl (ih _ (by omega) (i2) (z116) (i5 + 1) σ103 w107 ((FrC.rfl.trans (FrC.sub hF (by decide))).trans (FrC.sub F108 (by decide))) (by omega) (by omega) (by omega) rfl)
          · refine tn_aload_n dX6_fold_125 rfl 2 rfl ?_
            refine tn_iload_n dX6_fold_126 rfl 4 rfl ?_
            refine tn_callV (M := m_X6_fold) (pc := 127) (ix := 59) (ci := 1) (M' := m_X1_removeRow) (As := [.int (iI i3)]) (rest := []) dX6_fold_127 ok_X1_removeRow im_X1_removeRow se_X1_removeRow ml6_59 np_X1_removeRow rfl rfl h_rx1 rfl (Nat.le_of_ble_eq_true rfl) (Nat.le_of_ble_eq_true rfl) rfl (k_X1_removeRow (d + 2) (T := T) (σ := σ103) (a := rx1) (k := i3) h_rx1 t_rx1 (by omega) w107 ) (fun r118 T120 σ119 gt121 hp => ?_)
            obtain ⟨rfl, rfl, w123, F124⟩ := hp
            clear gt121
            show Tn _ _ 130 T σ119 [(6, .int (iI v7)), (0, .ref a), (1, .ref rx1), (2, .int (iI i2)), (3, .int (iI i3)), (4, .int (iI c4)), (5, .int (iI i5))] [] _
            refine tn_goto (tgt := 136) dX6_fold_130 (by decide) ?_
            refine tn_iinc (q0 := 6) (L' := [(5, .int (iI (i5 + 1))), (6, .int (iI v7)), (0, .ref a), (1, .ref rx1), (2, .int (iI i2)), (3, .int (iI i3)), (4, .int (iI c4))]) dX6_fold_136 rfl (by decide) rfl ?_
            refine tn_goto (tgt := 21) dX6_fold_139 (by decide) ?_
            exact tn_sub [2, 3, 4, 5, 6, 0] rfl (ih _ (by omega) (i2) (i3) (i5 + 1) σ119 w123 (((FrC.rfl.trans (FrC.sub hF (by decide))).trans (FrC.sub F108 (by decide))).trans (FrC.sub F124 (by decide))) (by omega) (by omega) (by omega) rfl)
      · refine tn_aload_n dX6_fold_43 rfl 1 rfl ?_
        obtain ⟨x125, hx126, hk127, hl128⟩ : ∃ x : Nat, σ0.2.1 52 a = (x : Int) ∧ AR T x 1 192 192 := wf_52 hw0 h_a
        have hk127i : IA T x125 := by unfold IA; omega
        refine tn_getR (ci := 6) (i := 0) (n := 52) (x := x125) dX6_fold_44 rfl lay_6 (by decide) fl6_9 h_a rfl rfl (rc_F hF (Or.inl (by decide)) (by decide) (hx126)) ?_
        refine tn_iconst dX6_fold_47 ?_
        refine tn_callS (M := m_X6_fold) (pc := 48) (ix := 28) (M' := m_J7_fill_53178) (As := [.ref x125, .int (iI 0)]) (rest := []) dX6_fold_48 ok_J7_fill_53178 stt_J7_fill_53178 ml6_28 np_J7_fill_53178 rfl (Nat.le_of_ble_eq_true rfl) (Nat.le_of_ble_eq_true rfl) rfl (k_J7_fill_53178 (d + 2) (T := T) (σ := σ) (x := x125) (y := 0) hk127i (by omega) (by decide) hw (nh_k hk127 (by unfold HT; omega)) (by omega)) (fun r129 T131 σ130 gt132 hp => ?_)
        obtain ⟨rfl, rfl, w134, F135⟩ := hp
        clear gt132
        show Tn _ _ 51 T σ130 [(6, .int (iI v7)), (0, .ref a), (1, .ref rx1), (2, .int (iI i2)), (3, .int (iI i3)), (4, .int (iI c4)), (5, .int (iI i5))] [] _
        refine tn_goto (tgt := 116) dX6_fold_51 (by decide) ?_
        refine tn_aload_n dX6_fold_116 rfl 1 rfl ?_
        refine tn_aload_n dX6_fold_117 rfl 2 rfl ?_
        refine tn_iload_n dX6_fold_118 rfl 4 rfl ?_
        refine tn_callV (M := m_X6_fold) (pc := 119) (ix := 56) (ci := 6) (M' := m_X6_goesOut) (As := [.ref rx1, .int (iI i3)]) (rest := []) dX6_fold_119 ok_X6_goesOut im_X6_goesOut se_X6_goesOut ml6_56 np_X6_goesOut rfl rfl h_a rfl (Nat.le_of_ble_eq_true rfl) (Nat.le_of_ble_eq_true rfl) rfl (k_X6_goesOut (d + 1) (T := T) (σ := σ130) (a := a) (p1 := rx1) (p2 := i3) h_a h_rx1 t_rx1 (by omega) w134 ) (fun r136 T138 σ137 gt139 hp => ?_)
        obtain ⟨v141, rfl, rfl, rfl, f140⟩ := hp
        clear gt139
        show Tn _ _ 122 T σ130 [(6, .int (iI v7)), (0, .ref a), (1, .ref rx1), (2, .int (iI i2)), (3, .int (iI i3)), (4, .int (iI c4)), (5, .int (iI i5))] [.int (iI v141)] _
        refine tn_if_eq (tgt := 133) dX6_fold_122 (by decide) ⟨by omega, by omega⟩ (fun h142 => ?_) (fun h142 => ?_)
        · refine tn_iinc (q0 := 4) (L' := [(3, .int (iI (i3 + 1))), (6, .int (iI v7)), (0, .ref a), (1, .ref rx1), (2, .int (iI i2)), (4, .int (iI c4)), (5, .int (iI i5))]) dX6_fold_133 rfl (by decide) rfl ?_
          obtain ⟨z143, g144, g144e⟩ := wr_ex (i3 + 1)
          rw [g144e]
          have g144r : -2147483648 ≤ z143 ∧ z143 ≤ 2147483647 := g144
          refine tn_iinc (q0 := 6) (L' := [(5, .int (iI (i5 + 1))), (3, .int (iI z143)), (6, .int (iI v7)), (0, .ref a), (1, .ref rx1), (2, .int (iI i2)), (4, .int (iI c4))]) dX6_fold_136 rfl (by decide) rfl ?_
          refine tn_goto (tgt := 21) dX6_fold_139 (by decide) ?_
          exact tn_sub [3, 4, 5, 1, 6, 0] rfl (ih _ (by omega) (i2) (z143) (i5 + 1) σ130 w134 ((FrC.rfl.trans (FrC.sub hF (by decide))).trans (FrC.sub F135 (by decide))) (by omega) (by omega) (by omega) rfl)
        · refine tn_aload_n dX6_fold_125 rfl 2 rfl ?_
          refine tn_iload_n dX6_fold_126 rfl 4 rfl ?_
          refine tn_callV (M := m_X6_fold) (pc := 127) (ix := 59) (ci := 1) (M' := m_X1_removeRow) (As := [.int (iI i3)]) (rest := []) dX6_fold_127 ok_X1_removeRow im_X1_removeRow se_X1_removeRow ml6_59 np_X1_removeRow rfl rfl h_rx1 rfl (Nat.le_of_ble_eq_true rfl) (Nat.le_of_ble_eq_true rfl) rfl (k_X1_removeRow (d + 2) (T := T) (σ := σ130) (a := rx1) (k := i3) h_rx1 t_rx1 (by omega) w134 ) (fun r145 T147 σ146 gt148 hp => ?_)
          obtain ⟨rfl, rfl, w150, F151⟩ := hp
          clear gt148
          show Tn _ _ 130 T σ146 [(6, .int (iI v7)), (0, .ref a), (1, .ref rx1), (2, .int (iI i2)), (3, .int (iI i3)), (4, .int (iI c4)), (5, .int (iI i5))] [] _
          refine tn_goto (tgt := 136) dX6_fold_130 (by decide) ?_
          refine tn_iinc (q0 := 6) (L' := [(5, .int (iI (i5 + 1))), (6, .int (iI v7)), (0, .ref a), (1, .ref rx1), (2, .int (iI i2)), (3, .int (iI i3)), (4, .int (iI c4))]) dX6_fold_136 rfl (by decide) rfl ?_
          refine tn_goto (tgt := 21) dX6_fold_139 (by decide) ?_
          exact tn_sub [2, 3, 4, 5, 6, 0] rfl (ih _ (by omega) (i2) (i3) (i5 + 1) σ146 w150 (((FrC.rfl.trans (FrC.sub hF (by decide))).trans (FrC.sub F135 (by decide))).trans (FrC.sub F151 (by decide))) (by omega) (by omega) (by omega) rfl)
theorem dX6_fold_142 : decode cX6_fold 142 = .ok (.iload_n 2, 1) := by decide +kernel
theorem dX6_fold_143 : decode cX6_fold 143 = .ok (.ireturn, 1) := by decide +kernel
set_option maxRecDepth 20000 in
theorem k_X6_fold (d : Nat) {T : CT} {σ : MS} {a : Nat} {p1 : Nat} (ha : OB T a 6) (h_p1 : OB T p1 1) (t_p1 : (T p1).1 = 50) (hw : WT T σ) : Tn (d + 4) m_X6_fold 0 T σ [(0, .ref a), (1, .ref p1)] [] (fun ro T2 σ2 => ∃ v : Int, ro = some (.int (iI v)) ∧ T = T2 ∧ WT T2 σ2 ∧ FrC T [6] σ σ2 ∧ (-2147483648 ≤ v ∧ v ≤ 2147483647)) := by
  refine tn_iconst dX6_fold_0 ?_
  refine tn_istore_n (L' := [(2, .int (iI 0)), (0, .ref a), (1, .ref p1)]) dX6_fold_1 rfl (by decide) rfl ?_
  refine tn_iconst dX6_fold_2 ?_
  refine tn_istore_n (L' := [(3, .int (iI 0)), (2, .int (iI 0)), (0, .ref a), (1, .ref p1)]) dX6_fold_3 rfl (by decide) rfl ?_
  refine tn_aload_n dX6_fold_4 rfl 3 rfl ?_
  refine tn_getI (ci := 1) (i := 1) (n := 6) (t := σ.2.1 6 p1) dX6_fold_5 rfl lay_1 (by decide) fl6_22 h_p1 rfl rfl (rfl) ?_
  have g1 : ((0 : Int) ≤ σ.2.1 6 p1 ∧ σ.2.1 6 p1 ≤ 5000) ∧ ((T p1).1 = 50 → σ.2.1 6 p1 ≤ 200) := wf_6 hw h_p1
  have g1x := g1.2
  replace g1 := g1.1
  have g1x := g1x t_p1
  refine tn_istore (L' := [(4, .int (iI (σ.2.1 6 p1))), (3, .int (iI 0)), (2, .int (iI 0)), (0, .ref a), (1, .ref p1)]) dX6_fold_8 (by decide) rfl ?_
  refine tn_aload_n dX6_fold_10 rfl 3 rfl ?_
  obtain ⟨x2, hx3, hk4, hl5⟩ : ∃ x : Nat, σ.2.1 52 a = (x : Int) ∧ AR T x 1 192 192 := wf_52 hw ha
  have hk4i : IA T x2 := by unfold IA; omega
  refine tn_getR (ci := 6) (i := 0) (n := 52) (x := x2) dX6_fold_11 rfl lay_6 (by decide) fl6_9 ha rfl rfl (hx3) ?_
  refine tn_iconst dX6_fold_14 ?_
  refine tn_callS (M := m_X6_fold) (pc := 15) (ix := 28) (M' := m_J7_fill_53178) (As := [.ref x2, .int (iI 0)]) (rest := []) dX6_fold_15 ok_J7_fill_53178 stt_J7_fill_53178 ml6_28 np_J7_fill_53178 rfl (Nat.le_of_ble_eq_true rfl) (Nat.le_of_ble_eq_true rfl) rfl (k_J7_fill_53178 (d + 2) (T := T) (σ := σ) (x := x2) (y := 0) hk4i (by omega) (by decide) hw (nh_k hk4 (by unfold HT; omega)) (by omega)) (fun r6 T8 σ7 gt9 hp => ?_)
  obtain ⟨rfl, rfl, w11, F12⟩ := hp
  clear gt9
  show Tn _ _ 18 T σ7 [(4, .int (iI (σ.2.1 6 p1))), (3, .int (iI 0)), (2, .int (iI 0)), (0, .ref a), (1, .ref p1)] [] _
  refine tn_iconst dX6_fold_18 ?_
  refine tn_istore (L' := [(5, .int (iI 0)), (4, .int (iI (σ.2.1 6 p1))), (3, .int (iI 0)), (2, .int (iI 0)), (0, .ref a), (1, .ref p1)]) dX6_fold_19 (by decide) rfl ?_
  refine tn_sub [4, 5, 3, 2, 1, 0] rfl (l_X6_fold_21 (d) (T := T) (σ0 := σ7) (a := a) (rx1 := p1) (c4 := σ.2.1 6 p1) ha h_p1 t_p1 (by omega) w11 (fun i213 i314 i515 σ16 w19 F20 r21 r22 r23 => ?_) _ (0) (0) (0) σ7 w11 FrC.rfl (by omega) (by omega) (by omega) rfl)
  show Tn _ _ 142 T σ16 [(0, .ref a), (1, .ref p1), (2, .int (iI i213)), (3, .int (iI i314)), (4, .int (iI (σ.2.1 6 p1))), (5, .int (iI i515))] [] _
  refine tn_iload_n dX6_fold_142 rfl 2 rfl ?_
  exact tn_iret rfl dX6_fold_143 ⟨_, rfl, rfl, w19, ((FrC.rfl.trans (FrC.sub F12 (by decide))).trans (FrC.sub F20 (by decide))), by omega⟩
