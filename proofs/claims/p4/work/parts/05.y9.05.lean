theorem cd_X7_callFrom : Cond.code yX7_callFrom cX7_callFrom 6 none ∈ pWW := pw6 (List.mem_of_getElem? (i := 78) rfl) rfl
abbrev m_X7_callFrom : MT := (yX7_callFrom, cX7_callFrom, 6, none)
theorem ok_X7_callFrom : pOk m_X7_callFrom := ⟨⟨cd_X7_callFrom, ini_7⟩, by decide +kernel, ⟨by decide +kernel, by decide +kernel⟩, Nat.le_of_ble_eq_true rfl⟩
theorem np_X7_callFrom : (parseMethodDescriptor yX7_callFrom.desc).map (fun d => d.parameters.length) = some 1 := by decide +kernel
theorem im_X7_callFrom : Cond.instanceMethod yX7_callFrom ∈ pWW := pw6 (List.mem_of_getElem? (i := 77) rfl) rfl
theorem se_X7_callFrom : Cond.selects RX7 yX7_callFrom yX7_callFrom ∈ pWW := pws (List.mem_map.mpr ⟨_, lw_pin 90 rfl, rfl⟩) rfl
theorem dX7_callFrom_0 : decode cX7_callFrom 0 = .ok (.aload_n 0, 1) := by decide +kernel
theorem dX7_callFrom_1 : decode cX7_callFrom 1 = .ok (.iload_n 1, 1) := by decide +kernel
theorem dX7_callFrom_2 : decode cX7_callFrom 2 = .ok (.iconst 3, 1) := by decide +kernel
theorem dX7_callFrom_3 : decode cX7_callFrom 3 = .ok (.invokevirtual 110, 3) := by decide +kernel
theorem dX7_callFrom_6 : decode cX7_callFrom 6 = .ok (.istore_n 2, 1) := by decide +kernel
theorem dX7_callFrom_7 : decode cX7_callFrom 7 = .ok (.aload_n 0, 1) := by decide +kernel
theorem dX7_callFrom_8 : decode cX7_callFrom 8 = .ok (.iload_n 1, 1) := by decide +kernel
theorem dX7_callFrom_9 : decode cX7_callFrom 9 = .ok (.iconst 5, 1) := by decide +kernel
theorem dX7_callFrom_10 : decode cX7_callFrom 10 = .ok (.invokevirtual 110, 3) := by decide +kernel
theorem dX7_callFrom_13 : decode cX7_callFrom 13 = .ok (.istore_n 3, 1) := by decide +kernel
theorem dX7_callFrom_14 : decode cX7_callFrom 14 = .ok (.aload_n 0, 1) := by decide +kernel
theorem dX7_callFrom_15 : decode cX7_callFrom 15 = .ok (.iload_n 1, 1) := by decide +kernel
theorem dX7_callFrom_16 : decode cX7_callFrom 16 = .ok (.bipush 7, 2) := by decide +kernel
theorem dX7_callFrom_18 : decode cX7_callFrom 18 = .ok (.invokevirtual 110, 3) := by decide +kernel
theorem dX7_callFrom_21 : decode cX7_callFrom 21 = .ok (.istore 4, 2) := by decide +kernel
theorem dX7_callFrom_23 : decode cX7_callFrom 23 = .ok (.aload_n 0, 1) := by decide +kernel
theorem dX7_callFrom_24 : decode cX7_callFrom 24 = .ok (.iload_n 1, 1) := by decide +kernel
theorem dX7_callFrom_25 : decode cX7_callFrom 25 = .ok (.bipush 9, 2) := by decide +kernel
theorem dX7_callFrom_27 : decode cX7_callFrom 27 = .ok (.invokevirtual 110, 3) := by decide +kernel
theorem dX7_callFrom_30 : decode cX7_callFrom 30 = .ok (.istore 5, 2) := by decide +kernel
theorem dX7_callFrom_32 : decode cX7_callFrom 32 = .ok (.aload_n 0, 1) := by decide +kernel
theorem dX7_callFrom_33 : decode cX7_callFrom 33 = .ok (.aload_n 0, 1) := by decide +kernel
theorem dX7_callFrom_34 : decode cX7_callFrom 34 = .ok (.getfield 65, 3) := by decide +kernel
theorem dX7_callFrom_37 : decode cX7_callFrom 37 = .ok (.iconst 1, 1) := by decide +kernel
theorem dX7_callFrom_38 : decode cX7_callFrom 38 = .ok (.iadd, 1) := by decide +kernel
theorem dX7_callFrom_39 : decode cX7_callFrom 39 = .ok (.aload_n 0, 1) := by decide +kernel
theorem dX7_callFrom_40 : decode cX7_callFrom 40 = .ok (.getfield 72, 3) := by decide +kernel
theorem dX7_callFrom_43 : decode cX7_callFrom 43 = .ok (.iload_n 1, 1) := by decide +kernel
theorem dX7_callFrom_44 : decode cX7_callFrom 44 = .ok (.iconst 2, 1) := by decide +kernel
theorem dX7_callFrom_45 : decode cX7_callFrom 45 = .ok (.invokevirtual 117, 3) := by decide +kernel
theorem dX7_callFrom_48 : decode cX7_callFrom 48 = .ok (.invokevirtual 53, 3) := by decide +kernel
theorem dX7_callFrom_51 : decode cX7_callFrom 51 = .ok (.aload_n 0, 1) := by decide +kernel
theorem dX7_callFrom_52 : decode cX7_callFrom 52 = .ok (.getfield 24, 3) := by decide +kernel
theorem dX7_callFrom_55 : decode cX7_callFrom 55 = .ok (.aload_n 0, 1) := by decide +kernel
theorem dX7_callFrom_56 : decode cX7_callFrom 56 = .ok (.iconst 0, 1) := by decide +kernel
theorem dX7_callFrom_57 : decode cX7_callFrom 57 = .ok (.invokevirtual 57, 3) := by decide +kernel
theorem dX7_callFrom_60 : decode cX7_callFrom 60 = .ok (.iload_n 2, 1) := by decide +kernel
theorem dX7_callFrom_61 : decode cX7_callFrom 61 = .ok (.invokestatic 61, 3) := by decide +kernel
theorem dX7_callFrom_64 : decode cX7_callFrom 64 = .ok (.aload_n 0, 1) := by decide +kernel
theorem dX7_callFrom_65 : decode cX7_callFrom 65 = .ok (.getfield 24, 3) := by decide +kernel
theorem dX7_callFrom_68 : decode cX7_callFrom 68 = .ok (.aload_n 0, 1) := by decide +kernel
theorem dX7_callFrom_69 : decode cX7_callFrom 69 = .ok (.iconst 1, 1) := by decide +kernel
theorem dX7_callFrom_70 : decode cX7_callFrom 70 = .ok (.invokevirtual 57, 3) := by decide +kernel
theorem dX7_callFrom_73 : decode cX7_callFrom 73 = .ok (.iload_n 3, 1) := by decide +kernel
theorem dX7_callFrom_74 : decode cX7_callFrom 74 = .ok (.invokestatic 61, 3) := by decide +kernel
theorem dX7_callFrom_77 : decode cX7_callFrom 77 = .ok (.aload_n 0, 1) := by decide +kernel
theorem dX7_callFrom_78 : decode cX7_callFrom 78 = .ok (.getfield 24, 3) := by decide +kernel
theorem dX7_callFrom_81 : decode cX7_callFrom 81 = .ok (.aload_n 0, 1) := by decide +kernel
theorem dX7_callFrom_82 : decode cX7_callFrom 82 = .ok (.iconst 2, 1) := by decide +kernel
theorem dX7_callFrom_83 : decode cX7_callFrom 83 = .ok (.invokevirtual 57, 3) := by decide +kernel
theorem dX7_callFrom_86 : decode cX7_callFrom 86 = .ok (.iload 4, 2) := by decide +kernel
theorem dX7_callFrom_88 : decode cX7_callFrom 88 = .ok (.invokestatic 61, 3) := by decide +kernel
theorem dX7_callFrom_91 : decode cX7_callFrom 91 = .ok (.aload_n 0, 1) := by decide +kernel
theorem dX7_callFrom_92 : decode cX7_callFrom 92 = .ok (.getfield 24, 3) := by decide +kernel
theorem dX7_callFrom_95 : decode cX7_callFrom 95 = .ok (.aload_n 0, 1) := by decide +kernel
theorem dX7_callFrom_96 : decode cX7_callFrom 96 = .ok (.iconst 3, 1) := by decide +kernel
theorem dX7_callFrom_97 : decode cX7_callFrom 97 = .ok (.invokevirtual 57, 3) := by decide +kernel
theorem dX7_callFrom_100 : decode cX7_callFrom 100 = .ok (.iload 5, 2) := by decide +kernel
theorem dX7_callFrom_102 : decode cX7_callFrom 102 = .ok (.invokestatic 61, 3) := by decide +kernel
theorem dX7_callFrom_105 : decode cX7_callFrom 105 = .ok (.return_, 1) := by decide +kernel
set_option maxRecDepth 20000 in
theorem k_X7_callFrom (d : Nat) {T : CT} {σ : MS} {a : Nat} {k : Int} (ha : OB T a 7) (hta : (T a).1 = 37) (h_k : -2147483648 ≤ k ∧ k ≤ 2147483647) (hw : WT T σ) (hn : 0 ≤ σ.2.1 69 a) (h8 : σ.2.1 57 a ≤ 11184799) : Tn (d + 4) m_X7_callFrom 0 T σ [(0, .ref a), (1, .int (iI k))] [] (fun ro T2 σ2 => ro = none ∧ T = T2 ∧ WT T2 σ2 ∧ FrC T [57, 58, 69, 515] σ σ2 ∧ (σ2.2.1 57 a = σ.2.1 57 a + 1) ∧ (FA a σ σ2)) := by
  refine tn_aload_n dX7_callFrom_0 rfl 0 rfl ?_
  refine tn_iload_n dX7_callFrom_1 rfl 1 rfl ?_
  refine tn_iconst dX7_callFrom_2 ?_
  refine tn_callV (M := m_X7_callFrom) (pc := 3) (ix := 110) (ci := 7) (M' := m_X7_operand) (As := [.int (iI k), .int (iI 3)]) (rest := []) dX7_callFrom_3 ok_X7_operand im_X7_operand se_X7_operand ml7_110 np_X7_operand rfl rfl ha rfl (Nat.le_of_ble_eq_true rfl) (Nat.le_of_ble_eq_true rfl) rfl (k_X7_operand (d + 1) (T := T) (σ := σ) (a := a) (k := k) (c := 3) ha (by omega) (by decide) hw (by rw [show σ.2.1 69 a = σ.2.1 69 a from rfl]; exact hn) (by omega)) (fun r1 T3 σ2 gt4 hp => ?_)
  obtain ⟨v6, rfl, rfl, rfl, f5⟩ := hp
  clear gt4
  show Tn _ _ 6 T σ [(0, .ref a), (1, .int (iI k))] [.int (iI v6)] _
  refine tn_istore_n (L' := [(2, .int (iI v6)), (0, .ref a), (1, .int (iI k))]) dX7_callFrom_6 rfl (by decide) rfl ?_
  refine tn_aload_n dX7_callFrom_7 rfl 1 rfl ?_
  refine tn_iload_n dX7_callFrom_8 rfl 2 rfl ?_
  refine tn_iconst dX7_callFrom_9 ?_
  refine tn_callV (M := m_X7_callFrom) (pc := 10) (ix := 110) (ci := 7) (M' := m_X7_operand) (As := [.int (iI k), .int (iI 5)]) (rest := []) dX7_callFrom_10 ok_X7_operand im_X7_operand se_X7_operand ml7_110 np_X7_operand rfl rfl ha rfl (Nat.le_of_ble_eq_true rfl) (Nat.le_of_ble_eq_true rfl) rfl (k_X7_operand (d + 1) (T := T) (σ := σ) (a := a) (k := k) (c := 5) ha (by omega) (by decide) hw (by rw [show σ.2.1 69 a = σ.2.1 69 a from rfl]; exact hn) (by omega)) (fun r7 T9 σ8 gt10 hp => ?_)
  obtain ⟨v12, rfl, rfl, rfl, f11⟩ := hp
  clear gt10
  show Tn _ _ 13 T σ [(2, .int (iI v6)), (0, .ref a), (1, .int (iI k))] [.int (iI v12)] _
  refine tn_istore_n (L' := [(3, .int (iI v12)), (2, .int (iI v6)), (0, .ref a), (1, .int (iI k))]) dX7_callFrom_13 rfl (by decide) rfl ?_
  refine tn_aload_n dX7_callFrom_14 rfl 2 rfl ?_
  refine tn_iload_n dX7_callFrom_15 rfl 3 rfl ?_
  refine tn_bipush dX7_callFrom_16 (by decide) ?_
  refine tn_callV (M := m_X7_callFrom) (pc := 18) (ix := 110) (ci := 7) (M' := m_X7_operand) (As := [.int (iI k), .int (iI 7)]) (rest := []) dX7_callFrom_18 ok_X7_operand im_X7_operand se_X7_operand ml7_110 np_X7_operand rfl rfl ha rfl (Nat.le_of_ble_eq_true rfl) (Nat.le_of_ble_eq_true rfl) rfl (k_X7_operand (d + 1) (T := T) (σ := σ) (a := a) (k := k) (c := 7) ha (by omega) (by decide) hw (by rw [show σ.2.1 69 a = σ.2.1 69 a from rfl]; exact hn) (by omega)) (fun r13 T15 σ14 gt16 hp => ?_)
  obtain ⟨v18, rfl, rfl, rfl, f17⟩ := hp
  clear gt16
  show Tn _ _ 21 T σ [(3, .int (iI v12)), (2, .int (iI v6)), (0, .ref a), (1, .int (iI k))] [.int (iI v18)] _
  refine tn_istore (L' := [(4, .int (iI v18)), (3, .int (iI v12)), (2, .int (iI v6)), (0, .ref a), (1, .int (iI k))]) dX7_callFrom_21 (by decide) rfl ?_
  refine tn_aload_n dX7_callFrom_23 rfl 3 rfl ?_
  refine tn_iload_n dX7_callFrom_24 rfl 4 rfl ?_
  refine tn_bipush dX7_callFrom_25 (by decide) ?_
  refine tn_callV (M := m_X7_callFrom) (pc := 27) (ix := 110) (ci := 7) (M' := m_X7_operand) (As := [.int (iI k), .int (iI 9)]) (rest := []) dX7_callFrom_27 ok_X7_operand im_X7_operand se_X7_operand ml7_110 np_X7_operand rfl rfl ha rfl (Nat.le_of_ble_eq_true rfl) (Nat.le_of_ble_eq_true rfl) rfl (k_X7_operand (d + 1) (T := T) (σ := σ) (a := a) (k := k) (c := 9) ha (by omega) (by decide) hw (by rw [show σ.2.1 69 a = σ.2.1 69 a from rfl]; exact hn) (by omega)) (fun r19 T21 σ20 gt22 hp => ?_)
  obtain ⟨v24, rfl, rfl, rfl, f23⟩ := hp
  clear gt22
  show Tn _ _ 30 T σ [(4, .int (iI v18)), (3, .int (iI v12)), (2, .int (iI v6)), (0, .ref a), (1, .int (iI k))] [.int (iI v24)] _
  refine tn_istore (L' := [(5, .int (iI v24)), (4, .int (iI v18)), (3, .int (iI v12)), (2, .int (iI v6)), (0, .ref a), (1, .int (iI k))]) dX7_callFrom_30 (by decide) rfl ?_
  refine tn_aload_n dX7_callFrom_32 rfl 4 rfl ?_
  refine tn_aload_n dX7_callFrom_33 rfl 4 rfl ?_
  refine tn_getI (ci := 7) (i := 2) (n := 57) (t := σ.2.1 57 a) dX7_callFrom_34 rfl lay_7 (by decide) fl7_65 ha rfl rfl (rfl) ?_
  have g25 : ((0 : Int) ≤ σ.2.1 57 a ∧ σ.2.1 57 a ≤ 11184800) ∧ ((T a).1 = 57 → σ.2.1 57 a ≤ 8) := wf_57 hw ha
  have g25x := g25.2
  replace g25 := g25.1
  clear g25x
  refine tn_iconst dX7_callFrom_37 ?_
  refine tn_iadd dX7_callFrom_38 ?_
  refine tn_aload_n dX7_callFrom_39 rfl 4 rfl ?_
  obtain ⟨x30, hx31, hk32a, hk32b⟩ := (wf_69 hw ha).resolve_left (by have q9 := hn; omega)
  have hk32 : (T x30).1 = 50 := hk32b (by omega)
  clear hk32a hk32b
  have hk32o : OB T x30 1 := ⟨by omega, by rw [hk32]; rfl, by omega⟩
  refine tn_getR (ci := 7) (i := 14) (n := 69) (x := x30) dX7_callFrom_40 rfl lay_7 (by decide) fl7_72 ha rfl rfl (hx31) ?_
  refine tn_iload_n dX7_callFrom_43 rfl 5 rfl ?_
  refine tn_iconst dX7_callFrom_44 ?_
  refine tn_callV (M := m_X7_callFrom) (pc := 45) (ix := 117) (ci := 1) (M' := m_X1_get) (As := [.int (iI k), .int (iI 2)]) (rest := [.int (iI ((σ.2.1 57 a) + 1)), .ref a]) dX7_callFrom_45 ok_X1_get im_X1_get se_X1_get ml7_117 np_X1_get rfl rfl hk32o rfl (Nat.le_of_ble_eq_true rfl) (Nat.le_of_ble_eq_true rfl) rfl (k_X1_get (d + 2) (T := T) (σ := σ) (a := x30) (k := k) (c := 2) hk32o (by omega) (by decide) hw (by omega)) (fun r33 T35 σ34 gt36 hp => ?_)
  obtain ⟨v38, rfl, rfl, rfl, f37⟩ := hp
  clear gt36
  show Tn _ _ 48 T σ [(5, .int (iI v24)), (4, .int (iI v18)), (3, .int (iI v12)), (2, .int (iI v6)), (0, .ref a), (1, .int (iI k))] [.int (iI v38), .int (iI ((σ.2.1 57 a) + 1)), .ref a] _
  refine tn_callV (M := m_X7_callFrom) (pc := 48) (ix := 53) (ci := 7) (M' := m_X7_openCall) (As := [.int (iI ((σ.2.1 57 a) + 1)), .int (iI v38)]) (rest := []) dX7_callFrom_48 ok_X7_openCall im_X7_openCall se_X7_openCall ml7_53 np_X7_openCall rfl rfl ha rfl (Nat.le_of_ble_eq_true rfl) (Nat.le_of_ble_eq_true rfl) rfl (k_X7_openCall (d) (T := T) (σ := σ) (a := a) (c := (σ.2.1 57 a) + 1) (r := v38) ha hta (by omega) (by omega) hw (by omega)) (fun r39 T41 σ40 gt42 hp => ?_)
  obtain ⟨rfl, rfl, w46, F47, f43, f44⟩ := hp
  clear gt42
  show Tn _ _ 51 T σ40 [(5, .int (iI v24)), (4, .int (iI v18)), (3, .int (iI v12)), (2, .int (iI v6)), (0, .ref a), (1, .int (iI k))] [] _
  refine tn_aload_n dX7_callFrom_51 rfl 4 rfl ?_
  obtain ⟨x48, hx49, hk50, hl51⟩ : ∃ x : Nat, σ.2.1 63 a = (x : Int) ∧ AR T x 1 1728 1728 := wf_63 hw ha
  have hk50i : IA T x48 := by unfold IA; omega
  refine tn_getR (ci := 7) (i := 8) (n := 63) (x := x48) dX7_callFrom_52 rfl lay_7 (by decide) fl7_24 ha rfl rfl (rc_F F47 (Or.inl (by decide)) (by decide) (hx49)) ?_
  refine tn_aload_n dX7_callFrom_55 rfl 4 rfl ?_
  refine tn_iconst dX7_callFrom_56 ?_
  refine tn_callV (M := m_X7_callFrom) (pc := 57) (ix := 57) (ci := 7) (M' := m_X7_homeOfParam) (As := [.int (iI 0)]) (rest := [.ref x48]) dX7_callFrom_57 ok_X7_homeOfParam im_X7_homeOfParam se_X7_homeOfParam ml7_57 np_X7_homeOfParam rfl rfl ha rfl (Nat.le_of_ble_eq_true rfl) (Nat.le_of_ble_eq_true rfl) rfl (k_X7_homeOfParam (d) (T := T) (σ := σ40) (a := a) (p1 := 0) ha (by decide) w46 ) (fun r52 T54 σ53 gt55 hp => ?_)
  obtain ⟨v57, rfl, rfl, rfl, f56⟩ := hp
  clear gt55
  show Tn _ _ 60 T σ40 [(5, .int (iI v24)), (4, .int (iI v18)), (3, .int (iI v12)), (2, .int (iI v6)), (0, .ref a), (1, .int (iI k))] [.int (iI v57), .ref x48] _
  refine tn_iload_n dX7_callFrom_60 rfl 3 rfl ?_
  refine tn_callSN (M := m_X7_callFrom) (pc := 61) (ix := 61) (M' := m_X11_put) (As := [.ref x48, .int (iI v57), .int (iI v6)]) (rest := []) dX7_callFrom_61 ok_X11_put stt_X11_put nl7_61 np_X11_put rfl (Nat.le_of_ble_eq_true rfl) (Nat.le_of_ble_eq_true rfl) rfl (k_X11_put (d + 2) (T := T) (σ := σ40) (x := x48) (i := v57) (y := v6) hk50i (by omega) (by omega) (by omega) w46 (nh_k hk50 (by unfold HT; omega)) (vok_1 (by have q9 := hk50; omega) (by omega))) (fun r58 T60 σ59 gt61 hp => ?_)
  obtain ⟨rfl, rfl, w63, F64⟩ := hp
  clear gt61
  show Tn _ _ 64 T σ59 [(5, .int (iI v24)), (4, .int (iI v18)), (3, .int (iI v12)), (2, .int (iI v6)), (0, .ref a), (1, .int (iI k))] [] _
  refine tn_aload_n dX7_callFrom_64 rfl 4 rfl ?_
  refine tn_getR (ci := 7) (i := 8) (n := 63) (x := x48) dX7_callFrom_65 rfl lay_7 (by decide) fl7_24 ha rfl rfl (rc_F F64 (Or.inl (by decide)) (by decide) (rc_F F47 (Or.inl (by decide)) (by decide) (hx49))) ?_
  refine tn_aload_n dX7_callFrom_68 rfl 4 rfl ?_
  refine tn_iconst dX7_callFrom_69 ?_
  refine tn_callV (M := m_X7_callFrom) (pc := 70) (ix := 57) (ci := 7) (M' := m_X7_homeOfParam) (As := [.int (iI 1)]) (rest := [.ref x48]) dX7_callFrom_70 ok_X7_homeOfParam im_X7_homeOfParam se_X7_homeOfParam ml7_57 np_X7_homeOfParam rfl rfl ha rfl (Nat.le_of_ble_eq_true rfl) (Nat.le_of_ble_eq_true rfl) rfl (k_X7_homeOfParam (d) (T := T) (σ := σ59) (a := a) (p1 := 1) ha (by decide) w63 ) (fun r65 T67 σ66 gt68 hp => ?_)
  obtain ⟨v70, rfl, rfl, rfl, f69⟩ := hp
  clear gt68
  show Tn _ _ 73 T σ59 [(5, .int (iI v24)), (4, .int (iI v18)), (3, .int (iI v12)), (2, .int (iI v6)), (0, .ref a), (1, .int (iI k))] [.int (iI v70), .ref x48] _
  refine tn_iload_n dX7_callFrom_73 rfl 2 rfl ?_
  refine tn_callSN (M := m_X7_callFrom) (pc := 74) (ix := 61) (M' := m_X11_put) (As := [.ref x48, .int (iI v70), .int (iI v12)]) (rest := []) dX7_callFrom_74 ok_X11_put stt_X11_put nl7_61 np_X11_put rfl (Nat.le_of_ble_eq_true rfl) (Nat.le_of_ble_eq_true rfl) rfl (k_X11_put (d + 2) (T := T) (σ := σ59) (x := x48) (i := v70) (y := v12) hk50i (by omega) (by omega) (by omega) w63 (nh_k hk50 (by unfold HT; omega)) (vok_1 (by have q9 := hk50; omega) (by omega))) (fun r71 T73 σ72 gt74 hp => ?_)
  obtain ⟨rfl, rfl, w76, F77⟩ := hp
  clear gt74
  show Tn _ _ 77 T σ72 [(5, .int (iI v24)), (4, .int (iI v18)), (3, .int (iI v12)), (2, .int (iI v6)), (0, .ref a), (1, .int (iI k))] [] _
  refine tn_aload_n dX7_callFrom_77 rfl 4 rfl ?_
  refine tn_getR (ci := 7) (i := 8) (n := 63) (x := x48) dX7_callFrom_78 rfl lay_7 (by decide) fl7_24 ha rfl rfl (rc_F F77 (Or.inl (by decide)) (by decide) (rc_F F64 (Or.inl (by decide)) (by decide) (rc_F F47 (Or.inl (by decide)) (by decide) (hx49)))) ?_
  refine tn_aload_n dX7_callFrom_81 rfl 4 rfl ?_
  refine tn_iconst dX7_callFrom_82 ?_
  refine tn_callV (M := m_X7_callFrom) (pc := 83) (ix := 57) (ci := 7) (M' := m_X7_homeOfParam) (As := [.int (iI 2)]) (rest := [.ref x48]) dX7_callFrom_83 ok_X7_homeOfParam im_X7_homeOfParam se_X7_homeOfParam ml7_57 np_X7_homeOfParam rfl rfl ha rfl (Nat.le_of_ble_eq_true rfl) (Nat.le_of_ble_eq_true rfl) rfl (k_X7_homeOfParam (d) (T := T) (σ := σ72) (a := a) (p1 := 2) ha (by decide) w76 ) (fun r78 T80 σ79 gt81 hp => ?_)
  obtain ⟨v83, rfl, rfl, rfl, f82⟩ := hp
  clear gt81
  show Tn _ _ 86 T σ72 [(5, .int (iI v24)), (4, .int (iI v18)), (3, .int (iI v12)), (2, .int (iI v6)), (0, .ref a), (1, .int (iI k))] [.int (iI v83), .ref x48] _
  refine tn_iload dX7_callFrom_86 1 rfl ?_
  refine tn_callSN (M := m_X7_callFrom) (pc := 88) (ix := 61) (M' := m_X11_put) (As := [.ref x48, .int (iI v83), .int (iI v18)]) (rest := []) dX7_callFrom_88 ok_X11_put stt_X11_put nl7_61 np_X11_put rfl (Nat.le_of_ble_eq_true rfl) (Nat.le_of_ble_eq_true rfl) rfl (k_X11_put (d + 2) (T := T) (σ := σ72) (x := x48) (i := v83) (y := v18) hk50i (by omega) (by omega) (by omega) w76 (nh_k hk50 (by unfold HT; omega)) (vok_1 (by have q9 := hk50; omega) (by omega))) (fun r84 T86 σ85 gt87 hp => ?_)
  obtain ⟨rfl, rfl, w89, F90⟩ := hp
  clear gt87
  show Tn _ _ 91 T σ85 [(5, .int (iI v24)), (4, .int (iI v18)), (3, .int (iI v12)), (2, .int (iI v6)), (0, .ref a), (1, .int (iI k))] [] _
  refine tn_aload_n dX7_callFrom_91 rfl 4 rfl ?_
  refine tn_getR (ci := 7) (i := 8) (n := 63) (x := x48) dX7_callFrom_92 rfl lay_7 (by decide) fl7_24 ha rfl rfl (rc_F F90 (Or.inl (by decide)) (by decide) (rc_F F77 (Or.inl (by decide)) (by decide) (rc_F F64 (Or.inl (by decide)) (by decide) (rc_F F47 (Or.inl (by decide)) (by decide) (hx49))))) ?_
  refine tn_aload_n dX7_callFrom_95 rfl 4 rfl ?_
  refine tn_iconst dX7_callFrom_96 ?_
  refine tn_callV (M := m_X7_callFrom) (pc := 97) (ix := 57) (ci := 7) (M' := m_X7_homeOfParam) (As := [.int (iI 3)]) (rest := [.ref x48]) dX7_callFrom_97 ok_X7_homeOfParam im_X7_homeOfParam se_X7_homeOfParam ml7_57 np_X7_homeOfParam rfl rfl ha rfl (Nat.le_of_ble_eq_true rfl) (Nat.le_of_ble_eq_true rfl) rfl (k_X7_homeOfParam (d) (T := T) (σ := σ85) (a := a) (p1 := 3) ha (by decide) w89 ) (fun r91 T93 σ92 gt94 hp => ?_)
  obtain ⟨v96, rfl, rfl, rfl, f95⟩ := hp
  clear gt94
  show Tn _ _ 100 T σ85 [(5, .int (iI v24)), (4, .int (iI v18)), (3, .int (iI v12)), (2, .int (iI v6)), (0, .ref a), (1, .int (iI k))] [.int (iI v96), .ref x48] _
  refine tn_iload dX7_callFrom_100 0 rfl ?_
  refine tn_callSN (M := m_X7_callFrom) (pc := 102) (ix := 61) (M' := m_X11_put) (As := [.ref x48, .int (iI v96), .int (iI v24)]) (rest := []) dX7_callFrom_102 ok_X11_put stt_X11_put nl7_61 np_X11_put rfl (Nat.le_of_ble_eq_true rfl) (Nat.le_of_ble_eq_true rfl) rfl (k_X11_put (d + 2) (T := T) (σ := σ85) (x := x48) (i := v96) (y := v24) hk50i (by omega) (by omega) (by omega) w89 (nh_k hk50 (by unfold HT; omega)) (vok_1 (by have q9 := hk50; omega) (by omega))) (fun r97 T99 σ98 gt100 hp => ?_)
  obtain ⟨rfl, rfl, w102, F103⟩ := hp
  clear gt100
  show Tn _ _ 105 T σ98 [(5, .int (iI v24)), (4, .int (iI v18)), (3, .int (iI v12)), (2, .int (iI v6)), (0, .ref a), (1, .int (iI k))] [] _
  have q104 : σ98.2.1 57 a = σ40.2.1 57 a := rc_F F103 (Or.inl (by decide)) (by decide) (rc_F F90 (Or.inl (by decide)) (by decide) (rc_F F77 (Or.inl (by decide)) (by decide) (rc_F F64 (Or.inl (by decide)) (by decide) (rfl))))
  exact tn_vret rfl dX7_callFrom_105 ⟨rfl, rfl, w102, (((((FrC.rfl.trans (FrC.sub F47 (by decide))).trans (FrC.sub F64 (by decide))).trans (FrC.sub F77 (by decide))).trans (FrC.sub F90 (by decide))).trans (FrC.sub F103 (by decide))), by omega, (((((FA.rfl.trans f44).trans (FA.of F64 (by decide))).trans (FA.of F77 (by decide))).trans (FA.of F90 (by decide))).trans (FA.of F103 (by decide)))⟩
