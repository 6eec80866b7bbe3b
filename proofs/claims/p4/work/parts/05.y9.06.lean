set_option maxRecDepth 20000 in
theorem k_X7_callFrom_57 (d : Nat) {T : CT} {σ : MS} {a : Nat} {k : Int} (ha : OB T a 7) (hta : (T a).1 = 57) (h_k : -2147483648 ≤ k ∧ k ≤ 2147483647) (hw : WT T σ) (hn : 0 ≤ σ.2.1 69 a) (h8 : σ.2.1 57 a ≤ 7) (hd : 0 ≤ σ.2.1 58 a ∧ σ.2.1 58 a ≤ 100) : Tn (d + 4) m_X7_callFrom 0 T σ [(0, .ref a), (1, .int (iI k))] [] (fun ro T2 σ2 => ro = none ∧ T = T2 ∧ WT T2 σ2 ∧ FrC T [57, 58, 69, 515] σ σ2 ∧ (σ2.2.1 57 a = σ.2.1 57 a + 1) ∧ (σ2.2.1 58 a = σ.2.1 58 a + 1) ∧ (FA a σ σ2)) := by
  refine tn_aload_n dX7_callFrom_0 rfl 0 rfl ?_
  refine tn_iload_n dX7_callFrom_1 rfl 1 rfl ?_
  refine tn_iconst dX7_callFrom_2 ?_
  refine tn_callV (M := m_X7_callFrom) (pc := 3) (ix := 110) (ci := 7) (M' := m_X7_operand) (As := [.int (iI k), .int (iI 3)]) (rest := []) dX7_callFrom_3 ok_X7_operand im_X7_operand se_X7_operand ml7_110 np_X7_operand rfl rfl ha rfl (Nat.le_of_ble_eq_true rfl) (Nat.le_of_ble_eq_true rfl) rfl (k_X7_operand (d + 1) (T := T) (σ := σ) (a := a) (k := k) (c := 3) ha (by omega) (by decide) hw (by rw [show σ.2.1 69 a = σ.2.1 69 a from rfl]; exact hn) (by omega)) (fun r1 T3 σ2 gt4 hp => ?_)
  obtain ⟨v6, rfl, rfl, rfl, f5⟩ := hp
  clear gt4
  show Tn _ _ 6 T σ [(0, .ref a), (1, .int (iI k))] [.int (iI v6)] _
  refine tn_istore_n (L' := [(2, .int (iI v6)), (0, .ref a), (1, .int (iI k))]) dX7_callFrom_6 rfl (by decide) rfl ?_
  refine tn_aload_n dX7_callFrom_7 rfl 1 rfl ?_
  refine tn_iload_n dX7_callFrom_8 rfl 2 rfl ?_
  refine tn_iconst dX7_callFrom_9 ?_
  refine tn_callV (M := m_X7_callFrom) (pc := 10) (ix := 110) (ci := 7) (M' := m_X7_operand) (As := [.int (iI k), .int (iI 5)]) (rest := []) dX7_callFrom_10 ok_X7_operand im_X7_operand se_X7_operand ml7_110 np_X7_operand rfl rfl ha rfl (Nat.le_of_ble_eq_true rfl) (Nat.le_of_ble_eq_true rfl) rfl (k_X7_operand (d + 1) (T := T) (σ := σ) (a := a) (k := k) (c := 5) ha (by omega) (by decide) hw (by rw [show σ.2.1 69 a = σ.2.1 69 a from rfl]; exact hn) (by omega)) (fun r7 T9 σ8 gt10 hp => ?_)
  obtain ⟨v12, rfl, rfl, rfl, f11⟩ := hp
  clear gt10
  show Tn _ _ 13 T σ [(2, .int (iI v6)), (0, .ref a), (1, .int (iI k))] [.int (iI v12)] _
  refine tn_istore_n (L' := [(3, .int (iI v12)), (2, .int (iI v6)), (0, .ref a), (1, .int (iI k))]) dX7_callFrom_13 rfl (by decide) rfl ?_
  refine tn_aload_n dX7_callFrom_14 rfl 2 rfl ?_
  refine tn_iload_n dX7_callFrom_15 rfl 3 rfl ?_
  refine tn_bipush dX7_callFrom_16 (by decide) ?_
  refine tn_callV (M := m_X7_callFrom) (pc := 18) (ix := 110) (ci := 7) (M' := m_X7_operand) (As := [.int (iI k), .int (iI 7)]) (rest := []) dX7_callFrom_18 ok_X7_operand im_X7_operand se_X7_operand ml7_110 np_X7_operand rfl rfl ha rfl (Nat.le_of_ble_eq_true rfl) (Nat.le_of_ble_eq_true rfl) rfl (k_X7_operand (d + 1) (T := T) (σ := σ) (a := a) (k := k) (c := 7) ha (by omega) (by decide) hw (by rw [show σ.2.1 69 a = σ.2.1 69 a from rfl]; exact hn) (by omega)) (fun r13 T15 σ14 gt16 hp => ?_)
  obtain ⟨v18, rfl, rfl, rfl, f17⟩ := hp
  clear gt16
  show Tn _ _ 21 T σ [(3, .int (iI v12)), (2, .int (iI v6)), (0, .ref a), (1, .int (iI k))] [.int (iI v18)] _
  refine tn_istore (L' := [(4, .int (iI v18)), (3, .int (iI v12)), (2, .int (iI v6)), (0, .ref a), (1, .int (iI k))]) dX7_callFrom_21 (by decide) rfl ?_
  refine tn_aload_n dX7_callFrom_23 rfl 3 rfl ?_
  refine tn_iload_n dX7_callFrom_24 rfl 4 rfl ?_
  refine tn_bipush dX7_callFrom_25 (by decide) ?_
  refine tn_callV (M := m_X7_callFrom) (pc := 27) (ix := 110) (ci := 7) (M' := m_X7_operand) (As := [.int (iI k), .int (iI 9)]) (rest := []) dX7_callFrom_27 ok_X7_operand im_X7_operand se_X7_operand ml7_110 np_X7_operand rfl rfl ha rfl (Nat.le_of_ble_eq_true rfl) (Nat.le_of_ble_eq_true rfl) rfl (k_X7_operand (d + 1) (T := T) (σ := σ) (a := a) (k := k) (c := 9) ha (by omega) (by decide) hw (by rw [show σ.2.1 69 a = σ.2.1 69 a from rfl]; exact hn) (by omega)) (fun r19 T21 σ20 gt22 hp => ?_)
  obtain ⟨v24, rfl, rfl, rfl, f23⟩ := hp
  clear gt22
  show Tn _ _ 30 T σ [(4, .int (iI v18)), (3, .int (iI v12)), (2, .int (iI v6)), (0, .ref a), (1, .int (iI k))] [.int (iI v24)] _
  refine tn_istore (L' := [(5, .int (iI v24)), (4, .int (iI v18)), (3, .int (iI v12)), (2, .int (iI v6)), (0, .ref a), (1, .int (iI k))]) dX7_callFrom_30 (by decide) rfl ?_
  refine tn_aload_n dX7_callFrom_32 rfl 4 rfl ?_
  refine tn_aload_n dX7_callFrom_33 rfl 4 rfl ?_
  refine tn_getI (ci := 7) (i := 2) (n := 57) (t := σ.2.1 57 a) dX7_callFrom_34 rfl lay_7 (by decide) fl7_65 ha rfl rfl (rfl) ?_
  have g25 : ((0 : Int) ≤ σ.2.1 57 a ∧ σ.2.1 57 a ≤ 11184800) ∧ ((T a).1 = 57 → σ.2.1 57 a ≤ 8) := wf_57 hw ha
  have g25x := g25.2
  replace g25 := g25.1
  have g25x := g25x hta
  refine tn_iconst dX7_callFrom_37 ?_
  refine tn_iadd dX7_callFrom_38 ?_
  refine tn_aload_n dX7_callFrom_39 rfl 4 rfl ?_
  obtain ⟨x30, hx31, hk32a, hk32b⟩ := (wf_69 hw ha).resolve_left (by have q9 := hn; omega)
  have hk32 : (T x30).1 = 31 := hk32a (by omega)
  clear hk32a hk32b
  have hk32o : OB T x30 1 := ⟨by omega, by rw [hk32]; rfl, by omega⟩
  refine tn_getR (ci := 7) (i := 14) (n := 69) (x := x30) dX7_callFrom_40 rfl lay_7 (by decide) fl7_72 ha rfl rfl (hx31) ?_
  refine tn_iload_n dX7_callFrom_43 rfl 5 rfl ?_
  refine tn_iconst dX7_callFrom_44 ?_
  refine tn_callV (M := m_X7_callFrom) (pc := 45) (ix := 117) (ci := 1) (M' := m_X1_get) (As := [.int (iI k), .int (iI 2)]) (rest := [.int (iI ((σ.2.1 57 a) + 1)), .ref a]) dX7_callFrom_45 ok_X1_get im_X1_get se_X1_get ml7_117 np_X1_get rfl rfl hk32o rfl (Nat.le_of_ble_eq_true rfl) (Nat.le_of_ble_eq_true rfl) rfl (k_X1_get (d + 2) (T := T) (σ := σ) (a := x30) (k := k) (c := 2) hk32o (by omega) (by decide) hw (by omega)) (fun r33 T35 σ34 gt36 hp => ?_)
  obtain ⟨v38, rfl, rfl, rfl, f37⟩ := hp
  clear gt36
  show Tn _ _ 48 T σ [(5, .int (iI v24)), (4, .int (iI v18)), (3, .int (iI v12)), (2, .int (iI v6)), (0, .ref a), (1, .int (iI k))] [.int (iI v38), .int (iI ((σ.2.1 57 a) + 1)), .ref a] _
  refine tn_callV (M := m_X7_callFrom) (pc := 48) (ix := 53) (ci := 7) (M' := m_X7_openCall) (As := [.int (iI ((σ.2.1 57 a) + 1)), .int (iI v38)]) (rest := []) dX7_callFrom_48 ok_X7_openCall im_X7_openCall se_X7_openCall ml7_53 np_X7_openCall rfl rfl ha rfl (Nat.le_of_ble_eq_true rfl) (Nat.le_of_ble_eq_true rfl) rfl (k_X7_openCall_57 (d) (T := T) (σ := σ) (a := a) (c := (σ.2.1 57 a) + 1) (r := v38) ha hta (by omega) (by omega) hw (by omega) (by rw [show σ.2.1 58 a = σ.2.1 58 a from rfl]; omega)) (fun r39 T41 σ40 gt42 hp => ?_)
  obtain ⟨rfl, rfl, w47, F48, f43, f44, f45⟩ := hp
  clear gt42
  show Tn _ _ 51 T σ40 [(5, .int (iI v24)), (4, .int (iI v18)), (3, .int (iI v12)), (2, .int (iI v6)), (0, .ref a), (1, .int (iI k))] [] _
  refine tn_aload_n dX7_callFrom_51 rfl 4 rfl ?_
  obtain ⟨x49, hx50, hk51, hl52⟩ : ∃ x : Nat, σ.2.1 63 a = (x : Int) ∧ AR T x 1 1728 1728 := wf_63 hw ha
  have hk51i : IA T x49 := by unfold IA; omega
  refine tn_getR (ci := 7) (i := 8) (n := 63) (x := x49) dX7_callFrom_52 rfl lay_7 (by decide) fl7_24 ha rfl rfl (rc_F F48 (Or.inl (by decide)) (by decide) (hx50)) ?_
  refine tn_aload_n dX7_callFrom_55 rfl 4 rfl ?_
  refine tn_iconst dX7_callFrom_56 ?_
  refine tn_callV (M := m_X7_callFrom) (pc := 57) (ix := 57) (ci := 7) (M' := m_X7_homeOfParam) (As := [.int (iI 0)]) (rest := [.ref x49]) dX7_callFrom_57 ok_X7_homeOfParam im_X7_homeOfParam se_X7_homeOfParam ml7_57 np_X7_homeOfParam rfl rfl ha rfl (Nat.le_of_ble_eq_true rfl) (Nat.le_of_ble_eq_true rfl) rfl (k_X7_homeOfParam (d) (T := T) (σ := σ40) (a := a) (p1 := 0) ha (by decide) w47 ) (fun r53 T55 σ54 gt56 hp => ?_)
  obtain ⟨v58, rfl, rfl, rfl, f57⟩ := hp
  clear gt56
  show Tn _ _ 60 T σ40 [(5, .int (iI v24)), (4, .int (iI v18)), (3, .int (iI v12)), (2, .int (iI v6)), (0, .ref a), (1, .int (iI k))] [.int (iI v58), .ref x49] _
  refine tn_iload_n dX7_callFrom_60 rfl 3 rfl ?_
  refine tn_callSN (M := m_X7_callFrom) (pc := 61) (ix := 61) (M' := m_X11_put) (As := [.ref x49, .int (iI v58), .int (iI v6)]) (rest := []) dX7_callFrom_61 ok_X11_put stt_X11_put nl7_61 np_X11_put rfl (Nat.le_of_ble_eq_true rfl) (Nat.le_of_ble_eq_true rfl) rfl (k_X11_put (d + 2) (T := T) (σ := σ40) (x := x49) (i := v58) (y := v6) hk51i (by omega) (by omega) (by omega) w47 (nh_k hk51 (by unfold HT; omega)) (vok_1 (by have q9 := hk51; omega) (by omega))) (fun r59 T61 σ60 gt62 hp => ?_)
  obtain ⟨rfl, rfl, w64, F65⟩ := hp
  clear gt62
  show Tn _ _ 64 T σ60 [(5, .int (iI v24)), (4, .int (iI v18)), (3, .int (iI v12)), (2, .int (iI v6)), (0, .ref a), (1, .int (iI k))] [] _
  refine tn_aload_n dX7_callFrom_64 rfl 4 rfl ?_
  refine tn_getR (ci := 7) (i := 8) (n := 63) (x := x49) dX7_callFrom_65 rfl lay_7 (by decide) fl7_24 ha rfl rfl (rc_F F65 (Or.inl (by decide)) (by decide) (rc_F F48 (Or.inl (by decide)) (by decide) (hx50))) ?_
  refine tn_aload_n dX7_callFrom_68 rfl 4 rfl ?_
  refine tn_iconst dX7_callFrom_69 ?_
  refine tn_callV (M := m_X7_callFrom) (pc := 70) (ix := 57) (ci := 7) (M' := m_X7_homeOfParam) (As := [.int (iI 1)]) (rest := [.ref x49]) dX7_callFrom_70 ok_X7_homeOfParam im_X7_homeOfParam se_X7_homeOfParam ml7_57 np_X7_homeOfParam rfl rfl ha rfl (Nat.le_of_ble_eq_true rfl) (Nat.le_of_ble_eq_true rfl) rfl (k_X7_homeOfParam (d) (T := T) (σ := σ60) (a := a) (p1 := 1) ha (by decide) w64 ) (fun r66 T68 σ67 gt69 hp => ?_)
  obtain ⟨v71, rfl, rfl, rfl, f70⟩ := hp
  clear gt69
  show Tn _ _ 73 T σ60 [(5, .int (iI v24)), (4, .int (iI v18)), (3, .int (iI v12)), (2, .int (iI v6)), (0, .ref a), (1, .int (iI k))] [.int (iI v71), .ref x49] _
  refine tn_iload_n dX7_callFrom_73 rfl 2 rfl ?_
  refine tn_callSN (M := m_X7_callFrom) (pc := 74) (ix := 61) (M' := m_X11_put) (As := [.ref x49, .int (iI v71), .int (iI v12)]) (rest := []) dX7_callFrom_74 ok_X11_put stt_X11_put nl7_61 np_X11_put rfl (Nat.le_of_ble_eq_true rfl) (Nat.le_of_ble_eq_true rfl) rfl (k_X11_put (d + 2) (T := T) (σ := σ60) (x := x49) (i := v71) (y := v12) hk51i (by omega) (by omega) (by omega) w64 (nh_k hk51 (by unfold HT; omega)) (vok_1 (by have q9 := hk51; omega) (by omega))) (fun r72 T74 σ73 gt75 hp => ?_)
  obtain ⟨rfl, rfl, w77, F78⟩ := hp
  clear gt75
  show Tn _ _ 77 T σ73 [(5, .int (iI v24)), (4, .int (iI v18)), (3, .int (iI v12)), (2, .int (iI v6)), (0, .ref a), (1, .int (iI k))] [] _
  refine tn_aload_n dX7_callFrom_77 rfl 4 rfl ?_
  refine tn_getR (ci := 7) (i := 8) (n := 63) (x := x49) dX7_callFrom_78 rfl lay_7 (by decide) fl7_24 ha rfl rfl (rc_F F78 (Or.inl (by decide)) (by decide) (rc_F F65 (Or.inl (by decide)) (by decide) (rc_F F48 (Or.inl (by decide)) (by decide) (hx50)))) ?_
  refine tn_aload_n dX7_callFrom_81 rfl 4 rfl ?_
  refine tn_iconst dX7_callFrom_82 ?_
  refine tn_callV (M := m_X7_callFrom) (pc := 83) (ix := 57) (ci := 7) (M' := m_X7_homeOfParam) (As := [.int (iI 2)]) (rest := [.ref x49]) dX7_callFrom_83 ok_X7_homeOfParam im_X7_homeOfParam se_X7_homeOfParam ml7_57 np_X7_homeOfParam rfl rfl ha rfl (Nat.le_of_ble_eq_true rfl) (Nat.le_of_ble_eq_true rfl) rfl (k_X7_homeOfParam (d) (T := T) (σ := σ73) (a := a) (p1 := 2) ha (by decide) w77 ) (fun r79 T81 σ80 gt82 hp => ?_)
  obtain ⟨v84, rfl, rfl, rfl, f83⟩ := hp
  clear gt82
  show Tn _ _ 86 T σ73 [(5, .int (iI v24)), (4, .int (iI v18)), (3, .int (iI v12)), (2, .int (iI v6)), (0, .ref a), (1, .int (iI k))] [.int (iI v84), .ref x49] _
  refine tn_iload dX7_callFrom_86 1 rfl ?_
  refine tn_callSN (M := m_X7_callFrom) (pc := 88) (ix := 61) (M' := m_X11_put) (As := [.ref x49, .int (iI v84), .int (iI v18)]) (rest := []) dX7_callFrom_88 ok_X11_put stt_X11_put nl7_61 np_X11_put rfl (Nat.le_of_ble_eq_true rfl) (Nat.le_of_ble_eq_true rfl) rfl (k_X11_put (d + 2) (T := T) (σ := σ73) (x := x49) (i := v84) (y := v18) hk51i (by omega) (by omega) (by omega) w77 (nh_k hk51 (by unfold HT; omega)) (vok_1 (by have q9 := hk51; omega) (by omega))) (fun r85 T87 σ86 gt88 hp => ?_)
  obtain ⟨rfl, rfl, w90, F91⟩ := hp
  clear gt88
  show Tn _ _ 91 T σ86 [(5, .int (iI v24)), (4, .int (iI v18)), (3, .int (iI v12)), (2, .int (iI v6)), (0, .ref a), (1, .int (iI k))] [] _
  refine tn_aload_n dX7_callFrom_91 rfl 4 rfl ?_
  refine tn_getR (ci := 7) (i := 8) (n := 63) (x := x49) dX7_callFrom_92 rfl lay_7 (by decide) fl7_24 ha rfl rfl (rc_F F91 (Or.inl (by decide)) (by decide) (rc_F F78 (Or.inl (by decide)) (by decide) (rc_F F65 (Or.inl (by decide)) (by decide) (rc_F F48 (Or.inl (by decide)) (by decide) (hx50))))) ?_
  refine tn_aload_n dX7_callFrom_95 rfl 4 rfl ?_
  refine tn_iconst dX7_callFrom_96 ?_
  refine tn_callV (M := m_X7_callFrom) (pc := 97) (ix := 57) (ci := 7) (M' := m_X7_homeOfParam) (As := [.int (iI 3)]) (rest := [.ref x49]) dX7_callFrom_97 ok_X7_homeOfParam im_X7_homeOfParam se_X7_homeOfParam ml7_57 np_X7_homeOfParam rfl rfl ha rfl (Nat.le_of_ble_eq_true rfl) (Nat.le_of_ble_eq_true rfl) rfl (k_X7_homeOfParam (d) (T := T) (σ := σ86) (a := a) (p1 := 3) ha (by decide) w90 ) (fun r92 T94 σ93 gt95 hp => ?_)
  obtain ⟨v97, rfl, rfl, rfl, f96⟩ := hp
  clear gt95
  show Tn _ _ 100 T σ86 [(5, .int (iI v24)), (4, .int (iI v18)), (3, .int (iI v12)), (2, .int (iI v6)), (0, .ref a), (1, .int (iI k))] [.int (iI v97), .ref x49] _
  refine tn_iload dX7_callFrom_100 0 rfl ?_
  refine tn_callSN (M := m_X7_callFrom) (pc := 102) (ix := 61) (M' := m_X11_put) (As := [.ref x49, .int (iI v97), .int (iI v24)]) (rest := []) dX7_callFrom_102 ok_X11_put stt_X11_put nl7_61 np_X11_put rfl (Nat.le_of_ble_eq_true rfl) (Nat.le_of_ble_eq_true rfl) rfl (k_X11_put (d + 2) (T := T) (σ := σ86) (x := x49) (i := v97) (y := v24) hk51i (by omega) (by omega) (by omega) w90 (nh_k hk51 (by unfold HT; omega)) (vok_1 (by have q9 := hk51; omega) (by omega))) (fun r98 T100 σ99 gt101 hp => ?_)
  obtain ⟨rfl, rfl, w103, F104⟩ := hp
  clear gt101
  show Tn _ _ 105 T σ99 [(5, .int (iI v24)), (4, .int (iI v18)), (3, .int (iI v12)), (2, .int (iI v6)), (0, .ref a), (1, .int (iI k))] [] _
  have q105 : σ99.2.1 57 a = σ40.2.1 57 a := rc_F F104 (Or.inl (by decide)) (by decide) (rc_F F91 (Or.inl (by decide)) (by decide) (rc_F F78 (Or.inl (by decide)) (by decide) (rc_F F65 (Or.inl (by decide)) (by decide) (rfl))))
  have q106 : σ99.2.1 58 a = σ40.2.1 58 a := rc_F F104 (Or.inl (by decide)) (by decide) (rc_F F91 (Or.inl (by decide)) (by decide) (rc_F F78 (Or.inl (by decide)) (by decide) (rc_F F65 (Or.inl (by decide)) (by decide) (rfl))))
  exact tn_vret rfl dX7_callFrom_105 ⟨rfl, rfl, w103, (((((FrC.rfl.trans (FrC.sub F48 (by decide))).trans (FrC.sub F65 (by decide))).trans (FrC.sub F78 (by decide))).trans (FrC.sub F91 (by decide))).trans (FrC.sub F104 (by decide))), by omega, by omega, (((((FA.rfl.trans f45).trans (FA.of F65 (by decide))).trans (FA.of F78 (by decide))).trans (FA.of F91 (by decide))).trans (FA.of F104 (by decide)))⟩
