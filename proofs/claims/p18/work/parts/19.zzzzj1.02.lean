section
set_option maxHeartbeats 1000000 in
set_option maxRecDepth 20000 in
theorem k_X7_callFrom_j57 (d : Nat) {T : CT} {σ : MS} {a : Nat} {k : Int} {xa : Nat} {xb : Nat} {xc : Nat} {xd : Nat} {xe : Nat} {y : Nat} (ha : OB T a 7) (hta : (T a).1 = 57) (h_k : -2147483648 ≤ k ∧ k ≤ 2147483647) (hw : WT T σ) (hxa : σ.2.1 59 a = (xa : Int)) (hxb : σ.2.1 60 a = (xb : Int)) (hxc : σ.2.1 61 a = (xc : Int)) (hxd : σ.2.1 62 a = (xd : Int)) (hxe : σ.2.1 63 a = (xe : Int)) (hy : σ.2.1 55 a = (y : Int)) (hn : 0 ≤ σ.2.1 69 a) (h8 : σ.2.1 57 a ≤ 7) (hd : 0 ≤ σ.2.1 58 a ∧ σ.2.1 58 a ≤ 100) : Tn (d + 4) m_X7_callFrom 0 T σ [(0, .ref a), (1, .int (iI k))] [] (fun ro T2 σ2 => ro = none ∧ T = T2 ∧ WT T2 σ2 ∧ FrC T [57, 58, 69, 515] σ σ2 ∧ (CHX [(57, a), (58, a), (69, a)] [xa, xb, xc, xd, xe] [] σ σ2) ∧ (σ2.2.1 57 a = σ.2.1 57 a + 1) ∧ (σ2.2.1 58 a = σ.2.1 58 a + 1) ∧ (JCF T σ a xa xb xc xd xe y k σ2) ∧ (FA a σ σ2)) := by
  refine tn_aload_n dX7_callFrom_0 rfl 0 rfl ?_
  refine tn_iload_n dX7_callFrom_1 rfl 1 rfl ?_
  refine tn_iconst dX7_callFrom_2 ?_
  obtain ⟨hk3, hl4⟩ : AR T xe 1 1728 1728 := ar_of (wf_63 hw ha) hxe
  have hk3i : IA T xe := by unfold IA; omega
  refine tn_callV (M := m_X7_callFrom) (pc := 3) (ix := 110) (ci := 7) (M' := m_X7_operand) (As := [.int (iI k), .int (iI 3)]) (rest := []) dX7_callFrom_3 ok_X7_operand im_X7_operand se_X7_operand ml7_110 np_X7_operand rfl rfl ha rfl (Nat.le_of_ble_eq_true rfl) (Nat.le_of_ble_eq_true rfl) rfl (k_X7_operand_j (d + 1) (T := T) (σ := σ) (a := a) (k := k) (c := 3) (xe := xe) ha (by omega) (by decide) hw (hxe) (by rw [show σ.2.1 69 a = σ.2.1 69 a from rfl]; exact hn) (by omega)) (fun r5 T7 σ6 gt8 hp => ?_)
  obtain ⟨v11, rfl, rfl, rfl, f9, f10⟩ := hp
  clear gt8
  show Tn _ _ 6 T σ [(0, .ref a), (1, .int (iI k))] [.int (iI v11)] _
  refine tn_istore_n (L' := [(2, .int (iI v11)), (0, .ref a), (1, .int (iI k))]) dX7_callFrom_6 rfl (by decide) rfl ?_
  refine tn_aload_n dX7_callFrom_7 rfl 1 rfl ?_
  refine tn_iload_n dX7_callFrom_8 rfl 2 rfl ?_
  refine tn_iconst dX7_callFrom_9 ?_
  refine tn_callV (M := m_X7_callFrom) (pc := 10) (ix := 110) (ci := 7) (M' := m_X7_operand) (As := [.int (iI k), .int (iI 5)]) (rest := []) dX7_callFrom_10 ok_X7_operand im_X7_operand se_X7_operand ml7_110 np_X7_operand rfl rfl ha rfl (Nat.le_of_ble_eq_true rfl) (Nat.le_of_ble_eq_true rfl) rfl (k_X7_operand_j (d + 1) (T := T) (σ := σ) (a := a) (k := k) (c := 5) (xe := xe) ha (by omega) (by decide) hw (hxe) (by rw [show σ.2.1 69 a = σ.2.1 69 a from rfl]; exact hn) (by omega)) (fun r12 T14 σ13 gt15 hp => ?_)
  obtain ⟨v18, rfl, rfl, rfl, f16, f17⟩ := hp
  clear gt15
  show Tn _ _ 13 T σ [(2, .int (iI v11)), (0, .ref a), (1, .int (iI k))] [.int (iI v18)] _
  refine tn_istore_n (L' := [(3, .int (iI v18)), (2, .int (iI v11)), (0, .ref a), (1, .int (iI k))]) dX7_callFrom_13 rfl (by decide) rfl ?_
  refine tn_aload_n dX7_callFrom_14 rfl 2 rfl ?_
  refine tn_iload_n dX7_callFrom_15 rfl 3 rfl ?_
  refine tn_bipush dX7_callFrom_16 (by decide) ?_
  refine tn_callV (M := m_X7_callFrom) (pc := 18) (ix := 110) (ci := 7) (M' := m_X7_operand) (As := [.int (iI k), .int (iI 7)]) (rest := []) dX7_callFrom_18 ok_X7_operand im_X7_operand se_X7_operand ml7_110 np_X7_operand rfl rfl ha rfl (Nat.le_of_ble_eq_true rfl) (Nat.le_of_ble_eq_true rfl) rfl (k_X7_operand_j (d + 1) (T := T) (σ := σ) (a := a) (k := k) (c := 7) (xe := xe) ha (by omega) (by decide) hw (hxe) (by rw [show σ.2.1 69 a = σ.2.1 69 a from rfl]; exact hn) (by omega)) (fun r19 T21 σ20 gt22 hp => ?_)
  obtain ⟨v25, rfl, rfl, rfl, f23, f24⟩ := hp
  clear gt22
  show Tn _ _ 21 T σ [(3, .int (iI v18)), (2, .int (iI v11)), (0, .ref a), (1, .int (iI k))] [.int (iI v25)] _
  refine tn_istore (L' := [(4, .int (iI v25)), (3, .int (iI v18)), (2, .int (iI v11)), (0, .ref a), (1, .int (iI k))]) dX7_callFrom_21 (by decide) rfl ?_
  refine tn_aload_n dX7_callFrom_23 rfl 3 rfl ?_
  refine tn_iload_n dX7_callFrom_24 rfl 4 rfl ?_
  refine tn_bipush dX7_callFrom_25 (by decide) ?_
  refine tn_callV (M := m_X7_callFrom) (pc := 27) (ix := 110) (ci := 7) (M' := m_X7_operand) (As := [.int (iI k), .int (iI 9)]) (rest := []) dX7_callFrom_27 ok_X7_operand im_X7_operand se_X7_operand ml7_110 np_X7_operand rfl rfl ha rfl (Nat.le_of_ble_eq_true rfl) (Nat.le_of_ble_eq_true rfl) rfl (k_X7_operand_j (d + 1) (T := T) (σ := σ) (a := a) (k := k) (c := 9) (xe := xe) ha (by omega) (by decide) hw (hxe) (by rw [show σ.2.1 69 a = σ.2.1 69 a from rfl]; exact hn) (by omega)) (fun r26 T28 σ27 gt29 hp => ?_)
  obtain ⟨v32, rfl, rfl, rfl, f30, f31⟩ := hp
  clear gt29
  show Tn _ _ 30 T σ [(4, .int (iI v25)), (3, .int (iI v18)), (2, .int (iI v11)), (0, .ref a), (1, .int (iI k))] [.int (iI v32)] _
  refine tn_istore (L' := [(5, .int (iI v32)), (4, .int (iI v25)), (3, .int (iI v18)), (2, .int (iI v11)), (0, .ref a), (1, .int (iI k))]) dX7_callFrom_30 (by decide) rfl ?_
  refine tn_aload_n dX7_callFrom_32 rfl 4 rfl ?_
  refine tn_aload_n dX7_callFrom_33 rfl 4 rfl ?_
  refine tn_getI (ci := 7) (i := 2) (n := 57) (t := σ.2.1 57 a) dX7_callFrom_34 rfl lay_7 (by decide) fl7_65 ha rfl rfl (rfl) ?_
  have g33 : ((0 : Int) ≤ σ.2.1 57 a ∧ σ.2.1 57 a ≤ 11184800) ∧ ((T a).1 = 57 → σ.2.1 57 a ≤ 8) := wf_57 hw ha
  have g33x := g33.2
  replace g33 := g33.1
  have g33x := g33x hta
  refine tn_iconst dX7_callFrom_37 ?_
  refine tn_iadd dX7_callFrom_38 ?_
  refine tn_aload_n dX7_callFrom_39 rfl 4 rfl ?_
  obtain ⟨xq38, hx39, hk40a, hk40b⟩ := (wf_69 hw ha).resolve_left (by have q9 := hn; omega)
  have hk40 : (T xq38).1 = 31 := hk40a (by omega)
  clear hk40a hk40b
  have hk40o : OB T xq38 1 := ⟨by omega, by rw [hk40]; rfl, by omega⟩
  refine tn_getR (ci := 7) (i := 14) (n := 69) (x := xq38) dX7_callFrom_40 rfl lay_7 (by decide) fl7_72 ha rfl rfl (hx39) ?_
  refine tn_iload_n dX7_callFrom_43 rfl 5 rfl ?_
  refine tn_iconst dX7_callFrom_44 ?_
  obtain ⟨xq41, hx42, hl44, hk43a, hk43b⟩ := wf_5 hw hk40o
  have hk43 : (T xq41).1 = 13 := hk43b (by omega)
  clear hk43a hk43b
  have hk43i : IA T xq41 := by unfold IA; omega
  refine tn_callV (M := m_X7_callFrom) (pc := 45) (ix := 117) (ci := 1) (M' := m_X1_get) (As := [.int (iI k), .int (iI 2)]) (rest := [.int (iI ((σ.2.1 57 a) + 1)), .ref a]) dX7_callFrom_45 ok_X1_get im_X1_get se_X1_get ml7_117 np_X1_get rfl rfl hk40o rfl (Nat.le_of_ble_eq_true rfl) (Nat.le_of_ble_eq_true rfl) rfl (k_X1_get_j (d + 2) (T := T) (σ := σ) (a := xq38) (k := k) (c := 2) (x := xq41) hk40o (by omega) (by decide) hw (hx42) (by omega)) (fun r45 T47 σ46 gt48 hp => ?_)
  obtain ⟨v51, rfl, rfl, rfl, f49, f50⟩ := hp
  clear gt48
  show Tn _ _ 48 T σ [(5, .int (iI v32)), (4, .int (iI v25)), (3, .int (iI v18)), (2, .int (iI v11)), (0, .ref a), (1, .int (iI k))] [.int (iI v51), .int (iI ((σ.2.1 57 a) + 1)), .ref a] _
  obtain ⟨hk54, hl55⟩ : AR T xa 15 9 9 := ar_of (wf_59 hw ha) hxa
  have hk54i : IA T xa := by unfold IA; omega
  obtain ⟨hk58, hl59⟩ : AR T xb 1 9 9 := ar_of (wf_60 hw ha) hxb
  have hk58i : IA T xb := by unfold IA; omega
  obtain ⟨hl63, hk62a, hk62b⟩ := ex_at (wf_61 hw ha) hxc
  have hk62 : (T xc).1 = 14 := hk62a (by omega)
  clear hk62a hk62b
  have hk62i : IA T xc := by unfold IA; omega
  obtain ⟨hk66, hl67⟩ : AR T xd 1 108 108 := ar_of (wf_62 hw ha) hxd
  have hk66i : IA T xd := by unfold IA; omega
  obtain ⟨hl71, hk70a, hk70b⟩ := ex_at (wf_55 hw ha) hy
  have hk70i : (T y).1 = 4 ∨ (T y).1 = 5 := by omega
  have hk70c : RROW T a y := ⟨hk70a, hk70b⟩
  clear hk70a hk70b
  refine tn_callV (M := m_X7_callFrom) (pc := 48) (ix := 53) (ci := 7) (M' := m_X7_openCall) (As := [.int (iI ((σ.2.1 57 a) + 1)), .int (iI v51)]) (rest := []) dX7_callFrom_48 ok_X7_openCall im_X7_openCall se_X7_openCall ml7_53 np_X7_openCall rfl rfl ha rfl (Nat.le_of_ble_eq_true rfl) (Nat.le_of_ble_eq_true rfl) rfl (k_X7_openCall_j57 (d) (T := T) (σ := σ) (a := a) (c := (σ.2.1 57 a) + 1) (r := v51) (xa := xa) (xb := xb) (xc := xc) (xd := xd) (xe := xe) (y := y) ha hta (by omega) (by omega) hw (hxa) (hxb) (hxc) (hxd) (hxe) (hy) (by omega) (by rw [show σ.2.1 58 a = σ.2.1 58 a from rfl]; omega)) (fun r72 T74 σ73 gt75 hp => ?_)
  obtain ⟨rfl, rfl, w82, F83, f76, f77, f78, f79, f80⟩ := hp
  clear gt75
  show Tn _ _ 51 T σ73 [(5, .int (iI v32)), (4, .int (iI v25)), (3, .int (iI v18)), (2, .int (iI v11)), (0, .ref a), (1, .int (iI k))] [] _
  refine tn_aload_n dX7_callFrom_51 rfl 4 rfl ?_
  refine tn_getR (ci := 7) (i := 8) (n := 63) (x := xe) dX7_callFrom_52 rfl lay_7 (by decide) fl7_24 ha rfl rfl (rc_F F83 (Or.inl (by decide)) (by decide) (hxe)) ?_
  refine tn_aload_n dX7_callFrom_55 rfl 4 rfl ?_
  refine tn_iconst dX7_callFrom_56 ?_
  refine tn_callV (M := m_X7_callFrom) (pc := 57) (ix := 57) (ci := 7) (M' := m_X7_homeOfParam) (As := [.int (iI 0)]) (rest := [.ref xe]) dX7_callFrom_57 ok_X7_homeOfParam im_X7_homeOfParam se_X7_homeOfParam ml7_57 np_X7_homeOfParam rfl rfl ha rfl (Nat.le_of_ble_eq_true rfl) (Nat.le_of_ble_eq_true rfl) rfl (k_X7_homeOfParam_j (d) (T := T) (σ := σ73) (a := a) (p1 := 0) ha (by decide) w82 (by omega)) (fun r84 T86 σ85 gt87 hp => ?_)
  obtain ⟨v90, rfl, rfl, rfl, f88, f89⟩ := hp
  clear gt87
  show Tn _ _ 60 T σ73 [(5, .int (iI v32)), (4, .int (iI v25)), (3, .int (iI v18)), (2, .int (iI v11)), (0, .ref a), (1, .int (iI k))] [.int (iI v90), .ref xe] _
  refine tn_iload_n dX7_callFrom_60 rfl 3 rfl ?_
  refine tn_callSN (M := m_X7_callFrom) (pc := 61) (ix := 61) (M' := m_X11_put) (As := [.ref xe, .int (iI v90), .int (iI v11)]) (rest := []) dX7_callFrom_61 ok_X11_put stt_X11_put nl7_61 np_X11_put rfl (Nat.le_of_ble_eq_true rfl) (Nat.le_of_ble_eq_true rfl) rfl (k_X11_put_x (d + 2) (T := T) (σ := σ73) (x := xe) (i := v90) (y := v11) hk3i (by omega) (by omega) (by omega) w82 (nh_k hk3 (by unfold HT; omega)) (vok_1 (by have q9 := hk3; omega) (by omega))) (fun r91 T93 σ92 gt94 hp => ?_)
  obtain ⟨rfl, rfl, w98, F99, f95, f96⟩ := hp
  clear gt94
  have je100 : σ92 = jP T xe (v90) (v11) _ := f96
  show Tn _ _ 64 T σ92 [(5, .int (iI v32)), (4, .int (iI v25)), (3, .int (iI v18)), (2, .int (iI v11)), (0, .ref a), (1, .int (iI k))] [] _
  refine tn_aload_n dX7_callFrom_64 rfl 4 rfl ?_
  refine tn_getR (ci := 7) (i := 8) (n := 63) (x := xe) dX7_callFrom_65 rfl lay_7 (by decide) fl7_24 ha rfl rfl (rc_F F99 (Or.inl (by decide)) (by decide) (rc_F F83 (Or.inl (by decide)) (by decide) (hxe))) ?_
  refine tn_aload_n dX7_callFrom_68 rfl 4 rfl ?_
  refine tn_iconst dX7_callFrom_69 ?_
  refine tn_callV (M := m_X7_callFrom) (pc := 70) (ix := 57) (ci := 7) (M' := m_X7_homeOfParam) (As := [.int (iI 1)]) (rest := [.ref xe]) dX7_callFrom_70 ok_X7_homeOfParam im_X7_homeOfParam se_X7_homeOfParam ml7_57 np_X7_homeOfParam rfl rfl ha rfl (Nat.le_of_ble_eq_true rfl) (Nat.le_of_ble_eq_true rfl) rfl (k_X7_homeOfParam_j (d) (T := T) (σ := σ92) (a := a) (p1 := 1) ha (by decide) w98 (by omega)) (fun r101 T103 σ102 gt104 hp => ?_)
  obtain ⟨v107, rfl, rfl, rfl, f105, f106⟩ := hp
  clear gt104
  show Tn _ _ 73 T σ92 [(5, .int (iI v32)), (4, .int (iI v25)), (3, .int (iI v18)), (2, .int (iI v11)), (0, .ref a), (1, .int (iI k))] [.int (iI v107), .ref xe] _
  refine tn_iload_n dX7_callFrom_73 rfl 2 rfl ?_
  refine tn_callSN (M := m_X7_callFrom) (pc := 74) (ix := 61) (M' := m_X11_put) (As := [.ref xe, .int (iI v107), .int (iI v18)]) (rest := []) dX7_callFrom_74 ok_X11_put stt_X11_put nl7_61 np_X11_put rfl (Nat.le_of_ble_eq_true rfl) (Nat.le_of_ble_eq_true rfl) rfl (k_X11_put_x (d + 2) (T := T) (σ := σ92) (x := xe) (i := v107) (y := v18) hk3i (by omega) (by omega) (by omega) w98 (nh_k hk3 (by unfold HT; omega)) (vok_1 (by have q9 := hk3; omega) (by omega))) (fun r108 T110 σ109 gt111 hp => ?_)
  obtain ⟨rfl, rfl, w115, F116, f112, f113⟩ := hp
  clear gt111
  have je117 : σ109 = jP T xe (v107) (v18) _ := f113
  show Tn _ _ 77 T σ109 [(5, .int (iI v32)), (4, .int (iI v25)), (3, .int (iI v18)), (2, .int (iI v11)), (0, .ref a), (1, .int (iI k))] [] _
  refine tn_aload_n dX7_callFrom_77 rfl 4 rfl ?_
  refine tn_getR (ci := 7) (i := 8) (n := 63) (x := xe) dX7_callFrom_78 rfl lay_7 (by decide) fl7_24 ha rfl rfl (rc_F F116 (Or.inl (by decide)) (by decide) (rc_F F99 (Or.inl (by decide)) (by decide) (rc_F F83 (Or.inl (by decide)) (by decide) (hxe)))) ?_
  refine tn_aload_n dX7_callFrom_81 rfl 4 rfl ?_
  refine tn_iconst dX7_callFrom_82 ?_
  refine tn_callV (M := m_X7_callFrom) (pc := 83) (ix := 57) (ci := 7) (M' := m_X7_homeOfParam) (As := [.int (iI 2)]) (rest := [.ref xe]) dX7_callFrom_83 ok_X7_homeOfParam im_X7_homeOfParam se_X7_homeOfParam ml7_57 np_X7_homeOfParam rfl rfl ha rfl (Nat.le_of_ble_eq_true rfl) (Nat.le_of_ble_eq_true rfl) rfl (k_X7_homeOfParam_j (d) (T := T) (σ := σ109) (a := a) (p1 := 2) ha (by decide) w115 (by omega)) (fun r118 T120 σ119 gt121 hp => ?_)
  obtain ⟨v124, rfl, rfl, rfl, f122, f123⟩ := hp
  clear gt121
  show Tn _ _ 86 T σ109 [(5, .int (iI v32)), (4, .int (iI v25)), (3, .int (iI v18)), (2, .int (iI v11)), (0, .ref a), (1, .int (iI k))] [.int (iI v124), .ref xe] _
  refine tn_iload dX7_callFrom_86 1 rfl ?_
  refine tn_callSN (M := m_X7_callFrom) (pc := 88) (ix := 61) (M' := m_X11_put) (As := [.ref xe, .int (iI v124), .int (iI v25)]) (rest := []) dX7_callFrom_88 ok_X11_put stt_X11_put nl7_61 np_X11_put rfl (Nat.le_of_ble_eq_true rfl) (Nat.le_of_ble_eq_true rfl) rfl (k_X11_put_x (d + 2) (T := T) (σ := σ109) (x := xe) (i := v124) (y := v25) hk3i (by omega) (by omega) (by omega) w115 (nh_k hk3 (by unfold HT; omega)) (vok_1 (by have q9 := hk3; omega) (by omega))) (fun r125 T127 σ126 gt128 hp => ?_)
  obtain ⟨rfl, rfl, w132, F133, f129, f130⟩ := hp
  clear gt128
  have je134 : σ126 = jP T xe (v124) (v25) _ := f130
  show Tn _ _ 91 T σ126 [(5, .int (iI v32)), (4, .int (iI v25)), (3, .int (iI v18)), (2, .int (iI v11)), (0, .ref a), (1, .int (iI k))] [] _
  refine tn_aload_n dX7_callFrom_91 rfl 4 rfl ?_
  refine tn_getR (ci := 7) (i := 8) (n := 63) (x := xe) dX7_callFrom_92 rfl lay_7 (by decide) fl7_24 ha rfl rfl (rc_F F133 (Or.inl (by decide)) (by decide) (rc_F F116 (Or.inl (by decide)) (by decide) (rc_F F99 (Or.inl (by decide)) (by decide) (rc_F F83 (Or.inl (by decide)) (by decide) (hxe))))) ?_
  refine tn_aload_n dX7_callFrom_95 rfl 4 rfl ?_
  refine tn_iconst dX7_callFrom_96 ?_
  refine tn_callV (M := m_X7_callFrom) (pc := 97) (ix := 57) (ci := 7) (M' := m_X7_homeOfParam) (As := [.int (iI 3)]) (rest := [.ref xe]) dX7_callFrom_97 ok_X7_homeOfParam im_X7_homeOfParam se_X7_homeOfParam ml7_57 np_X7_homeOfParam rfl rfl ha rfl (Nat.le_of_ble_eq_true rfl) (Nat.le_of_ble_eq_true rfl) rfl (k_X7_homeOfParam_j (d) (T := T) (σ := σ126) (a := a) (p1 := 3) ha (by decide) w132 (by omega)) (fun r135 T137 σ136 gt138 hp => ?_)
  obtain ⟨v141, rfl, rfl, rfl, f139, f140⟩ := hp
  clear gt138
  show Tn _ _ 100 T σ126 [(5, .int (iI v32)), (4, .int (iI v25)), (3, .int (iI v18)), (2, .int (iI v11)), (0, .ref a), (1, .int (iI k))] [.int (iI v141), .ref xe] _
  refine tn_iload dX7_callFrom_100 0 rfl ?_
  refine tn_callSN (M := m_X7_callFrom) (pc := 102) (ix := 61) (M' := m_X11_put) (As := [.ref xe, .int (iI v141), .int (iI v32)]) (rest := []) dX7_callFrom_102 ok_X11_put stt_X11_put nl7_61 np_X11_put rfl (Nat.le_of_ble_eq_true rfl) (Nat.le_of_ble_eq_true rfl) rfl (k_X11_put_x (d + 2) (T := T) (σ := σ126) (x := xe) (i := v141) (y := v32) hk3i (by omega) (by omega) (by omega) w132 (nh_k hk3 (by unfold HT; omega)) (vok_1 (by have q9 := hk3; omega) (by omega))) (fun r142 T144 σ143 gt145 hp => ?_)
  obtain ⟨rfl, rfl, w149, F150, f146, f147⟩ := hp
  clear gt145
  have je151 : σ143 = jP T xe (v141) (v32) _ := f147
  show Tn _ _ 105 T σ143 [(5, .int (iI v32)), (4, .int (iI v25)), (3, .int (iI v18)), (2, .int (iI v11)), (0, .ref a), (1, .int (iI k))] [] _
  have q152 : σ143.2.1 57 a = σ73.2.1 57 a := rc_F F150 (Or.inl (by decide)) (by decide) (rc_F F133 (Or.inl (by decide)) (by decide) (rc_F F116 (Or.inl (by decide)) (by decide) (rc_F F99 (Or.inl (by decide)) (by decide) (rfl))))
  have q153 : σ143.2.1 58 a = σ73.2.1 58 a := rc_F F150 (Or.inl (by decide)) (by decide) (rc_F F133 (Or.inl (by decide)) (by decide) (rc_F F116 (Or.inl (by decide)) (by decide) (rc_F F99 (Or.inl (by decide)) (by decide) (rfl))))
  exact tn_vret rfl dX7_callFrom_105 ⟨rfl, rfl, w149, (((((FrC.rfl.trans (FrC.sub F83 (by decide))).trans (FrC.sub F99 (by decide))).trans (FrC.sub F116 (by decide))).trans (FrC.sub F133 (by decide))).trans (FrC.sub F150 (by decide))), (((((CHX.rfl.trans (CHX.sub f76 (by simp) (by simp) (by simp))).trans (CHX.sub f95 (by simp) (by simp) (by simp))).trans (CHX.sub f112 (by simp) (by simp) (by simp))).trans (CHX.sub f129 (by simp) (by simp) (by simp))).trans (CHX.sub f146 (by simp) (by simp) (by simp))), by omega, by omega, ⟨_, _, _, _, xq38, xq41, _, f10, f17, f24, f31, hx39, hx42, (by rw [← f50]; exact f79), _, _, _, _, f89, (by rw [← je100]; exact f106), (by rw [← je100, ← je117]; exact f123), (by rw [← je100, ← je117, ← je134]; exact f140), by rw [je151, je134, je117, je100]⟩, (((((FA.rfl.trans f80).trans (FA.of F99 (by decide))).trans (FA.of F116 (by decide))).trans (FA.of F133 (by decide))).trans (FA.of F150 (by decide)))⟩
end
