theorem cd_X5_closeRoutine : Cond.code yX5_closeRoutine cX5_closeRoutine 3 none ∈ pWW := pw3 (List.mem_of_getElem? (i := 229) rfl) rfl
abbrev m_X5_closeRoutine : MT := (yX5_closeRoutine, cX5_closeRoutine, 3, none)
theorem ok_X5_closeRoutine : pOk m_X5_closeRoutine := ⟨⟨cd_X5_closeRoutine, ini_5⟩, by decide +kernel, ⟨by decide +kernel, by decide +kernel⟩, Nat.le_of_ble_eq_true rfl⟩
theorem np_X5_closeRoutine : (parseMethodDescriptor yX5_closeRoutine.desc).map (fun d => d.parameters.length) = some 1 := by decide +kernel
theorem im_X5_closeRoutine : Cond.instanceMethod yX5_closeRoutine ∈ pWW := pw3 (List.mem_of_getElem? (i := 228) rfl) rfl
theorem se_X5_closeRoutine : Cond.selects RX5 yX5_closeRoutine yX5_closeRoutine ∈ pWW := pws (List.mem_map.mpr ⟨_, lw_pin 31 rfl, rfl⟩) rfl
theorem fl5_149 : Cond.fieldLink RX5 149 (TX1 9).1 (TX1 9).2.1 (TX1 9).2.2.1 ∈ pWW := pw1 (List.mem_of_getElem? (i := 120) rfl) rfl
theorem fl5_155 : Cond.fieldLink RX5 155 (TX1 10).1 (TX1 10).2.1 (TX1 10).2.2.1 ∈ pWW := pw1 (List.mem_of_getElem? (i := 125) rfl) rfl
theorem dX5_closeRoutine_0 : decode cX5_closeRoutine 0 = .ok (.aload_n 0, 1) := by decide +kernel
theorem dX5_closeRoutine_1 : decode cX5_closeRoutine 1 = .ok (.getfield 47, 3) := by decide +kernel
theorem dX5_closeRoutine_4 : decode cX5_closeRoutine 4 = .ok (.bipush 7, 2) := by decide +kernel
theorem dX5_closeRoutine_6 : decode cX5_closeRoutine 6 = .ok (.iconst 0, 1) := by decide +kernel
theorem dX5_closeRoutine_7 : decode cX5_closeRoutine 7 = .ok (.iconst 0, 1) := by decide +kernel
theorem dX5_closeRoutine_8 : decode cX5_closeRoutine 8 = .ok (.invokevirtual 139, 3) := by decide +kernel
theorem dX5_closeRoutine_11 : decode cX5_closeRoutine 11 = .ok (.aload_n 0, 1) := by decide +kernel
theorem dX5_closeRoutine_12 : decode cX5_closeRoutine 12 = .ok (.getfield 47, 3) := by decide +kernel
theorem dX5_closeRoutine_15 : decode cX5_closeRoutine 15 = .ok (.iconst 0, 1) := by decide +kernel
theorem dX5_closeRoutine_16 : decode cX5_closeRoutine 16 = .ok (.iconst 1, 1) := by decide +kernel
theorem dX5_closeRoutine_17 : decode cX5_closeRoutine 17 = .ok (.iconst 0, 1) := by decide +kernel
theorem dX5_closeRoutine_18 : decode cX5_closeRoutine 18 = .ok (.invokevirtual 143, 3) := by decide +kernel
theorem dX5_closeRoutine_21 : decode cX5_closeRoutine 21 = .ok (.aload_n 0, 1) := by decide +kernel
theorem dX5_closeRoutine_22 : decode cX5_closeRoutine 22 = .ok (.getfield 47, 3) := by decide +kernel
theorem dX5_closeRoutine_25 : decode cX5_closeRoutine 25 = .ok (.getfield 146, 3) := by decide +kernel
theorem dX5_closeRoutine_28 : decode cX5_closeRoutine 28 = .ok (.bipush 120, 2) := by decide +kernel
theorem dX5_closeRoutine_30 : decode cX5_closeRoutine 30 = .ok (.if_icmp .le 9, 3) := by decide +kernel
theorem dX5_closeRoutine_39 : decode cX5_closeRoutine 39 = .ok (.aload_n 0, 1) := by decide +kernel
theorem dX5_closeRoutine_40 : decode cX5_closeRoutine 40 = .ok (.getfield 47, 3) := by decide +kernel
theorem dX5_closeRoutine_43 : decode cX5_closeRoutine 43 = .ok (.getfield 149, 3) := by decide +kernel
theorem dX5_closeRoutine_46 : decode cX5_closeRoutine 46 = .ok (.iconst 0, 1) := by decide +kernel
theorem dX5_closeRoutine_47 : decode cX5_closeRoutine 47 = .ok (.aload_n 0, 1) := by decide +kernel
theorem dX5_closeRoutine_48 : decode cX5_closeRoutine 48 = .ok (.getfield 47, 3) := by decide +kernel
theorem dX5_closeRoutine_51 : decode cX5_closeRoutine 51 = .ok (.getfield 152, 3) := by decide +kernel
theorem dX5_closeRoutine_54 : decode cX5_closeRoutine 54 = .ok (.invokestatic 129, 3) := by decide +kernel
theorem dX5_closeRoutine_57 : decode cX5_closeRoutine 57 = .ok (.iconst 0, 1) := by decide +kernel
theorem dX5_closeRoutine_58 : decode cX5_closeRoutine 58 = .ok (.istore_n 2, 1) := by decide +kernel
theorem dX5_closeRoutine_59 : decode cX5_closeRoutine 59 = .ok (.iload_n 2, 1) := by decide +kernel
theorem dX5_closeRoutine_60 : decode cX5_closeRoutine 60 = .ok (.aload_n 0, 1) := by decide +kernel
theorem dX5_closeRoutine_61 : decode cX5_closeRoutine 61 = .ok (.getfield 47, 3) := by decide +kernel
theorem dX5_closeRoutine_64 : decode cX5_closeRoutine 64 = .ok (.getfield 152, 3) := by decide +kernel
theorem dX5_closeRoutine_67 : decode cX5_closeRoutine 67 = .ok (.if_icmp .ge 21, 3) := by decide +kernel
theorem dX5_closeRoutine_70 : decode cX5_closeRoutine 70 = .ok (.aload_n 0, 1) := by decide +kernel
theorem dX5_closeRoutine_71 : decode cX5_closeRoutine 71 = .ok (.getfield 47, 3) := by decide +kernel
theorem dX5_closeRoutine_74 : decode cX5_closeRoutine 74 = .ok (.getfield 155, 3) := by decide +kernel
theorem dX5_closeRoutine_77 : decode cX5_closeRoutine 77 = .ok (.iload_n 2, 1) := by decide +kernel
theorem dX5_closeRoutine_78 : decode cX5_closeRoutine 78 = .ok (.iload_n 2, 1) := by decide +kernel
theorem dX5_closeRoutine_79 : decode cX5_closeRoutine 79 = .ok (.invokestatic 129, 3) := by decide +kernel
theorem dX5_closeRoutine_82 : decode cX5_closeRoutine 82 = .ok (.iinc 2 1, 3) := by decide +kernel
theorem dX5_closeRoutine_85 : decode cX5_closeRoutine 85 = .ok (.goto (-26), 3) := by decide +kernel
set_option maxRecDepth 20000 in
theorem l_X5_closeRoutine_59 (d : Nat) {T : CT} {σ0 : MS} {a : Nat} {kp : Int} {post : Option Value → CT → MS → Prop} (h_a : OB T a 5) (hw0 : WT T σ0) (hkp : kp ≤ 150) (hx_88 : ∀ (i2 : Int) (σ : MS) , (WT T σ) → (FrC T [] σ0 σ) → (0 ≤ i2 ∧ i2 ≤ 2147483647) → (RP σ a kp) → Tn (d + 4) m_X5_closeRoutine 88 T σ [(0, .ref a), (2, .int (iI i2))] [] post) : ∀ (n : Nat) (i2 : Int) (σ : MS) , (WT T σ) → (FrC T [] σ0 σ) → (0 ≤ i2 ∧ i2 ≤ 2147483647) → (RP σ a kp) → (2147483700 - i2).toNat = n → Tn (d + 4) m_X5_closeRoutine 59 T σ [(0, .ref a), (2, .int (iI i2))] [] post := by
  intro n
  induction n using Nat.strongRecOn with
  | _ n ih =>
    intro i2 σ hw hF r_i2 hrp hm
    refine tn_iload_n dX5_closeRoutine_59 rfl 1 rfl ?_
    refine tn_aload_n dX5_closeRoutine_60 rfl 0 rfl ?_
    obtain ⟨x1, hx2, hk3⟩ : ∃ x : Nat, σ0.2.1 35 a = (x : Int) ∧ (T x).1 = 31 := wf_35 hw0 h_a
    have hk3o : OB T x1 1 := ⟨by omega, by rw [hk3]; rfl, by omega⟩
    refine tn_getR (ci := 5) (i := 2) (n := 35) (x := x1) dX5_closeRoutine_61 rfl lay_5 (by decide) fl5_47 h_a rfl rfl (rc_F hF (Or.inl (by decide)) (by decide) (hx2)) ?_
    refine tn_getI (ci := 1) (i := 2) (n := 7) (t := σ0.2.1 7 x1) dX5_closeRoutine_64 rfl lay_1 (by decide) fl5_152 hk3o rfl rfl (rc_F hF (Or.inl (by decide)) (by decide) (rfl)) ?_
    have g5 : ((0 : Int) ≤ σ0.2.1 7 x1 ∧ σ0.2.1 7 x1 ≤ 12) := wf_7 hw0 hk3o
    refine tn_icmp_ge (tgt := 88) dX5_closeRoutine_67 (by decide) ⟨by omega, by omega⟩ ⟨by omega, by omega⟩ (fun h6 => ?_) (fun h6 => ?_)
    · exact tn_sub [0, 1] rfl (hx_88 (i2) σ hw (FrC.rfl.trans (FrC.sub hF (by decide))) (by omega) (RP.up hrp (by omega)))
    · refine tn_aload_n dX5_closeRoutine_70 rfl 0 rfl ?_
      refine tn_getR (ci := 5) (i := 2) (n := 35) (x := x1) dX5_closeRoutine_71 rfl lay_5 (by decide) fl5_47 h_a rfl rfl (rc_F hF (Or.inl (by decide)) (by decide) (hx2)) ?_
      obtain ⟨x7, hx8, hk9, hl10⟩ : ∃ x : Nat, σ0.2.1 15 x1 = (x : Int) ∧ AR T x 1 144 144 := wf_15 hw0 hk3o
      have hk9i : IA T x7 := by unfold IA; omega
      refine tn_getR (ci := 1) (i := 10) (n := 15) (x := x7) dX5_closeRoutine_74 rfl lay_1 (by decide) fl5_155 hk3o rfl rfl (rc_F hF (Or.inl (by decide)) (by decide) (hx8)) ?_
      refine tn_iload_n dX5_closeRoutine_77 rfl 1 rfl ?_
      refine tn_iload_n dX5_closeRoutine_78 rfl 1 rfl ?_
      refine tn_callSN (M := m_X5_closeRoutine) (pc := 79) (ix := 129) (M' := m_X11_put) (As := [.ref x7, .int (iI i2), .int (iI i2)]) (rest := []) dX5_closeRoutine_79 ok_X11_put stt_X11_put nl5_129 np_X11_put rfl (Nat.le_of_ble_eq_true rfl) (Nat.le_of_ble_eq_true rfl) rfl (k_X11_put (d + 2) (T := T) (σ := σ) (x := x7) (i := i2) (y := i2) hk9i (by omega) (by omega) (by omega) hw (nh_k hk9 (by unfold HT; omega)) (vok_1 (by have q9 := hk9; omega) (by omega))) (fun r11 T13 σ12 gt14 hp => ?_)
      obtain ⟨rfl, rfl, w16, F17⟩ := hp
      clear gt14
      have rp18 : RP σ12 a (kp) := RP.frc hrp F17 (by decide) (by decide) (by decide) (by decide) (by decide)
      show Tn _ _ 82 T σ12 [(0, .ref a), (2, .int (iI i2))] [] _
      refine tn_iinc (q0 := 1) (L' := [(2, .int (iI (i2 + 1))), (0, .ref a)]) dX5_closeRoutine_82 rfl (by decide) rfl ?_
      refine tn_goto (tgt := 59) dX5_closeRoutine_85 (by decide) ?_
      exact tn_sub [1, 0] rfl (ih _ (by omega) (i2 + 1) σ12 w16 ((FrC.rfl.trans (FrC.sub hF (by decide))).trans (FrC.sub F17 (by decide))) (by omega) (RP.up rp18 (by omega)) rfl)
theorem ml5_158 : Cond.methodLink RX5 158 yX5_numberNew ∈ pWW := pw3 (List.mem_of_getElem? (i := 230) rfl) rfl
theorem dX5_closeRoutine_88 : decode cX5_closeRoutine 88 = .ok (.iconst 0, 1) := by decide +kernel
theorem dX5_closeRoutine_89 : decode cX5_closeRoutine 89 = .ok (.istore_n 2, 1) := by decide +kernel
theorem dX5_closeRoutine_90 : decode cX5_closeRoutine 90 = .ok (.iload_n 2, 1) := by decide +kernel
theorem dX5_closeRoutine_91 : decode cX5_closeRoutine 91 = .ok (.aload_n 0, 1) := by decide +kernel
theorem dX5_closeRoutine_92 : decode cX5_closeRoutine 92 = .ok (.getfield 47, 3) := by decide +kernel
theorem dX5_closeRoutine_95 : decode cX5_closeRoutine 95 = .ok (.getfield 146, 3) := by decide +kernel
theorem dX5_closeRoutine_98 : decode cX5_closeRoutine 98 = .ok (.if_icmp .ge 20, 3) := by decide +kernel
theorem dX5_closeRoutine_101 : decode cX5_closeRoutine 101 = .ok (.iload_n 2, 1) := by decide +kernel
theorem dX5_closeRoutine_102 : decode cX5_closeRoutine 102 = .ok (.bipush 120, 2) := by decide +kernel
theorem dX5_closeRoutine_104 : decode cX5_closeRoutine 104 = .ok (.if_icmp .ge 14, 3) := by decide +kernel
theorem dX5_closeRoutine_107 : decode cX5_closeRoutine 107 = .ok (.aload_n 0, 1) := by decide +kernel
theorem dX5_closeRoutine_108 : decode cX5_closeRoutine 108 = .ok (.iload_n 2, 1) := by decide +kernel
theorem dX5_closeRoutine_109 : decode cX5_closeRoutine 109 = .ok (.invokevirtual 158, 3) := by decide +kernel
theorem dX5_closeRoutine_112 : decode cX5_closeRoutine 112 = .ok (.iinc 2 1, 3) := by decide +kernel
theorem dX5_closeRoutine_115 : decode cX5_closeRoutine 115 = .ok (.goto (-25), 3) := by decide +kernel
set_option maxRecDepth 20000 in
theorem l_X5_closeRoutine_90 (d : Nat) {T : CT} {σ0 : MS} {a : Nat} {kp : Int} {post : Option Value → CT → MS → Prop} (h_a : OB T a 5) (hw0 : WT T σ0) (hkp : kp ≤ 150) (hx_118 : ∀ (i2 : Int) (σ : MS) , (WT T σ) → (FrC T [] σ0 σ) → (0 ≤ i2 ∧ i2 ≤ 2147483647) → (RP σ a kp) → Tn (d + 4) m_X5_closeRoutine 118 T σ [(0, .ref a), (2, .int (iI i2))] [] post) : ∀ (n : Nat) (i2 : Int) (σ : MS) , (WT T σ) → (FrC T [] σ0 σ) → (0 ≤ i2 ∧ i2 ≤ 2147483647) → (RP σ a kp) → (2147483700 - i2).toNat = n → Tn (d + 4) m_X5_closeRoutine 90 T σ [(0, .ref a), (2, .int (iI i2))] [] post := by
  intro n
  induction n using Nat.strongRecOn with
  | _ n ih =>
    intro i2 σ hw hF r_i2 hrp hm
    refine tn_iload_n dX5_closeRoutine_90 rfl 1 rfl ?_
    refine tn_aload_n dX5_closeRoutine_91 rfl 0 rfl ?_
    obtain ⟨x1, hx2, hk3⟩ : ∃ x : Nat, σ0.2.1 35 a = (x : Int) ∧ (T x).1 = 31 := wf_35 hw0 h_a
    have hk3o : OB T x1 1 := ⟨by omega, by rw [hk3]; rfl, by omega⟩
    refine tn_getR (ci := 5) (i := 2) (n := 35) (x := x1) dX5_closeRoutine_92 rfl lay_5 (by decide) fl5_47 h_a rfl rfl (rc_F hF (Or.inl (by decide)) (by decide) (hx2)) ?_
    refine tn_getI (ci := 1) (i := 1) (n := 6) (t := σ0.2.1 6 x1) dX5_closeRoutine_95 rfl lay_1 (by decide) fl5_146 hk3o rfl rfl (rc_F hF (Or.inl (by decide)) (by decide) (rfl)) ?_
    have g5 : ((0 : Int) ≤ σ0.2.1 6 x1 ∧ σ0.2.1 6 x1 ≤ 5000) ∧ ((T x1).1 = 50 → σ0.2.1 6 x1 ≤ 200) := wf_6 hw0 hk3o
    have g5x := g5.2
    replace g5 := g5.1
    clear g5x
    refine tn_icmp_ge (tgt := 118) dX5_closeRoutine_98 (by decide) ⟨by omega, by omega⟩ ⟨by omega, by omega⟩ (fun h6 => ?_) (fun h6 => ?_)
    · exact tn_sub [0, 1] rfl (hx_118 (i2) σ hw (FrC.rfl.trans (FrC.sub hF (by decide))) (by omega) (RP.up hrp (by omega)))
    · refine tn_iload_n dX5_closeRoutine_101 rfl 1 rfl ?_
      refine tn_bipush dX5_closeRoutine_102 (by decide) ?_
      refine tn_icmp_ge (tgt := 118) dX5_closeRoutine_104 (by decide) ⟨by omega, by omega⟩ ⟨by decide, by decide⟩ (fun h7 => ?_) (fun h7 => ?_)
      · exact tn_sub [0, 1] rfl (hx_118 (i2) σ hw (FrC.rfl.trans (FrC.sub hF (by decide))) (by omega) (RP.up hrp (by omega)))
      · refine tn_aload_n dX5_closeRoutine_107 rfl 0 rfl ?_
        refine tn_iload_n dX5_closeRoutine_108 rfl 1 rfl ?_
        refine tn_callV (M := m_X5_closeRoutine) (pc := 109) (ix := 158) (ci := 5) (M' := m_X5_numberNew) (As := [.int (iI i2)]) (rest := []) dX5_closeRoutine_109 ok_X5_numberNew im_X5_numberNew se_X5_numberNew ml5_158 np_X5_numberNew rfl rfl h_a rfl (Nat.le_of_ble_eq_true rfl) (Nat.le_of_ble_eq_true rfl) rfl (k_X5_numberNew (d) (T := T) (σ := σ) (a := a) (k := i2) h_a (by omega) hw ) (fun r8 T10 σ9 gt11 hp => ?_)
        obtain ⟨rfl, rfl, w13, F14⟩ := hp
        clear gt11
        have rp15 : RP σ9 a (kp) := RP.frc hrp F14 (by decide) (by decide) (by decide) (by decide) (by decide)
        show Tn _ _ 112 T σ9 [(0, .ref a), (2, .int (iI i2))] [] _
        refine tn_iinc (q0 := 1) (L' := [(2, .int (iI (i2 + 1))), (0, .ref a)]) dX5_closeRoutine_112 rfl (by decide) rfl ?_
        refine tn_goto (tgt := 90) dX5_closeRoutine_115 (by decide) ?_
        exact tn_sub [1, 0] rfl (ih _ (by omega) (i2 + 1) σ9 w13 ((FrC.rfl.trans (FrC.sub hF (by decide))).trans (FrC.sub F14 (by decide))) (by omega) (RP.up rp15 (by omega)) rfl)
theorem dX5_closeRoutine_118 : decode cX5_closeRoutine 118 = .ok (.return_, 1) := by decide +kernel
theorem dX5_closeRoutine_33 : decode cX5_closeRoutine 33 = .ok (.aload_n 0, 1) := by decide +kernel
theorem dX5_closeRoutine_34 : decode cX5_closeRoutine 34 = .ok (.iconst 5, 1) := by decide +kernel
theorem dX5_closeRoutine_35 : decode cX5_closeRoutine 35 = .ok (.iload_n 1, 1) := by decide +kernel
theorem dX5_closeRoutine_36 : decode cX5_closeRoutine 36 = .ok (.invokevirtual 113, 3) := by decide +kernel
set_option maxRecDepth 20000 in
theorem k_X5_closeRoutine (d : Nat) {T : CT} {σ : MS} {a : Nat} {w : Int} {kp : Int} (ha : OB T a 5) (h_w : -2147483648 ≤ w ∧ w ≤ 2147483647) (hw : WT T σ) (hkp : kp ≤ 140) (hrp : RP σ a kp) : Tn (d + 4) m_X5_closeRoutine 0 T σ [(0, .ref a), (1, .int (iI w))] [] (fun ro T2 σ2 => ro = none ∧ WT T2 σ2 ∧ FrC T [5, 6, 43, 44] σ σ2 ∧ (RP σ2 a (kp + 1))) := by
  refine tn_aload_n dX5_closeRoutine_0 rfl 0 rfl ?_
  obtain ⟨x1, hx2, hk3⟩ : ∃ x : Nat, σ.2.1 35 a = (x : Int) ∧ (T x).1 = 31 := wf_35 hw ha
  have hk3o : OB T x1 1 := ⟨by omega, by rw [hk3]; rfl, by omega⟩
  refine tn_getR (ci := 5) (i := 2) (n := 35) (x := x1) dX5_closeRoutine_1 rfl lay_5 (by decide) fl5_47 ha rfl rfl (hx2) ?_
  refine tn_bipush dX5_closeRoutine_4 (by decide) ?_
  refine tn_iconst dX5_closeRoutine_6 ?_
  refine tn_iconst dX5_closeRoutine_7 ?_
  refine tn_callV (M := m_X5_closeRoutine) (pc := 8) (ix := 139) (ci := 1) (M' := m_X1_append) (As := [.int (iI 7), .int (iI 0), .int (iI 0)]) (rest := []) dX5_closeRoutine_8 ok_X1_append im_X1_append se_X1_append ml5_139 np_X1_append rfl rfl hk3o rfl (Nat.le_of_ble_eq_true rfl) (Nat.le_of_ble_eq_true rfl) rfl (k_X1_append (d) (T := T) (σ := σ) (a := x1) (k := 7) (x := 0) (y := 0) hk3o hk3 (by decide) (by decide) (by decide) hw (RP.cnt hrp hw ha (hx2) (by omega)) (by omega)) (fun r5 T7 σ6 gt8 hp => ?_)
  obtain ⟨rfl, w11, F12, f9⟩ := hp
  replace ha : OB T7 a 5 := gt8.ob ha
  have rp13 : RP σ6 a (kp + 1) := RP.app hrp (hx2) F12 (by decide) (by decide) (by decide) (by decide) f9
  show Tn _ _ 11 T7 σ6 [(0, .ref a), (1, .int (iI w))] [] _
  refine tn_aload_n dX5_closeRoutine_11 rfl 0 rfl ?_
  obtain ⟨x14, hx15, hk16⟩ : ∃ x : Nat, σ6.2.1 35 a = (x : Int) ∧ (T7 x).1 = 31 := wf_35 w11 ha
  have hk16o : OB T7 x14 1 := ⟨by omega, by rw [hk16]; rfl, by omega⟩
  refine tn_getR (ci := 5) (i := 2) (n := 35) (x := x14) dX5_closeRoutine_12 rfl lay_5 (by decide) fl5_47 ha rfl rfl (hx15) ?_
  refine tn_iconst dX5_closeRoutine_15 ?_
  refine tn_iconst dX5_closeRoutine_16 ?_
  refine tn_iconst dX5_closeRoutine_17 ?_
  refine tn_callV (M := m_X5_closeRoutine) (pc := 18) (ix := 143) (ci := 1) (M' := m_X1_lastOperand) (As := [.int (iI 0), .int (iI 1), .int (iI 0)]) (rest := []) dX5_closeRoutine_18 ok_X1_lastOperand im_X1_lastOperand se_X1_lastOperand ml5_143 np_X1_lastOperand rfl rfl hk16o rfl (Nat.le_of_ble_eq_true rfl) (Nat.le_of_ble_eq_true rfl) rfl (k_X1_lastOperand (d + 2) (T := T7) (σ := σ6) (a := x14) (i := 0) (k := 1) (y := 0) hk16o (by decide) (by decide) (by decide) w11 ) (fun r18 T20 σ19 gt21 hp => ?_)
  obtain ⟨rfl, rfl, w23, F24⟩ := hp
  clear gt21
  have rp25 : RP σ19 a (kp + 1) := RP.frc rp13 F24 (by decide) (by decide) (by decide) (by decide) (by decide)
  show Tn _ _ 21 T7 σ19 [(0, .ref a), (1, .int (iI w))] [] _
  refine tn_aload_n dX5_closeRoutine_21 rfl 0 rfl ?_
  refine tn_getR (ci := 5) (i := 2) (n := 35) (x := x14) dX5_closeRoutine_22 rfl lay_5 (by decide) fl5_47 ha rfl rfl (rc_F F24 (Or.inl (by decide)) (by decide) (hx15)) ?_
  refine tn_getI (ci := 1) (i := 1) (n := 6) (t := σ6.2.1 6 x14) dX5_closeRoutine_25 rfl lay_1 (by decide) fl5_146 hk16o rfl rfl (rc_F F24 (Or.inl (by decide)) (by decide) (rfl)) ?_
  have g26 : ((0 : Int) ≤ σ6.2.1 6 x14 ∧ σ6.2.1 6 x14 ≤ 5000) ∧ ((T7 x14).1 = 50 → σ6.2.1 6 x14 ≤ 200) := wf_6 w11 hk16o
  have g26x := g26.2
  replace g26 := g26.1
  clear g26x
  refine tn_bipush dX5_closeRoutine_28 (by decide) ?_
  refine tn_icmp_le (tgt := 39) dX5_closeRoutine_30 (by decide) ⟨by omega, by omega⟩ ⟨by decide, by decide⟩ (fun h27 => ?_) (fun h27 => ?_)
  · refine tn_aload_n dX5_closeRoutine_39 rfl 0 rfl ?_
    refine tn_getR (ci := 5) (i := 2) (n := 35) (x := x14) dX5_closeRoutine_40 rfl lay_5 (by decide) fl5_47 ha rfl rfl (rc_F F24 (Or.inl (by decide)) (by decide) (hx15)) ?_
    obtain ⟨x28, hx29, hk30, hl31⟩ : ∃ x : Nat, σ6.2.1 14 x14 = (x : Int) ∧ AR T7 x 11 12 12 := wf_14 w11 hk16o
    have hk30i : IA T7 x28 := by unfold IA; omega
    refine tn_getR (ci := 1) (i := 9) (n := 14) (x := x28) dX5_closeRoutine_43 rfl lay_1 (by decide) fl5_149 hk16o rfl rfl (rc_F F24 (Or.inl (by decide)) (by decide) (hx29)) ?_
    refine tn_iconst dX5_closeRoutine_46 ?_
    refine tn_aload_n dX5_closeRoutine_47 rfl 0 rfl ?_
    refine tn_getR (ci := 5) (i := 2) (n := 35) (x := x14) dX5_closeRoutine_48 rfl lay_5 (by decide) fl5_47 ha rfl rfl (rc_F F24 (Or.inl (by decide)) (by decide) (hx15)) ?_
    refine tn_getI (ci := 1) (i := 2) (n := 7) (t := σ6.2.1 7 x14) dX5_closeRoutine_51 rfl lay_1 (by decide) fl5_152 hk16o rfl rfl (rc_F F24 (Or.inl (by decide)) (by decide) (rfl)) ?_
    have g32 : ((0 : Int) ≤ σ6.2.1 7 x14 ∧ σ6.2.1 7 x14 ≤ 12) := wf_7 w11 hk16o
    refine tn_callSN (M := m_X5_closeRoutine) (pc := 54) (ix := 129) (M' := m_X11_put) (As := [.ref x28, .int (iI 0), .int (iI (σ6.2.1 7 x14))]) (rest := []) dX5_closeRoutine_54 ok_X11_put stt_X11_put nl5_129 np_X11_put rfl (Nat.le_of_ble_eq_true rfl) (Nat.le_of_ble_eq_true rfl) rfl (k_X11_put (d + 2) (T := T7) (σ := σ19) (x := x28) (i := 0) (y := σ6.2.1 7 x14) hk30i (by omega) (by decide) (by omega) w23 (nh_k hk30 (by unfold HT; omega)) (by rw [hk30]; exact vok_11 (by omega))) (fun r33 T35 σ34 gt36 hp => ?_)
    obtain ⟨rfl, rfl, w38, F39⟩ := hp
    clear gt36
    have rp40 : RP σ34 a (kp + 1) := RP.frc rp25 F39 (by decide) (by decide) (by decide) (by decide) (by decide)
    show Tn _ _ 57 T7 σ34 [(0, .ref a), (1, .int (iI w))] [] _
    refine tn_iconst dX5_closeRoutine_57 ?_
    refine tn_istore_n (L' := [(2, .int (iI 0)), (0, .ref a), (1, .int (iI w))]) dX5_closeRoutine_58 rfl (by decide) rfl ?_
    refine tn_sub [1, 0] rfl (l_X5_closeRoutine_59 (d) (T := T7) (σ0 := σ34) (a := a) (kp := kp + 1) ha w38 (by omega) (fun i241 σ42 w45 F46 r47 f48 => ?_) _ (0) σ34 w38 FrC.rfl (by omega) rp40 rfl)
    show Tn _ _ 88 T7 σ42 [(0, .ref a), (2, .int (iI i241))] [] _
    refine tn_iconst dX5_closeRoutine_88 ?_
    refine tn_istore_n (L' := [(2, .int (iI 0)), (0, .ref a)]) dX5_closeRoutine_89 rfl (by decide) rfl ?_
    refine tn_sub [1, 0] rfl (l_X5_closeRoutine_90 (d) (T := T7) (σ0 := σ42) (a := a) (kp := kp + 1) ha w45 (by omega) (fun i249 σ50 w53 F54 r55 f56 => ?_) _ (0) σ42 w45 FrC.rfl (by omega) f48 rfl)
    show Tn _ _ 118 T7 σ50 [(0, .ref a), (2, .int (iI i249))] [] _
    exact tn_vret rfl dX5_closeRoutine_118 ⟨rfl, w53, (((((FrC.rfl.trans (FrC.sub F12 (by decide))).trans (FrC.sub (FrC.old F24 gt8) (by decide))).trans (FrC.sub (FrC.old F39 gt8) (by decide))).trans (FrC.sub (FrC.old F46 gt8) (by decide))).trans (FrC.sub (FrC.old F54 gt8) (by decide))), (RP.up f56 (by omega))⟩
  · refine tn_aload_n dX5_closeRoutine_33 rfl 0 rfl ?_
    refine tn_iconst dX5_closeRoutine_34 ?_
    refine tn_iload_n dX5_closeRoutine_35 rfl 1 rfl ?_
    refine tn_callV (M := m_X5_closeRoutine) (pc := 36) (ix := 113) (ci := 5) (M' := m_X5_note) (As := [.int (iI 5), .int (iI w)]) (rest := []) dX5_closeRoutine_36 ok_X5_note im_X5_note se_X5_note ml5_113 np_X5_note rfl rfl ha rfl (Nat.le_of_ble_eq_true rfl) (Nat.le_of_ble_eq_true rfl) rfl (k_X5_note (d + 2) (T := T7) (σ := σ19) (a := a) (p1 := 5) (p2 := w) ha (by decide) (by omega) w23 ) (fun r57 T59 σ58 gt60 hp => ?_)
    obtain ⟨rfl, rfl, w62, F63⟩ := hp
    clear gt60
    have rp64 : RP σ58 a (kp + 1) := RP.frc rp25 F63 (by decide) (by decide) (by decide) (by decide) (by decide)
    show Tn _ _ 39 T7 σ58 [(0, .ref a), (1, .int (iI w))] [] _
    refine tn_aload_n dX5_closeRoutine_39 rfl 0 rfl ?_
    refine tn_getR (ci := 5) (i := 2) (n := 35) (x := x14) dX5_closeRoutine_40 rfl lay_5 (by decide) fl5_47 ha rfl rfl (rc_F F63 (Or.inl (by decide)) (by decide) (rc_F F24 (Or.inl (by decide)) (by decide) (hx15))) ?_
    obtain ⟨x65, hx66, hk67, hl68⟩ : ∃ x : Nat, σ6.2.1 14 x14 = (x : Int) ∧ AR T7 x 11 12 12 := wf_14 w11 hk16o
    have hk67i : IA T7 x65 := by unfold IA; omega
    refine tn_getR (ci := 1) (i := 9) (n := 14) (x := x65) dX5_closeRoutine_43 rfl lay_1 (by decide) fl5_149 hk16o rfl rfl (rc_F F63 (Or.inl (by decide)) (by decide) (rc_F F24 (Or.inl (by decide)) (by decide) (hx66))) ?_
    refine tn_iconst dX5_closeRoutine_46 ?_
    refine tn_aload_n dX5_closeRoutine_47 rfl 0 rfl ?_
    refine tn_getR (ci := 5) (i := 2) (n := 35) (x := x14) dX5_closeRoutine_48 rfl lay_5 (by decide) fl5_47 ha rfl rfl (rc_F F63 (Or.inl (by decide)) (by decide) (rc_F F24 (Or.inl (by decide)) (by decide) (hx15))) ?_
    refine tn_getI (ci := 1) (i := 2) (n := 7) (t := σ6.2.1 7 x14) dX5_closeRoutine_51 rfl lay_1 (by decide) fl5_152 hk16o rfl rfl (rc_F F63 (Or.inl (by decide)) (by decide) (rc_F F24 (Or.inl (by decide)) (by decide) (rfl))) ?_
    have g69 : ((0 : Int) ≤ σ6.2.1 7 x14 ∧ σ6.2.1 7 x14 ≤ 12) := wf_7 w11 hk16o
    refine tn_callSN (M := m_X5_closeRoutine) (pc := 54) (ix := 129) (M' := m_X11_put) (As := [.ref x65, .int (iI 0), .int (iI (σ6.2.1 7 x14))]) (rest := []) dX5_closeRoutine_54 ok_X11_put stt_X11_put nl5_129 np_X11_put rfl (Nat.le_of_ble_eq_true rfl) (Nat.le_of_ble_eq_true rfl) rfl (k_X11_put (d + 2) (T := T7) (σ := σ58) (x := x65) (i := 0) (y := σ6.2.1 7 x14) hk67i (by omega) (by decide) (by omega) w62 (nh_k hk67 (by unfold HT; omega)) (by rw [hk67]; exact vok_11 (by omega))) (fun r70 T72 σ71 gt73 hp => ?_)
    obtain ⟨rfl, rfl, w75, F76⟩ := hp
    clear gt73
    have rp77 : RP σ71 a (kp + 1) := RP.frc rp64 F76 (by decide) (by decide) (by decide) (by decide) (by decide)
    show Tn _ _ 57 T7 σ71 [(0, .ref a), (1, .int (iI w))] [] _
    refine tn_iconst dX5_closeRoutine_57 ?_
    refine tn_istore_n (L' := [(2, .int (iI 0)), (0, .ref a), (1, .int (iI w))]) dX5_closeRoutine_58 rfl (by decide) rfl ?_
    refine tn_sub [1, 0] rfl (l_X5_closeRoutine_59 (d) (T := T7) (σ0 := σ71) (a := a) (kp := kp + 1) ha w75 (by omega) (fun i278 σ79 w82 F83 r84 f85 => ?_) _ (0) σ71 w75 FrC.rfl (by omega) rp77 rfl)
    show Tn _ _ 88 T7 σ79 [(0, .ref a), (2, .int (iI i278))] [] _
    refine tn_iconst dX5_closeRoutine_88 ?_
    refine tn_istore_n (L' := [(2, .int (iI 0)), (0, .ref a)]) dX5_closeRoutine_89 rfl (by decide) rfl ?_
    refine tn_sub [1, 0] rfl (l_X5_closeRoutine_90 (d) (T := T7) (σ0 := σ79) (a := a) (kp := kp + 1) ha w82 (by omega) (fun i286 σ87 w90 F91 r92 f93 => ?_) _ (0) σ79 w82 FrC.rfl (by omega) f85 rfl)
    show Tn _ _ 118 T7 σ87 [(0, .ref a), (2, .int (iI i286))] [] _
    exact tn_vret rfl dX5_closeRoutine_118 ⟨rfl, w90, ((((((FrC.rfl.trans (FrC.sub F12 (by decide))).trans (FrC.sub (FrC.old F24 gt8) (by decide))).trans (FrC.sub (FrC.old F63 gt8) (by decide))).trans (FrC.sub (FrC.old F76 gt8) (by decide))).trans (FrC.sub (FrC.old F83 gt8) (by decide))).trans (FrC.sub (FrC.old F91 gt8) (by decide))), (RP.up f93 (by omega))⟩
