theorem dX12_areAlike_28 : decode cX12_areAlike 28 = .ok (.iload_n 1, 1) := by decide +kernel
theorem dX12_areAlike_29 : decode cX12_areAlike 29 = .ok (.ifCond .eq 218, 3) := by decide +kernel
theorem dX12_areAlike_32 : decode cX12_areAlike 32 = .ok (.aload_n 0, 1) := by decide +kernel
theorem dX12_areAlike_33 : decode cX12_areAlike 33 = .ok (.iconst 1, 1) := by decide +kernel
theorem dX12_areAlike_34 : decode cX12_areAlike 34 = .ok (.iload_n 2, 1) := by decide +kernel
theorem dX12_areAlike_35 : decode cX12_areAlike 35 = .ok (.invokevirtual 578, 3) := by decide +kernel
theorem dX12_areAlike_38 : decode cX12_areAlike 38 = .ok (.ifCond .eq 209, 3) := by decide +kernel
theorem dX12_areAlike_41 : decode cX12_areAlike 41 = .ok (.aload_n 0, 1) := by decide +kernel
theorem dX12_areAlike_42 : decode cX12_areAlike 42 = .ok (.iconst 1, 1) := by decide +kernel
theorem dX12_areAlike_43 : decode cX12_areAlike 43 = .ok (.invokevirtual 584, 3) := by decide +kernel
theorem dX12_areAlike_46 : decode cX12_areAlike 46 = .ok (.istore_n 3, 1) := by decide +kernel
theorem dX12_areAlike_47 : decode cX12_areAlike 47 = .ok (.aload_n 0, 1) := by decide +kernel
theorem dX12_areAlike_48 : decode cX12_areAlike 48 = .ok (.getfield 176, 3) := by decide +kernel
theorem dX12_areAlike_51 : decode cX12_areAlike 51 = .ok (.bipush 12, 2) := by decide +kernel
theorem dX12_areAlike_53 : decode cX12_areAlike 53 = .ok (.aload_n 0, 1) := by decide +kernel
theorem dX12_areAlike_54 : decode cX12_areAlike 54 = .ok (.getfield 572, 3) := by decide +kernel
theorem dX12_areAlike_57 : decode cX12_areAlike 57 = .ok (.imul, 1) := by decide +kernel
theorem dX12_areAlike_58 : decode cX12_areAlike 58 = .ok (.aload_n 0, 1) := by decide +kernel
theorem dX12_areAlike_59 : decode cX12_areAlike 59 = .ok (.getfield 575, 3) := by decide +kernel
theorem dX12_areAlike_62 : decode cX12_areAlike 62 = .ok (.iadd, 1) := by decide +kernel
theorem dX12_areAlike_63 : decode cX12_areAlike 63 = .ok (.iaload, 1) := by decide +kernel
theorem dX12_areAlike_64 : decode cX12_areAlike 64 = .ok (.istore 4, 2) := by decide +kernel
theorem dX12_areAlike_66 : decode cX12_areAlike 66 = .ok (.aload_n 0, 1) := by decide +kernel
theorem dX12_areAlike_67 : decode cX12_areAlike 67 = .ok (.getfield 572, 3) := by decide +kernel
theorem dX12_areAlike_70 : decode cX12_areAlike 70 = .ok (.istore 5, 2) := by decide +kernel
theorem dX12_areAlike_72 : decode cX12_areAlike 72 = .ok (.aload_n 0, 1) := by decide +kernel
theorem dX12_areAlike_73 : decode cX12_areAlike 73 = .ok (.getfield 575, 3) := by decide +kernel
theorem dX12_areAlike_76 : decode cX12_areAlike 76 = .ok (.istore 6, 2) := by decide +kernel
theorem dX12_areAlike_78 : decode cX12_areAlike 78 = .ok (.aload_n 0, 1) := by decide +kernel
theorem dX12_areAlike_79 : decode cX12_areAlike 79 = .ok (.iconst 2, 1) := by decide +kernel
theorem dX12_areAlike_80 : decode cX12_areAlike 80 = .ok (.iload_n 2, 1) := by decide +kernel
theorem dX12_areAlike_81 : decode cX12_areAlike 81 = .ok (.invokevirtual 578, 3) := by decide +kernel
theorem dX12_areAlike_84 : decode cX12_areAlike 84 = .ok (.ifCond .eq 33, 3) := by decide +kernel
theorem dX12_areAlike_117 : decode cX12_areAlike 117 = .ok (.iconst 0, 1) := by decide +kernel
theorem dX12_areAlike_118 : decode cX12_areAlike 118 = .ok (.istore_n 1, 1) := by decide +kernel
theorem dX12_areAlike_119 : decode cX12_areAlike 119 = .ok (.aload_n 0, 1) := by decide +kernel
theorem dX12_areAlike_120 : decode cX12_areAlike 120 = .ok (.getfield 572, 3) := by decide +kernel
theorem dX12_areAlike_123 : decode cX12_areAlike 123 = .ok (.istore 7, 2) := by decide +kernel
theorem dX12_areAlike_125 : decode cX12_areAlike 125 = .ok (.aload_n 0, 1) := by decide +kernel
theorem dX12_areAlike_126 : decode cX12_areAlike 126 = .ok (.iload 5, 2) := by decide +kernel
theorem dX12_areAlike_128 : decode cX12_areAlike 128 = .ok (.putfield 572, 3) := by decide +kernel
theorem dX12_areAlike_131 : decode cX12_areAlike 131 = .ok (.aload_n 0, 1) := by decide +kernel
theorem dX12_areAlike_132 : decode cX12_areAlike 132 = .ok (.iload 6, 2) := by decide +kernel
theorem dX12_areAlike_134 : decode cX12_areAlike 134 = .ok (.putfield 575, 3) := by decide +kernel
theorem dX12_areAlike_137 : decode cX12_areAlike 137 = .ok (.iconst 0, 1) := by decide +kernel
theorem dX12_areAlike_138 : decode cX12_areAlike 138 = .ok (.istore 8, 2) := by decide +kernel
theorem dX12_areAlike_241 : decode cX12_areAlike 241 = .ok (.iinc 2 1, 3) := by decide +kernel
theorem dX12_areAlike_244 : decode cX12_areAlike 244 = .ok (.goto (-216), 3) := by decide +kernel
theorem dX12_areAlike_87 : decode cX12_areAlike 87 = .ok (.aload_n 0, 1) := by decide +kernel
theorem dX12_areAlike_88 : decode cX12_areAlike 88 = .ok (.iconst 2, 1) := by decide +kernel
theorem dX12_areAlike_89 : decode cX12_areAlike 89 = .ok (.invokevirtual 584, 3) := by decide +kernel
theorem dX12_areAlike_92 : decode cX12_areAlike 92 = .ok (.iload_n 3, 1) := by decide +kernel
theorem dX12_areAlike_93 : decode cX12_areAlike 93 = .ok (.if_icmp .ne 24, 3) := by decide +kernel
theorem dX12_areAlike_96 : decode cX12_areAlike 96 = .ok (.aload_n 0, 1) := by decide +kernel
theorem dX12_areAlike_97 : decode cX12_areAlike 97 = .ok (.getfield 176, 3) := by decide +kernel
theorem dX12_areAlike_100 : decode cX12_areAlike 100 = .ok (.bipush 12, 2) := by decide +kernel
theorem dX12_areAlike_102 : decode cX12_areAlike 102 = .ok (.aload_n 0, 1) := by decide +kernel
theorem dX12_areAlike_103 : decode cX12_areAlike 103 = .ok (.getfield 572, 3) := by decide +kernel
theorem dX12_areAlike_106 : decode cX12_areAlike 106 = .ok (.imul, 1) := by decide +kernel
theorem dX12_areAlike_107 : decode cX12_areAlike 107 = .ok (.iaload, 1) := by decide +kernel
theorem dX12_areAlike_108 : decode cX12_areAlike 108 = .ok (.iload 4, 2) := by decide +kernel
theorem dX12_areAlike_110 : decode cX12_areAlike 110 = .ok (.if_icmp .ne 7, 3) := by decide +kernel
theorem dX12_areAlike_113 : decode cX12_areAlike 113 = .ok (.iconst 1, 1) := by decide +kernel
theorem dX12_areAlike_114 : decode cX12_areAlike 114 = .ok (.goto 4, 3) := by decide +kernel
set_option maxHeartbeats 4000000 in
set_option maxRecDepth 20000 in
theorem l_areA1 (d : Nat) {b : Nat} {σ0 : MS} {post : Option Value → MS → Prop} (hR0 : RG σ0) (hit : ITM σ0) (hpar : PAR σ0) (hnam : NAM σ0) (hgd : GDA σ0) (hr1 : RUN σ0 1) (hr2 : RUN σ0 2) (hb2 : BKA σ0 2) (hC : (0 ≤ σ0.2.1 86 0 ∧ σ0.2.1 86 0 ≤ 900000000) ∧ 0 ≤ σ0.2.1 86 1 ∧ σ0.2.1 86 1 ≤ 900000000) (hx_247 : ∀ (a : Int) (k : Int) (σ : MS) , (Fr [83, 84] [46, 47, 48, 49, 50, 51, 52, 53, 54, 55, 56, 57, 58, 86] [] σ0 σ) → (RG σ) → (a = 0 ∨ a = 1) → (LAB σ) → (BO 47 σ) → (BO 48 σ) → (SSA σ) → (SCA σ) → ((σ0.2.1 86 0 ≤ σ.2.1 86 0 ∧ σ.2.1 86 0 ≤ σ0.2.1 86 0 + 1416) ∧ σ0.2.1 86 1 ≤ σ.2.1 86 1 ∧ σ.2.1 86 1 ≤ σ0.2.1 86 1 + 1416) → Tm (d + 8) m_X12_areAlike 247 b σ [(2, .int (iI k)), (1, .int (iI a)), (0, .ref b)] [] post) : ∀ (n : Nat) (a : Int) (k : Int) (σ : MS) , (Fr [83, 84] [46, 47, 48, 49, 50, 51, 52, 53, 54, 55, 56, 57, 58, 86] [] σ0 σ) → (RG σ) → (0 ≤ k ∧ k ≤ 118 ∧ (a = 0 ∨ a = 1)) → (LAB σ) → (BO 47 σ) → (BO 48 σ) → (SSA σ) → (SCA σ) → ((σ0.2.1 86 0 ≤ σ.2.1 86 0 ∧ σ.2.1 86 0 ≤ σ0.2.1 86 0 + 12 * k) ∧ σ0.2.1 86 1 ≤ σ.2.1 86 1 ∧ σ.2.1 86 1 ≤ σ0.2.1 86 1 + 12 * k) → (118 - k).toNat = n → Tm (d + 8) m_X12_areAlike 28 b σ [(2, .int (iI k)), (1, .int (iI a)), (0, .ref b)] [] post := by
  intro n
  induction n using Nat.strongRecOn with
  | _ n ih =>
    intro a k σ hF hR h0 hl hbo hbh hss hsc hcb hm
    refine tm_iload_n dX12_areAlike_28 rfl 1 rfl ?_
    refine tm_if_eq (tgt := 247) dX12_areAlike_29 (by decide) ⟨by omega, by omega⟩ (fun h1 => ?_) (fun h1 => ?_)
    · exact tm_sub [0, 1, 2] rfl (hx_247 (a) (k) σ (Fr.rfl.trans (Fr.sub hF (by decide) (by decide) (by decide))) hR (by omega) hl hbo hbh hss hsc (by omega))
    · have hgd2 := hgd.fr hF (by decide) (by decide)
      have hb1s := hgd2.bka (m := 1) (by decide)
      have hb2s := hb2.fr hF (by decide) (by decide)
      have hr1s := hr1.fr hF (by decide) (by decide)
      have hr2s := hr2.fr hF (by decide) (by decide)
      have hd1 := hr1s.hd hb1s
      refine tm_aload_n dX12_areAlike_32 rfl 2 rfl ?_
      refine tm_iconst dX12_areAlike_33 ?_
      refine tm_iload_n dX12_areAlike_34 rfl 0 rfl ?_
      refine tm_callV (M := m_X12_areAlike) (pc := 35) (ix := 578) (M' := m_X12_isFrame) (As := [.int (iI 1), .int (iI k)]) (rest := []) dX12_areAlike_35 ok_X12_isFrame im_X12_isFrame se_X12_isFrame ml12_578 np_X12_isFrame rfl rfl (Nat.le_of_ble_eq_true rfl) (Nat.le_of_ble_eq_true rfl) rfl (c2_X12_isFrame (d + 6) (σ := σ) (m := 1) (k := k) hR (by decide) hd1.1 hd1.2 (by omega)) (fun r2 σ3 hp => ?_)
      obtain ⟨v4, rfl, f5, f6, f7, f8, f9, f10⟩ := hp
      show Tm _ _ 38 b σ3 [(2, .int (iI k)), (1, .int (iI a)), (0, .ref b)] [.int (iI v4)] _
      refine tm_if_eq (tgt := 247) dX12_areAlike_38 (by decide) ⟨by omega, by omega⟩ (fun h11 => ?_) (fun h11 => ?_)
      · exact tm_sub [0, 1, 2] rfl (hx_247 (a) (k) σ3 ((Fr.rfl.trans (Fr.sub hF (by decide) (by decide) (by decide))).trans (Fr.sub f6 (by decide) (by decide) (by decide))) f7 (by omega) (hl.fr f6 (by decide)) (hbo.fr f6 (by decide)) (hbh.fr f6 (by decide)) (hss.fr f6 (by decide)) (hsc.fr f6 (by decide)) (by rw [f6.2.1 86 (by decide)]; omega))
      · have gt := f8 (by omega)
        have hk117 := f9 (by omega)
        have hpl := hr1s.2.1 (σ3.1 83) (by omega) (by have := gt.2.1; omega)
        have hpl1 := hpl.1
        have hpl2 := hpl.2.1
        have hgr := hgd2.2 _ hpl1.1 hpl1.2
        have hofr := hgr.2.1
        have hfn : fn σ 1 (σ3.1 83) = σ.2.1 14 (σ.2.1 78 (σ3.1 83)) := if_neg (by decide)
        have hfr := hofr.2 (σ3.1 84) (by omega) (by omega)
        have hofr1 := hofr.1
        have h61 := hgd2.1
        have hmc1 := hd1.1
        have hit9 := hgr.1
        have hbk0 : bkm 1 = 0 := if_neg (by decide)
        rw [hbk0, Int.zero_add] at hpl2
        refine tm_aload_n dX12_areAlike_41 rfl 2 rfl ?_
        refine tm_iconst dX12_areAlike_42 ?_
        refine tm_callV (M := m_X12_areAlike) (pc := 43) (ix := 584) (M' := m_X12_routineIn) (As := [.int (iI 1)]) (rest := []) dX12_areAlike_43 ok_X12_routineIn im_X12_routineIn se_X12_routineIn ml12_584 np_X12_routineIn rfl rfl (Nat.le_of_ble_eq_true rfl) (Nat.le_of_ble_eq_true rfl) rfl (c_X12_routineIn (d + 6) (σ := σ3) (m := 1) f7 (by omega) (by intro _; rw [f6.2.1 78 (by decide)]; omega) (by omega)) (fun r12 σ13 hp => ?_)
        obtain ⟨v14, rfl, rfl, f15, f16⟩ := hp
        show Tm _ _ 46 b σ3 [(2, .int (iI k)), (1, .int (iI a)), (0, .ref b)] [.int (iI v14)] _
        have hv3 := f16 (by decide)
        rw [f6.2.1 15 (by decide), f6.2.1 78 (by decide)] at hv3
        have hr3b : 0 ≤ v14 ∧ v14 < 6 := by rw [hv3]; exact hfr.1
        refine tm_istore_n (L' := [(3, .int (iI v14)), (2, .int (iI k)), (1, .int (iI a)), (0, .ref b)]) dX12_areAlike_46 rfl (by decide) rfl ?_
        refine tm_aload_n dX12_areAlike_47 rfl 3 rfl ?_
        refine tm_get (k := 81) (v := .ref (b + 1 + 52)) lay_12 dX12_areAlike_48 (by decide) fl12_176 rfl ?_
        refine tm_bipush dX12_areAlike_51 (by decide) ?_
        refine tm_aload_n dX12_areAlike_53 rfl 3 rfl ?_
        refine tm_getS (k := 83) (t := σ3.1 83) dX12_areAlike_54 (by decide) fl12_572 rfl (rfl) ?_
        have g17 := RG.s f7 83
        refine tm_imul dX12_areAlike_57 ?_
        refine tm_aload_n dX12_areAlike_58 rfl 3 rfl ?_
        refine tm_getS (k := 84) (t := σ3.1 84) dX12_areAlike_59 (by decide) fl12_575 rfl (rfl) ?_
        have g18 := RG.s f7 84
        refine tm_iadd dX12_areAlike_62 ?_
        refine tm_iald (z := (12 * (σ3.1 83)) + (σ3.1 84)) (v := σ0.2.1 81 ((12 * (σ3.1 83)) + (σ3.1 84))) dX12_areAlike_63 (show mT[52]? = some (81, 0, 324) from rfl) (by omega) (by omega) (by decide) (ra_F f6 (by decide) (ra_F hF (by decide) (rfl))) ?_
        have g19 := RG.a hR0 81 ((12 * (σ3.1 83)) + (σ3.1 84))
        refine tm_istore (L' := [(4, .int (iI (σ0.2.1 81 ((12 * (σ3.1 83)) + (σ3.1 84))))), (3, .int (iI v14)), (2, .int (iI k)), (1, .int (iI a)), (0, .ref b)]) dX12_areAlike_64 (by decide) rfl ?_
        refine tm_aload_n dX12_areAlike_66 rfl 4 rfl ?_
        refine tm_getS (k := 83) (t := σ3.1 83) dX12_areAlike_67 (by decide) fl12_572 rfl (rfl) ?_
        have g20 := RG.s f7 83
        refine tm_istore (L' := [(5, .int (iI (σ3.1 83))), (4, .int (iI (σ0.2.1 81 ((12 * (σ3.1 83)) + (σ3.1 84))))), (3, .int (iI v14)), (2, .int (iI k)), (1, .int (iI a)), (0, .ref b)]) dX12_areAlike_70 (by decide) rfl ?_
        refine tm_aload_n dX12_areAlike_72 rfl 5 rfl ?_
        refine tm_getS (k := 84) (t := σ3.1 84) dX12_areAlike_73 (by decide) fl12_575 rfl (rfl) ?_
        have g21 := RG.s f7 84
        refine tm_istore (L' := [(6, .int (iI (σ3.1 84))), (5, .int (iI (σ3.1 83))), (4, .int (iI (σ0.2.1 81 ((12 * (σ3.1 83)) + (σ3.1 84))))), (3, .int (iI v14)), (2, .int (iI k)), (1, .int (iI a)), (0, .ref b)]) dX12_areAlike_76 (by decide) rfl ?_
        have hr2t := hr2s.fr f6 (by decide) (by decide)
        have hb2t := hb2s.fr f6 (by decide) (by decide)
        have hd2 := hr2t.hd hb2t
        have hc5 : σ3.1 83 = σ3.1 83 := rfl
        refine tm_aload_n dX12_areAlike_78 rfl 6 rfl ?_
        refine tm_iconst dX12_areAlike_79 ?_
        refine tm_iload_n dX12_areAlike_80 rfl 4 rfl ?_
        refine tm_callV (M := m_X12_areAlike) (pc := 81) (ix := 578) (M' := m_X12_isFrame) (As := [.int (iI 2), .int (iI k)]) (rest := []) dX12_areAlike_81 ok_X12_isFrame im_X12_isFrame se_X12_isFrame ml12_578 np_X12_isFrame rfl rfl (Nat.le_of_ble_eq_true rfl) (Nat.le_of_ble_eq_true rfl) rfl (c2_X12_isFrame (d + 6) (σ := σ3) (m := 2) (k := k) f7 (by decide) hd2.1 hd2.2 (by omega)) (fun r22 σ23 hp => ?_)
        obtain ⟨v24, rfl, f25, f26, f27, f28, f29, f30⟩ := hp
        show Tm _ _ 84 b σ23 [(6, .int (iI (σ3.1 84))), (5, .int (iI (σ3.1 83))), (4, .int (iI (σ0.2.1 81 ((12 * (σ3.1 83)) + (σ3.1 84))))), (3, .int (iI v14)), (2, .int (iI k)), (1, .int (iI a)), (0, .ref b)] [.int (iI v24)] _
        have gt2 := f28
        have ge2 := f30
        have hmc2 := hd2.1
        have hfn2 : ∀ c, fn σ3 2 c = 1 := fun c => if_pos rfl
        have hc7 : 0 ≤ σ23.1 83 ∧ σ23.1 83 < 27 := by rcases (show v24 = 0 ∨ v24 = 1 from f25) with q | q; rw [ge2 q]; omega; have := gt2 q; omega
        refine tm_if_eq (tgt := 117) dX12_areAlike_84 (by decide) ⟨by omega, by omega⟩ (fun h31 => ?_) (fun h31 => ?_)
        · refine tm_iconst dX12_areAlike_117 ?_
          refine tm_istore_n (L' := [(1, .int (iI 0)), (6, .int (iI (σ3.1 84))), (5, .int (iI (σ3.1 83))), (4, .int (iI (σ0.2.1 81 ((12 * (σ3.1 83)) + (σ3.1 84))))), (3, .int (iI v14)), (2, .int (iI k)), (0, .ref b)]) dX12_areAlike_118 rfl (by decide) rfl ?_
          refine tm_aload_n dX12_areAlike_119 rfl 6 rfl ?_
          refine tm_getS (k := 83) (t := σ23.1 83) dX12_areAlike_120 (by decide) fl12_572 rfl (rfl) ?_
          have g32 := RG.s f27 83
          refine tm_istore (L' := [(7, .int (iI (σ23.1 83))), (1, .int (iI 0)), (6, .int (iI (σ3.1 84))), (5, .int (iI (σ3.1 83))), (4, .int (iI (σ0.2.1 81 ((12 * (σ3.1 83)) + (σ3.1 84))))), (3, .int (iI v14)), (2, .int (iI k)), (0, .ref b)]) dX12_areAlike_123 (by decide) rfl ?_
          refine tm_aload_n dX12_areAlike_125 rfl 7 rfl ?_
          refine tm_iload dX12_areAlike_126 3 rfl ?_
          refine tm_putS (k := 83) (v := σ3.1 83) lay_12 dX12_areAlike_128 (by decide) fl12_572 rfl (tyX12_ok 83 (by decide)) rfl rfl rfl ?_
          refine tm_aload_n dX12_areAlike_131 rfl 7 rfl ?_
          refine tm_iload dX12_areAlike_132 2 rfl ?_
          refine tm_putS (k := 84) (v := σ3.1 84) lay_12 dX12_areAlike_134 (by decide) fl12_575 rfl (tyX12_ok 84 (by decide)) rfl rfl rfl ?_
          refine tm_iconst dX12_areAlike_137 ?_
          refine tm_istore (L' := [(8, .int (iI 0)), (7, .int (iI (σ23.1 83))), (1, .int (iI 0)), (6, .int (iI (σ3.1 84))), (5, .int (iI (σ3.1 83))), (4, .int (iI (σ0.2.1 81 ((12 * (σ3.1 83)) + (σ3.1 84))))), (3, .int (iI v14)), (2, .int (iI k)), (0, .ref b)]) dX12_areAlike_138 (by decide) rfl ?_
          refine tm_sub [0, 1, 3, 4, 5, 6, 2, 7, 8] rfl (l_areA2 (d) (σ0 := (sS 84 (σ3.1 84) (sS 83 (σ3.1 83) σ23))) (k := k) (r3 := v14) (x4 := σ0.2.1 81 ((12 * (σ3.1 83)) + (σ3.1 84))) (c5 := σ3.1 83) (f6 := σ3.1 84) (c7 := σ23.1 83) ((f27.S (by omega)).S (by omega)) (hit.fr (show Fr [83, 84] [46, 47, 48, 49, 50, 51, 52, 53, 54, 55, 56, 57, 58, 86] [] σ0 (sS 84 (σ3.1 84) (sS 83 (σ3.1 83) σ23)) from (((((Fr.rfl.trans (Fr.sub hF (by decide) (by decide) (by decide))).trans (Fr.sub f6 (by decide) (by decide) (by decide))).trans (Fr.sub f26 (by decide) (by decide) (by decide))).S (by decide)).S (by decide))) (by decide)) (hpar.fr (show Fr [83, 84] [46, 47, 48, 49, 50, 51, 52, 53, 54, 55, 56, 57, 58, 86] [] σ0 (sS 84 (σ3.1 84) (sS 83 (σ3.1 83) σ23)) from (((((Fr.rfl.trans (Fr.sub hF (by decide) (by decide) (by decide))).trans (Fr.sub f6 (by decide) (by decide) (by decide))).trans (Fr.sub f26 (by decide) (by decide) (by decide))).S (by decide)).S (by decide))) (by decide)) (hnam.fr (show Fr [83, 84] [46, 47, 48, 49, 50, 51, 52, 53, 54, 55, 56, 57, 58, 86] [] σ0 (sS 84 (σ3.1 84) (sS 83 (σ3.1 83) σ23)) from (((((Fr.rfl.trans (Fr.sub hF (by decide) (by decide) (by decide))).trans (Fr.sub f6 (by decide) (by decide) (by decide))).trans (Fr.sub f26 (by decide) (by decide) (by decide))).S (by decide)).S (by decide))) (by decide)) (hgd2.fr (show Fr [83, 84] [] [] σ (sS 84 (σ3.1 84) (sS 83 (σ3.1 83) σ23)) from ((((Fr.rfl.trans (Fr.sub f6 (by decide) (by decide) (by decide))).trans (Fr.sub f26 (by decide) (by decide) (by decide))).S (by decide)).S (by decide))) (by decide) (by decide)) (by rw [show (sS 84 (σ3.1 84) (sS 83 (σ3.1 83) σ23)).1 83 = σ3.1 83 from rs_o (by decide) (rs_eq), show (sS 84 (σ3.1 84) (sS 83 (σ3.1 83) σ23)).1 84 = σ3.1 84 from rs_eq, (show Fr [83, 84] [46, 47, 48, 49, 50, 51, 52, 53, 54, 55, 56, 57, 58, 86] [] σ0 (sS 84 (σ3.1 84) (sS 83 (σ3.1 83) σ23)) from (((((Fr.rfl.trans (Fr.sub hF (by decide) (by decide) (by decide))).trans (Fr.sub f6 (by decide) (by decide) (by decide))).trans (Fr.sub f26 (by decide) (by decide) (by decide))).S (by decide)).S (by decide))).2.1 78 (by decide), (show Fr [83, 84] [46, 47, 48, 49, 50, 51, 52, 53, 54, 55, 56, 57, 58, 86] [] σ0 (sS 84 (σ3.1 84) (sS 83 (σ3.1 83) σ23)) from (((((Fr.rfl.trans (Fr.sub hF (by decide) (by decide) (by decide))).trans (Fr.sub f6 (by decide) (by decide) (by decide))).trans (Fr.sub f26 (by decide) (by decide) (by decide))).S (by decide)).S (by decide))).2.1 79 (by decide), (show Fr [83, 84] [46, 47, 48, 49, 50, 51, 52, 53, 54, 55, 56, 57, 58, 86] [] σ0 (sS 84 (σ3.1 84) (sS 83 (σ3.1 83) σ23)) from (((((Fr.rfl.trans (Fr.sub hF (by decide) (by decide) (by decide))).trans (Fr.sub f6 (by decide) (by decide) (by decide))).trans (Fr.sub f26 (by decide) (by decide) (by decide))).S (by decide)).S (by decide))).1 10 (by decide), ← hF.2.1 78 (by decide), ← hF.2.1 79 (by decide), ← hF.1 10 (by decide)]; omega) hr3b hc7 (by rw [(show Fr [83, 84] [] [] σ (sS 84 (σ3.1 84) (sS 83 (σ3.1 83) σ23)) from ((((Fr.rfl.trans (Fr.sub f6 (by decide) (by decide) (by decide))).trans (Fr.sub f26 (by decide) (by decide) (by decide))).S (by decide)).S (by decide))).2.1 86 (by decide)]; omega) (fun n845 a46 σ47 F36 R37 f38 f39 f40 f41 f42 f43 f44 => ?_) _ (0) (0) (sS 84 (σ3.1 84) (sS 83 (σ3.1 83) σ23)) Fr.rfl ((f27.S (by omega)).S (by omega)) (by omega) (hl.fr (show Fr [83, 84] [] [] σ (sS 84 (σ3.1 84) (sS 83 (σ3.1 83) σ23)) from ((((Fr.rfl.trans (Fr.sub f6 (by decide) (by decide) (by decide))).trans (Fr.sub f26 (by decide) (by decide) (by decide))).S (by decide)).S (by decide))) (by decide)) (hbo.fr (show Fr [83, 84] [] [] σ (sS 84 (σ3.1 84) (sS 83 (σ3.1 83) σ23)) from ((((Fr.rfl.trans (Fr.sub f6 (by decide) (by decide) (by decide))).trans (Fr.sub f26 (by decide) (by decide) (by decide))).S (by decide)).S (by decide))) (by decide)) (hbh.fr (show Fr [83, 84] [] [] σ (sS 84 (σ3.1 84) (sS 83 (σ3.1 83) σ23)) from ((((Fr.rfl.trans (Fr.sub f6 (by decide) (by decide) (by decide))).trans (Fr.sub f26 (by decide) (by decide) (by decide))).S (by decide)).S (by decide))) (by decide)) (hss.fr (show Fr [83, 84] [] [] σ (sS 84 (σ3.1 84) (sS 83 (σ3.1 83) σ23)) from ((((Fr.rfl.trans (Fr.sub f6 (by decide) (by decide) (by decide))).trans (Fr.sub f26 (by decide) (by decide) (by decide))).S (by decide)).S (by decide))) (by decide)) (hsc.fr (show Fr [83, 84] [] [] σ (sS 84 (σ3.1 84) (sS 83 (σ3.1 83) σ23)) from ((((Fr.rfl.trans (Fr.sub f6 (by decide) (by decide) (by decide))).trans (Fr.sub f26 (by decide) (by decide) (by decide))).S (by decide)).S (by decide))) (by decide)) ⟨⟨Int.le_refl _, by omega⟩, Int.le_refl _, by omega⟩ rfl)
          show Tm _ _ 241 b σ47 [(1, .int (iI a46)), (2, .int (iI k)), (0, .ref b)] [] _
          refine tm_iinc (q0 := 1) (L' := [(2, .int (iI (k + 1))), (1, .int (iI a46)), (0, .ref b)]) dX12_areAlike_241 rfl (by decide) rfl ?_
          refine tm_goto (tgt := 28) dX12_areAlike_244 (by decide) ?_
          exact tm_sub [0, 1, 2] rfl (ih _ (by omega) (a46) (k + 1) σ47 ((((((Fr.rfl.trans (Fr.sub hF (by decide) (by decide) (by decide))).trans (Fr.sub f6 (by decide) (by decide) (by decide))).trans (Fr.sub f26 (by decide) (by decide) (by decide))).S (by decide)).S (by decide)).trans (Fr.sub F36 (by decide) (by decide) (by decide))) R37 (by omega) f39 f40 f41 f42 f43 (by have q := f44; rw [(show Fr [83, 84] [] [] σ (sS 84 (σ3.1 84) (sS 83 (σ3.1 83) σ23)) from ((((Fr.rfl.trans (Fr.sub f6 (by decide) (by decide) (by decide))).trans (Fr.sub f26 (by decide) (by decide) (by decide))).S (by decide)).S (by decide))).2.1 86 (by decide)] at q; omega) rfl)
        · refine tm_aload_n dX12_areAlike_87 rfl 6 rfl ?_
          refine tm_iconst dX12_areAlike_88 ?_
          refine tm_callV (M := m_X12_areAlike) (pc := 89) (ix := 584) (M' := m_X12_routineIn) (As := [.int (iI 2)]) (rest := []) dX12_areAlike_89 ok_X12_routineIn im_X12_routineIn se_X12_routineIn ml12_584 np_X12_routineIn rfl rfl (Nat.le_of_ble_eq_true rfl) (Nat.le_of_ble_eq_true rfl) rfl (c_X12_routineIn (d + 6) (σ := σ23) (m := 2) f27 hc7 (fun q => absurd rfl q) (by omega)) (fun r48 σ49 hp => ?_)
          obtain ⟨v50, rfl, rfl, f51, f52⟩ := hp
          show Tm _ _ 92 b σ23 [(6, .int (iI (σ3.1 84))), (5, .int (iI (σ3.1 83))), (4, .int (iI (σ0.2.1 81 ((12 * (σ3.1 83)) + (σ3.1 84))))), (3, .int (iI v14)), (2, .int (iI k)), (1, .int (iI a)), (0, .ref b)] [.int (iI v50)] _
          have hr78 := (f27).a 78 (σ23.1 83)
          refine tm_iload_n dX12_areAlike_92 rfl 3 rfl ?_
          refine tm_icmp_ne (tgt := 117) dX12_areAlike_93 (by decide) ⟨by omega, by omega⟩ ⟨by omega, by omega⟩ (fun h53 => ?_) (fun h53 => ?_)
          · refine tm_iconst dX12_areAlike_117 ?_
            refine tm_istore_n (L' := [(1, .int (iI 0)), (6, .int (iI (σ3.1 84))), (5, .int (iI (σ3.1 83))), (4, .int (iI (σ0.2.1 81 ((12 * (σ3.1 83)) + (σ3.1 84))))), (3, .int (iI v14)), (2, .int (iI k)), (0, .ref b)]) dX12_areAlike_118 rfl (by decide) rfl ?_
            refine tm_aload_n dX12_areAlike_119 rfl 6 rfl ?_
            refine tm_getS (k := 83) (t := σ23.1 83) dX12_areAlike_120 (by decide) fl12_572 rfl (rfl) ?_
            have g54 := RG.s f27 83
            refine tm_istore (L' := [(7, .int (iI (σ23.1 83))), (1, .int (iI 0)), (6, .int (iI (σ3.1 84))), (5, .int (iI (σ3.1 83))), (4, .int (iI (σ0.2.1 81 ((12 * (σ3.1 83)) + (σ3.1 84))))), (3, .int (iI v14)), (2, .int (iI k)), (0, .ref b)]) dX12_areAlike_123 (by decide) rfl ?_
            refine tm_aload_n dX12_areAlike_125 rfl 7 rfl ?_
            refine tm_iload dX12_areAlike_126 3 rfl ?_
            refine tm_putS (k := 83) (v := σ3.1 83) lay_12 dX12_areAlike_128 (by decide) fl12_572 rfl (tyX12_ok 83 (by decide)) rfl rfl rfl ?_
            refine tm_aload_n dX12_areAlike_131 rfl 7 rfl ?_
            refine tm_iload dX12_areAlike_132 2 rfl ?_
            refine tm_putS (k := 84) (v := σ3.1 84) lay_12 dX12_areAlike_134 (by decide) fl12_575 rfl (tyX12_ok 84 (by decide)) rfl rfl rfl ?_
            refine tm_iconst dX12_areAlike_137 ?_
            refine tm_istore (L' := [(8, .int (iI 0)), (7, .int (iI (σ23.1 83))), (1, .int (iI 0)), (6, .int (iI (σ3.1 84))), (5, .int (iI (σ3.1 83))), (4, .int (iI (σ0.2.1 81 ((12 * (σ3.1 83)) + (σ3.1 84))))), (3, .int (iI v14)), (2, .int (iI k)), (0, .ref b)]) dX12_areAlike_138 (by decide) rfl ?_
            refine tm_sub [0, 1, 3, 4, 5, 6, 2, 7, 8] rfl (l_areA2 (d) (σ0 := (sS 84 (σ3.1 84) (sS 83 (σ3.1 83) σ23))) (k := k) (r3 := v14) (x4 := σ0.2.1 81 ((12 * (σ3.1 83)) + (σ3.1 84))) (c5 := σ3.1 83) (f6 := σ3.1 84) (c7 := σ23.1 83) ((f27.S (by omega)).S (by omega)) (hit.fr (show Fr [83, 84] [46, 47, 48, 49, 50, 51, 52, 53, 54, 55, 56, 57, 58, 86] [] σ0 (sS 84 (σ3.1 84) (sS 83 (σ3.1 83) σ23)) from (((((Fr.rfl.trans (Fr.sub hF (by decide) (by decide) (by decide))).trans (Fr.sub f6 (by decide) (by decide) (by decide))).trans (Fr.sub f26 (by decide) (by decide) (by decide))).S (by decide)).S (by decide))) (by decide)) (hpar.fr (show Fr [83, 84] [46, 47, 48, 49, 50, 51, 52, 53, 54, 55, 56, 57, 58, 86] [] σ0 (sS 84 (σ3.1 84) (sS 83 (σ3.1 83) σ23)) from (((((Fr.rfl.trans (Fr.sub hF (by decide) (by decide) (by decide))).trans (Fr.sub f6 (by decide) (by decide) (by decide))).trans (Fr.sub f26 (by decide) (by decide) (by decide))).S (by decide)).S (by decide))) (by decide)) (hnam.fr (show Fr [83, 84] [46, 47, 48, 49, 50, 51, 52, 53, 54, 55, 56, 57, 58, 86] [] σ0 (sS 84 (σ3.1 84) (sS 83 (σ3.1 83) σ23)) from (((((Fr.rfl.trans (Fr.sub hF (by decide) (by decide) (by decide))).trans (Fr.sub f6 (by decide) (by decide) (by decide))).trans (Fr.sub f26 (by decide) (by decide) (by decide))).S (by decide)).S (by decide))) (by decide)) (hgd2.fr (show Fr [83, 84] [] [] σ (sS 84 (σ3.1 84) (sS 83 (σ3.1 83) σ23)) from ((((Fr.rfl.trans (Fr.sub f6 (by decide) (by decide) (by decide))).trans (Fr.sub f26 (by decide) (by decide) (by decide))).S (by decide)).S (by decide))) (by decide) (by decide)) (by rw [show (sS 84 (σ3.1 84) (sS 83 (σ3.1 83) σ23)).1 83 = σ3.1 83 from rs_o (by decide) (rs_eq), show (sS 84 (σ3.1 84) (sS 83 (σ3.1 83) σ23)).1 84 = σ3.1 84 from rs_eq, (show Fr [83, 84] [46, 47, 48, 49, 50, 51, 52, 53, 54, 55, 56, 57, 58, 86] [] σ0 (sS 84 (σ3.1 84) (sS 83 (σ3.1 83) σ23)) from (((((Fr.rfl.trans (Fr.sub hF (by decide) (by decide) (by decide))).trans (Fr.sub f6 (by decide) (by decide) (by decide))).trans (Fr.sub f26 (by decide) (by decide) (by decide))).S (by decide)).S (by decide))).2.1 78 (by decide), (show Fr [83, 84] [46, 47, 48, 49, 50, 51, 52, 53, 54, 55, 56, 57, 58, 86] [] σ0 (sS 84 (σ3.1 84) (sS 83 (σ3.1 83) σ23)) from (((((Fr.rfl.trans (Fr.sub hF (by decide) (by decide) (by decide))).trans (Fr.sub f6 (by decide) (by decide) (by decide))).trans (Fr.sub f26 (by decide) (by decide) (by decide))).S (by decide)).S (by decide))).2.1 79 (by decide), (show Fr [83, 84] [46, 47, 48, 49, 50, 51, 52, 53, 54, 55, 56, 57, 58, 86] [] σ0 (sS 84 (σ3.1 84) (sS 83 (σ3.1 83) σ23)) from (((((Fr.rfl.trans (Fr.sub hF (by decide) (by decide) (by decide))).trans (Fr.sub f6 (by decide) (by decide) (by decide))).trans (Fr.sub f26 (by decide) (by decide) (by decide))).S (by decide)).S (by decide))).1 10 (by decide), ← hF.2.1 78 (by decide), ← hF.2.1 79 (by decide), ← hF.1 10 (by decide)]; omega) hr3b hc7 (by rw [(show Fr [83, 84] [] [] σ (sS 84 (σ3.1 84) (sS 83 (σ3.1 83) σ23)) from ((((Fr.rfl.trans (Fr.sub f6 (by decide) (by decide) (by decide))).trans (Fr.sub f26 (by decide) (by decide) (by decide))).S (by decide)).S (by decide))).2.1 86 (by decide)]; omega) (fun n867 a68 σ69 F58 R59 f60 f61 f62 f63 f64 f65 f66 => ?_) _ (0) (0) (sS 84 (σ3.1 84) (sS 83 (σ3.1 83) σ23)) Fr.rfl ((f27.S (by omega)).S (by omega)) (by omega) (hl.fr (show Fr [83, 84] [] [] σ (sS 84 (σ3.1 84) (sS 83 (σ3.1 83) σ23)) from ((((Fr.rfl.trans (Fr.sub f6 (by decide) (by decide) (by decide))).trans (Fr.sub f26 (by decide) (by decide) (by decide))).S (by decide)).S (by decide))) (by decide)) (hbo.fr (show Fr [83, 84] [] [] σ (sS 84 (σ3.1 84) (sS 83 (σ3.1 83) σ23)) from ((((Fr.rfl.trans (Fr.sub f6 (by decide) (by decide) (by decide))).trans (Fr.sub f26 (by decide) (by decide) (by decide))).S (by decide)).S (by decide))) (by decide)) (hbh.fr (show Fr [83, 84] [] [] σ (sS 84 (σ3.1 84) (sS 83 (σ3.1 83) σ23)) from ((((Fr.rfl.trans (Fr.sub f6 (by decide) (by decide) (by decide))).trans (Fr.sub f26 (by decide) (by decide) (by decide))).S (by decide)).S (by decide))) (by decide)) (hss.fr (show Fr [83, 84] [] [] σ (sS 84 (σ3.1 84) (sS 83 (σ3.1 83) σ23)) from ((((Fr.rfl.trans (Fr.sub f6 (by decide) (by decide) (by decide))).trans (Fr.sub f26 (by decide) (by decide) (by decide))).S (by decide)).S (by decide))) (by decide)) (hsc.fr (show Fr [83, 84] [] [] σ (sS 84 (σ3.1 84) (sS 83 (σ3.1 83) σ23)) from ((((Fr.rfl.trans (Fr.sub f6 (by decide) (by decide) (by decide))).trans (Fr.sub f26 (by decide) (by decide) (by decide))).S (by decide)).S (by decide))) (by decide)) ⟨⟨Int.le_refl _, by omega⟩, Int.le_refl _, by omega⟩ rfl)
            show Tm _ _ 241 b σ69 [(1, .int (iI a68)), (2, .int (iI k)), (0, .ref b)] [] _
            refine tm_iinc (q0 := 1) (L' := [(2, .int (iI (k + 1))), (1, .int (iI a68)), (0, .ref b)]) dX12_areAlike_241 rfl (by decide) rfl ?_
            refine tm_goto (tgt := 28) dX12_areAlike_244 (by decide) ?_
            exact tm_sub [0, 1, 2] rfl (ih _ (by omega) (a68) (k + 1) σ69 ((((((Fr.rfl.trans (Fr.sub hF (by decide) (by decide) (by decide))).trans (Fr.sub f6 (by decide) (by decide) (by decide))).trans (Fr.sub f26 (by decide) (by decide) (by decide))).S (by decide)).S (by decide)).trans (Fr.sub F58 (by decide) (by decide) (by decide))) R59 (by omega) f61 f62 f63 f64 f65 (by have q := f66; rw [(show Fr [83, 84] [] [] σ (sS 84 (σ3.1 84) (sS 83 (σ3.1 83) σ23)) from ((((Fr.rfl.trans (Fr.sub f6 (by decide) (by decide) (by decide))).trans (Fr.sub f26 (by decide) (by decide) (by decide))).S (by decide)).S (by decide))).2.1 86 (by decide)] at q; omega) rfl)
          · refine tm_aload_n dX12_areAlike_96 rfl 6 rfl ?_
            refine tm_get (k := 81) (v := .ref (b + 1 + 52)) lay_12 dX12_areAlike_97 (by decide) fl12_176 rfl ?_
            refine tm_bipush dX12_areAlike_100 (by decide) ?_
            refine tm_aload_n dX12_areAlike_102 rfl 6 rfl ?_
            refine tm_getS (k := 83) (t := σ23.1 83) dX12_areAlike_103 (by decide) fl12_572 rfl (rfl) ?_
            have g70 := RG.s f27 83
            refine tm_imul dX12_areAlike_106 ?_
            refine tm_iald (z := 12 * (σ23.1 83)) (v := σ0.2.1 81 (12 * (σ23.1 83))) dX12_areAlike_107 (show mT[52]? = some (81, 0, 324) from rfl) (by omega) (by omega) (by decide) (ra_F f26 (by decide) (ra_F f6 (by decide) (ra_F hF (by decide) (rfl)))) ?_
            have g71 := RG.a hR0 81 (12 * (σ23.1 83))
            refine tm_iload dX12_areAlike_108 2 rfl ?_
            refine tm_icmp_ne (tgt := 117) dX12_areAlike_110 (by decide) ⟨by omega, by omega⟩ ⟨by omega, by omega⟩ (fun h72 => ?_) (fun h72 => ?_)
            · refine tm_iconst dX12_areAlike_117 ?_
              refine tm_istore_n (L' := [(1, .int (iI 0)), (6, .int (iI (σ3.1 84))), (5, .int (iI (σ3.1 83))), (4, .int (iI (σ0.2.1 81 ((12 * (σ3.1 83)) + (σ3.1 84))))), (3, .int (iI v14)), (2, .int (iI k)), (0, .ref b)]) dX12_areAlike_118 rfl (by decide) rfl ?_
              refine tm_aload_n dX12_areAlike_119 rfl 6 rfl ?_
              refine tm_getS (k := 83) (t := σ23.1 83) dX12_areAlike_120 (by decide) fl12_572 rfl (rfl) ?_
              have g73 := RG.s f27 83
              refine tm_istore (L' := [(7, .int (iI (σ23.1 83))), (1, .int (iI 0)), (6, .int (iI (σ3.1 84))), (5, .int (iI (σ3.1 83))), (4, .int (iI (σ0.2.1 81 ((12 * (σ3.1 83)) + (σ3.1 84))))), (3, .int (iI v14)), (2, .int (iI k)), (0, .ref b)]) dX12_areAlike_123 (by decide) rfl ?_
              refine tm_aload_n dX12_areAlike_125 rfl 7 rfl ?_
              refine tm_iload dX12_areAlike_126 3 rfl ?_
              refine tm_putS (k := 83) (v := σ3.1 83) lay_12 dX12_areAlike_128 (by decide) fl12_572 rfl (tyX12_ok 83 (by decide)) rfl rfl rfl ?_
              refine tm_aload_n dX12_areAlike_131 rfl 7 rfl ?_
              refine tm_iload dX12_areAlike_132 2 rfl ?_
              refine tm_putS (k := 84) (v := σ3.1 84) lay_12 dX12_areAlike_134 (by decide) fl12_575 rfl (tyX12_ok 84 (by decide)) rfl rfl rfl ?_
              refine tm_iconst dX12_areAlike_137 ?_
              refine tm_istore (L' := [(8, .int (iI 0)), (7, .int (iI (σ23.1 83))), (1, .int (iI 0)), (6, .int (iI (σ3.1 84))), (5, .int (iI (σ3.1 83))), (4, .int (iI (σ0.2.1 81 ((12 * (σ3.1 83)) + (σ3.1 84))))), (3, .int (iI v14)), (2, .int (iI k)), (0, .ref b)]) dX12_areAlike_138 (by decide) rfl ?_
              refine tm_sub [0, 1, 3, 4, 5, 6, 2, 7, 8] rfl (l_areA2 (d) (σ0 := (sS 84 (σ3.1 84) (sS 83 (σ3.1 83) σ23))) (k := k) (r3 := v14) (x4 := σ0.2.1 81 ((12 * (σ3.1 83)) + (σ3.1 84))) (c5 := σ3.1 83) (f6 := σ3.1 84) (c7 := σ23.1 83) ((f27.S (by omega)).S (by omega)) (hit.fr (show Fr [83, 84] [46, 47, 48, 49, 50, 51, 52, 53, 54, 55, 56, 57, 58, 86] [] σ0 (sS 84 (σ3.1 84) (sS 83 (σ3.1 83) σ23)) from (((((Fr.rfl.trans (Fr.sub hF (by decide) (by decide) (by decide))).trans (Fr.sub f6 (by decide) (by decide) (by decide))).trans (Fr.sub f26 (by decide) (by decide) (by decide))).S (by decide)).S (by decide))) (by decide)) (hpar.fr (show Fr [83, 84] [46, 47, 48, 49, 50, 51, 52, 53, 54, 55, 56, 57, 58, 86] [] σ0 (sS 84 (σ3.1 84) (sS 83 (σ3.1 83) σ23)) from (((((Fr.rfl.trans (Fr.sub hF (by decide) (by decide) (by decide))).trans (Fr.sub f6 (by decide) (by decide) (by decide))).trans (Fr.sub f26 (by decide) (by decide) (by decide))).S (by decide)).S (by decide))) (by decide)) (hnam.fr (show Fr [83, 84] [46, 47, 48, 49, 50, 51, 52, 53, 54, 55, 56, 57, 58, 86] [] σ0 (sS 84 (σ3.1 84) (sS 83 (σ3.1 83) σ23)) from (((((Fr.rfl.trans (Fr.sub hF (by decide) (by decide) (by decide))).trans (Fr.sub f6 (by decide) (by decide) (by decide))).trans (Fr.sub f26 (by decide) (by decide) (by decide))).S (by decide)).S (by decide))) (by decide)) (hgd2.fr (show Fr [83, 84] [] [] σ (sS 84 (σ3.1 84) (sS 83 (σ3.1 83) σ23)) from ((((Fr.rfl.trans (Fr.sub f6 (by decide) (by decide) (by decide))).trans (Fr.sub f26 (by decide) (by decide) (by decide))).S (by decide)).S (by decide))) (by decide) (by decide)) (by rw [show (sS 84 (σ3.1 84) (sS 83 (σ3.1 83) σ23)).1 83 = σ3.1 83 from rs_o (by decide) (rs_eq), show (sS 84 (σ3.1 84) (sS 83 (σ3.1 83) σ23)).1 84 = σ3.1 84 from rs_eq, (show Fr [83, 84] [46, 47, 48, 49, 50, 51, 52, 53, 54, 55, 56, 57, 58, 86] [] σ0 (sS 84 (σ3.1 84) (sS 83 (σ3.1 83) σ23)) from (((((Fr.rfl.trans (Fr.sub hF (by decide) (by decide) (by decide))).trans (Fr.sub f6 (by decide) (by decide) (by decide))).trans (Fr.sub f26 (by decide) (by decide) (by decide))).S (by decide)).S (by decide))).2.1 78 (by decide), (show Fr [83, 84] [46, 47, 48, 49, 50, 51, 52, 53, 54, 55, 56, 57, 58, 86] [] σ0 (sS 84 (σ3.1 84) (sS 83 (σ3.1 83) σ23)) from (((((Fr.rfl.trans (Fr.sub hF (by decide) (by decide) (by decide))).trans (Fr.sub f6 (by decide) (by decide) (by decide))).trans (Fr.sub f26 (by decide) (by decide) (by decide))).S (by decide)).S (by decide))).2.1 79 (by decide), (show Fr [83, 84] [46, 47, 48, 49, 50, 51, 52, 53, 54, 55, 56, 57, 58, 86] [] σ0 (sS 84 (σ3.1 84) (sS 83 (σ3.1 83) σ23)) from (((((Fr.rfl.trans (Fr.sub hF (by decide) (by decide) (by decide))).trans (Fr.sub f6 (by decide) (by decide) (by decide))).trans (Fr.sub f26 (by decide) (by decide) (by decide))).S (by decide)).S (by decide))).1 10 (by decide), ← hF.2.1 78 (by decide), ← hF.2.1 79 (by decide), ← hF.1 10 (by decide)]; omega) hr3b hc7 (by rw [(show Fr [83, 84] [] [] σ (sS 84 (σ3.1 84) (sS 83 (σ3.1 83) σ23)) from ((((Fr.rfl.trans (Fr.sub f6 (by decide) (by decide) (by decide))).trans (Fr.sub f26 (by decide) (by decide) (by decide))).S (by decide)).S (by decide))).2.1 86 (by decide)]; omega) (fun n886 a87 σ88 F77 R78 f79 f80 f81 f82 f83 f84 f85 => ?_) _ (0) (0) (sS 84 (σ3.1 84) (sS 83 (σ3.1 83) σ23)) Fr.rfl ((f27.S (by omega)).S (by omega)) (by omega) (hl.fr (show Fr [83, 84] [] [] σ (sS 84 (σ3.1 84) (sS 83 (σ3.1 83) σ23)) from ((((Fr.rfl.trans (Fr.sub f6 (by decide) (by decide) (by decide))).trans (Fr.sub f26 (by decide) (by decide) (by decide))).S (by decide)).S (by decide))) (by decide)) (hbo.fr (show Fr [83, 84] [] [] σ (sS 84 (σ3.1 84) (sS 83 (σ3.1 83) σ23)) from ((((Fr.rfl.trans (Fr.sub f6 (by decide) (by decide) (by decide))).trans (Fr.sub f26 (by decide) (by decide) (by decide))).S (by decide)).S (by decide))) (by decide)) (hbh.fr (show Fr [83, 84] [] [] σ (sS 84 (σ3.1 84) (sS 83 (σ3.1 83) σ23)) from ((((Fr.rfl.trans (Fr.sub f6 (by decide) (by decide) (by decide))).trans (Fr.sub f26 (by decide) (by decide) (by decide))).S (by decide)).S (by decide))) (by decide)) (hss.fr (show Fr [83, 84] [] [] σ (sS 84 (σ3.1 84) (sS 83 (σ3.1 83) σ23)) from ((((Fr.rfl.trans (Fr.sub f6 (by decide) (by decide) (by decide))).trans (Fr.sub f26 (by decide) (by decide) (by decide))).S (by decide)).S (by decide))) (by decide)) (hsc.fr (show Fr [83, 84] [] [] σ (sS 84 (σ3.1 84) (sS 83 (σ3.1 83) σ23)) from ((((Fr.rfl.trans (Fr.sub f6 (by decide) (by decide) (by decide))).trans (Fr.sub f26 (by decide) (by decide) (by decide))).S (by decide)).S (by decide))) (by decide)) ⟨⟨Int.le_refl _, by omega⟩, Int.le_refl _, by omega⟩ rfl)
              show Tm _ _ 241 b σ88 [(1, .int (iI a87)), (2, .int (iI k)), (0, .ref b)] [] _
              refine tm_iinc (q0 := 1) (L' := [(2, .int (iI (k + 1))), (1, .int (iI a87)), (0, .ref b)]) dX12_areAlike_241 rfl (by decide) rfl ?_
              refine tm_goto (tgt := 28) dX12_areAlike_244 (by decide) ?_
              exact tm_sub [0, 1, 2] rfl (ih _ (by omega) (a87) (k + 1) σ88 ((((((Fr.rfl.trans (Fr.sub hF (by decide) (by decide) (by decide))).trans (Fr.sub f6 (by decide) (by decide) (by decide))).trans (Fr.sub f26 (by decide) (by decide) (by decide))).S (by decide)).S (by decide)).trans (Fr.sub F77 (by decide) (by decide) (by decide))) R78 (by omega) f80 f81 f82 f83 f84 (by have q := f85; rw [(show Fr [83, 84] [] [] σ (sS 84 (σ3.1 84) (sS 83 (σ3.1 83) σ23)) from ((((Fr.rfl.trans (Fr.sub f6 (by decide) (by decide) (by decide))).trans (Fr.sub f26 (by decide) (by decide) (by decide))).S (by decide)).S (by decide))).2.1 86 (by decide)] at q; omega) rfl)
            · refine tm_iconst dX12_areAlike_113 ?_
              refine tm_goto (tgt := 118) dX12_areAlike_114 (by decide) ?_
              refine tm_istore_n (L' := [(1, .int (iI 1)), (6, .int (iI (σ3.1 84))), (5, .int (iI (σ3.1 83))), (4, .int (iI (σ0.2.1 81 ((12 * (σ3.1 83)) + (σ3.1 84))))), (3, .int (iI v14)), (2, .int (iI k)), (0, .ref b)]) dX12_areAlike_118 rfl (by decide) rfl ?_
              refine tm_aload_n dX12_areAlike_119 rfl 6 rfl ?_
              refine tm_getS (k := 83) (t := σ23.1 83) dX12_areAlike_120 (by decide) fl12_572 rfl (rfl) ?_
              have g89 := RG.s f27 83
              refine tm_istore (L' := [(7, .int (iI (σ23.1 83))), (1, .int (iI 1)), (6, .int (iI (σ3.1 84))), (5, .int (iI (σ3.1 83))), (4, .int (iI (σ0.2.1 81 ((12 * (σ3.1 83)) + (σ3.1 84))))), (3, .int (iI v14)), (2, .int (iI k)), (0, .ref b)]) dX12_areAlike_123 (by decide) rfl ?_
              refine tm_aload_n dX12_areAlike_125 rfl 7 rfl ?_
              refine tm_iload dX12_areAlike_126 3 rfl ?_
              refine tm_putS (k := 83) (v := σ3.1 83) lay_12 dX12_areAlike_128 (by decide) fl12_572 rfl (tyX12_ok 83 (by decide)) rfl rfl rfl ?_
              refine tm_aload_n dX12_areAlike_131 rfl 7 rfl ?_
              refine tm_iload dX12_areAlike_132 2 rfl ?_
              refine tm_putS (k := 84) (v := σ3.1 84) lay_12 dX12_areAlike_134 (by decide) fl12_575 rfl (tyX12_ok 84 (by decide)) rfl rfl rfl ?_
              refine tm_iconst dX12_areAlike_137 ?_
              refine tm_istore (L' := [(8, .int (iI 0)), (7, .int (iI (σ23.1 83))), (1, .int (iI 1)), (6, .int (iI (σ3.1 84))), (5, .int (iI (σ3.1 83))), (4, .int (iI (σ0.2.1 81 ((12 * (σ3.1 83)) + (σ3.1 84))))), (3, .int (iI v14)), (2, .int (iI k)), (0, .ref b)]) dX12_areAlike_138 (by decide) rfl ?_
              refine tm_sub [0, 1, 3, 4, 5, 6, 2, 7, 8] rfl (l_areA2 (d) (σ0 := (sS 84 (σ3.1 84) (sS 83 (σ3.1 83) σ23))) (k := k) (r3 := v14) (x4 := σ0.2.1 81 ((12 * (σ3.1 83)) + (σ3.1 84))) (c5 := σ3.1 83) (f6 := σ3.1 84) (c7 := σ23.1 83) ((f27.S (by omega)).S (by omega)) (hit.fr (show Fr [83, 84] [46, 47, 48, 49, 50, 51, 52, 53, 54, 55, 56, 57, 58, 86] [] σ0 (sS 84 (σ3.1 84) (sS 83 (σ3.1 83) σ23)) from (((((Fr.rfl.trans (Fr.sub hF (by decide) (by decide) (by decide))).trans (Fr.sub f6 (by decide) (by decide) (by decide))).trans (Fr.sub f26 (by decide) (by decide) (by decide))).S (by decide)).S (by decide))) (by decide)) (hpar.fr (show Fr [83, 84] [46, 47, 48, 49, 50, 51, 52, 53, 54, 55, 56, 57, 58, 86] [] σ0 (sS 84 (σ3.1 84) (sS 83 (σ3.1 83) σ23)) from (((((Fr.rfl.trans (Fr.sub hF (by decide) (by decide) (by decide))).trans (Fr.sub f6 (by decide) (by decide) (by decide))).trans (Fr.sub f26 (by decide) (by decide) (by decide))).S (by decide)).S (by decide))) (by decide)) (hnam.fr (show Fr [83, 84] [46, 47, 48, 49, 50, 51, 52, 53, 54, 55, 56, 57, 58, 86] [] σ0 (sS 84 (σ3.1 84) (sS 83 (σ3.1 83) σ23)) from (((((Fr.rfl.trans (Fr.sub hF (by decide) (by decide) (by decide))).trans (Fr.sub f6 (by decide) (by decide) (by decide))).trans (Fr.sub f26 (by decide) (by decide) (by decide))).S (by decide)).S (by decide))) (by decide)) (hgd2.fr (show Fr [83, 84] [] [] σ (sS 84 (σ3.1 84) (sS 83 (σ3.1 83) σ23)) from ((((Fr.rfl.trans (Fr.sub f6 (by decide) (by decide) (by decide))).trans (Fr.sub f26 (by decide) (by decide) (by decide))).S (by decide)).S (by decide))) (by decide) (by decide)) (by rw [show (sS 84 (σ3.1 84) (sS 83 (σ3.1 83) σ23)).1 83 = σ3.1 83 from rs_o (by decide) (rs_eq), show (sS 84 (σ3.1 84) (sS 83 (σ3.1 83) σ23)).1 84 = σ3.1 84 from rs_eq, (show Fr [83, 84] [46, 47, 48, 49, 50, 51, 52, 53, 54, 55, 56, 57, 58, 86] [] σ0 (sS 84 (σ3.1 84) (sS 83 (σ3.1 83) σ23)) from (((((Fr.rfl.trans (Fr.sub hF (by decide) (by decide) (by decide))).trans (Fr.sub f6 (by decide) (by decide) (by decide))).trans (Fr.sub f26 (by decide) (by decide) (by decide))).S (by decide)).S (by decide))).2.1 78 (by decide), (show Fr [83, 84] [46, 47, 48, 49, 50, 51, 52, 53, 54, 55, 56, 57, 58, 86] [] σ0 (sS 84 (σ3.1 84) (sS 83 (σ3.1 83) σ23)) from (((((Fr.rfl.trans (Fr.sub hF (by decide) (by decide) (by decide))).trans (Fr.sub f6 (by decide) (by decide) (by decide))).trans (Fr.sub f26 (by decide) (by decide) (by decide))).S (by decide)).S (by decide))).2.1 79 (by decide), (show Fr [83, 84] [46, 47, 48, 49, 50, 51, 52, 53, 54, 55, 56, 57, 58, 86] [] σ0 (sS 84 (σ3.1 84) (sS 83 (σ3.1 83) σ23)) from (((((Fr.rfl.trans (Fr.sub hF (by decide) (by decide) (by decide))).trans (Fr.sub f6 (by decide) (by decide) (by decide))).trans (Fr.sub f26 (by decide) (by decide) (by decide))).S (by decide)).S (by decide))).1 10 (by decide), ← hF.2.1 78 (by decide), ← hF.2.1 79 (by decide), ← hF.1 10 (by decide)]; omega) hr3b hc7 (by rw [(show Fr [83, 84] [] [] σ (sS 84 (σ3.1 84) (sS 83 (σ3.1 83) σ23)) from ((((Fr.rfl.trans (Fr.sub f6 (by decide) (by decide) (by decide))).trans (Fr.sub f26 (by decide) (by decide) (by decide))).S (by decide)).S (by decide))).2.1 86 (by decide)]; omega) (fun n8102 a103 σ104 F93 R94 f95 f96 f97 f98 f99 f100 f101 => ?_) _ (0) (1) (sS 84 (σ3.1 84) (sS 83 (σ3.1 83) σ23)) Fr.rfl ((f27.S (by omega)).S (by omega)) (by omega) (hl.fr (show Fr [83, 84] [] [] σ (sS 84 (σ3.1 84) (sS 83 (σ3.1 83) σ23)) from ((((Fr.rfl.trans (Fr.sub f6 (by decide) (by decide) (by decide))).trans (Fr.sub f26 (by decide) (by decide) (by decide))).S (by decide)).S (by decide))) (by decide)) (hbo.fr (show Fr [83, 84] [] [] σ (sS 84 (σ3.1 84) (sS 83 (σ3.1 83) σ23)) from ((((Fr.rfl.trans (Fr.sub f6 (by decide) (by decide) (by decide))).trans (Fr.sub f26 (by decide) (by decide) (by decide))).S (by decide)).S (by decide))) (by decide)) (hbh.fr (show Fr [83, 84] [] [] σ (sS 84 (σ3.1 84) (sS 83 (σ3.1 83) σ23)) from ((((Fr.rfl.trans (Fr.sub f6 (by decide) (by decide) (by decide))).trans (Fr.sub f26 (by decide) (by decide) (by decide))).S (by decide)).S (by decide))) (by decide)) (hss.fr (show Fr [83, 84] [] [] σ (sS 84 (σ3.1 84) (sS 83 (σ3.1 83) σ23)) from ((((Fr.rfl.trans (Fr.sub f6 (by decide) (by decide) (by decide))).trans (Fr.sub f26 (by decide) (by decide) (by decide))).S (by decide)).S (by decide))) (by decide)) (hsc.fr (show Fr [83, 84] [] [] σ (sS 84 (σ3.1 84) (sS 83 (σ3.1 83) σ23)) from ((((Fr.rfl.trans (Fr.sub f6 (by decide) (by decide) (by decide))).trans (Fr.sub f26 (by decide) (by decide) (by decide))).S (by decide)).S (by decide))) (by decide)) ⟨⟨Int.le_refl _, by omega⟩, Int.le_refl _, by omega⟩ rfl)
              show Tm _ _ 241 b σ104 [(1, .int (iI a103)), (2, .int (iI k)), (0, .ref b)] [] _
              refine tm_iinc (q0 := 1) (L' := [(2, .int (iI (k + 1))), (1, .int (iI a103)), (0, .ref b)]) dX12_areAlike_241 rfl (by decide) rfl ?_
              refine tm_goto (tgt := 28) dX12_areAlike_244 (by decide) ?_
              exact tm_sub [0, 1, 2] rfl (ih _ (by omega) (a103) (k + 1) σ104 ((((((Fr.rfl.trans (Fr.sub hF (by decide) (by decide) (by decide))).trans (Fr.sub f6 (by decide) (by decide) (by decide))).trans (Fr.sub f26 (by decide) (by decide) (by decide))).S (by decide)).S (by decide)).trans (Fr.sub F93 (by decide) (by decide) (by decide))) R94 (by omega) f96 f97 f98 f99 f100 (by have q := f101; rw [(show Fr [83, 84] [] [] σ (sS 84 (σ3.1 84) (sS 83 (σ3.1 83) σ23)) from ((((Fr.rfl.trans (Fr.sub f6 (by decide) (by decide) (by decide))).trans (Fr.sub f26 (by decide) (by decide) (by decide))).S (by decide)).S (by decide))).2.1 86 (by decide)] at q; omega) rfl)
theorem ml12_593 : Cond.methodLink RX12 593 yX12_arePrintsAlike ∈ pWW := pw10 (List.mem_of_getElem? (i := 81) rfl) rfl
theorem dX12_areAlike_0 : decode cX12_areAlike 0 = .ok (.aload_n 0, 1) := by decide +kernel
theorem dX12_areAlike_1 : decode cX12_areAlike 1 = .ok (.iconst 1, 1) := by decide +kernel
theorem dX12_areAlike_2 : decode cX12_areAlike 2 = .ok (.invokevirtual 554, 3) := by decide +kernel
theorem dX12_areAlike_5 : decode cX12_areAlike 5 = .ok (.aload_n 0, 1) := by decide +kernel
theorem dX12_areAlike_6 : decode cX12_areAlike 6 = .ok (.iconst 2, 1) := by decide +kernel
theorem dX12_areAlike_7 : decode cX12_areAlike 7 = .ok (.invokevirtual 554, 3) := by decide +kernel
theorem dX12_areAlike_10 : decode cX12_areAlike 10 = .ok (.if_icmp .ne 14, 3) := by decide +kernel
theorem dX12_areAlike_24 : decode cX12_areAlike 24 = .ok (.iconst 0, 1) := by decide +kernel
theorem dX12_areAlike_25 : decode cX12_areAlike 25 = .ok (.istore_n 1, 1) := by decide +kernel
theorem dX12_areAlike_26 : decode cX12_areAlike 26 = .ok (.iconst 0, 1) := by decide +kernel
theorem dX12_areAlike_27 : decode cX12_areAlike 27 = .ok (.istore_n 2, 1) := by decide +kernel
theorem dX12_areAlike_247 : decode cX12_areAlike 247 = .ok (.iload_n 1, 1) := by decide +kernel
theorem dX12_areAlike_248 : decode cX12_areAlike 248 = .ok (.ireturn, 1) := by decide +kernel
theorem dX12_areAlike_13 : decode cX12_areAlike 13 = .ok (.aload_n 0, 1) := by decide +kernel
theorem dX12_areAlike_14 : decode cX12_areAlike 14 = .ok (.invokevirtual 593, 3) := by decide +kernel
theorem dX12_areAlike_17 : decode cX12_areAlike 17 = .ok (.ifCond .eq 7, 3) := by decide +kernel
theorem dX12_areAlike_20 : decode cX12_areAlike 20 = .ok (.iconst 1, 1) := by decide +kernel
theorem dX12_areAlike_21 : decode cX12_areAlike 21 = .ok (.goto 4, 3) := by decide +kernel
set_option maxHeartbeats 4000000 in
set_option maxRecDepth 20000 in
theorem c_X12_areAlike (d : Nat) {b : Nat} {σ : MS} (hR : RG σ) (hit : ITM σ) (hpar : PAR σ) (hnam : NAM σ) (hgd : GDA σ) (hl : LAB σ) (hbo : BO 47 σ) (hbh : BO 48 σ) (hss : SSA σ) (hsc : SCA σ) (hr1 : RUN σ 1) (hr2 : RUN σ 2) (hb2 : BKA σ 2) (hC : (0 ≤ σ.2.1 86 0 ∧ σ.2.1 86 0 ≤ 900000000) ∧ 0 ≤ σ.2.1 86 1 ∧ σ.2.1 86 1 ≤ 900000000) : Tm (d + 8) m_X12_areAlike 0 b σ [(0, .ref b)] [] (fun ro σ2 => ∃ v : Int, ro = some (.int (iI v)) ∧ ((v = 0 ∨ v = 1)) ∧ (Fr [83, 84] [46, 47, 48, 49, 50, 51, 52, 53, 54, 55, 56, 57, 58, 86] [] σ σ2) ∧ (RG σ2) ∧ (LAB σ2) ∧ (BO 47 σ2) ∧ (BO 48 σ2) ∧ (SSA σ2) ∧ (SCA σ2) ∧ ((σ.2.1 86 0 ≤ σ2.2.1 86 0 ∧ σ2.2.1 86 0 ≤ σ.2.1 86 0 + 1416) ∧ σ.2.1 86 1 ≤ σ2.2.1 86 1 ∧ σ2.2.1 86 1 ≤ σ.2.1 86 1 + 1416)) := by
  have hb1 := hgd.bka (m := 1) (by decide)
  have hd1 := hr1.hd hb1
  have hd2 := hr2.hd hb2
  refine tm_aload_n dX12_areAlike_0 rfl 0 rfl ?_
  refine tm_iconst dX12_areAlike_1 ?_
  refine tm_callV (M := m_X12_areAlike) (pc := 2) (ix := 554) (M' := m_X12_depth) (As := [.int (iI 1)]) (rest := []) dX12_areAlike_2 ok_X12_depth im_X12_depth se_X12_depth ml12_554 np_X12_depth rfl rfl (Nat.le_of_ble_eq_true rfl) (Nat.le_of_ble_eq_true rfl) rfl (c_X12_depth (d + 6) (σ := σ) (m := 1) hR (by decide) hd1.1 (fun c a e => ⟨_, hd1.2 c a e⟩)) (fun r1 σ2 hp => ?_)
  obtain ⟨v3, rfl, rfl, f4, f5⟩ := hp
  show Tm _ _ 5 b σ [(0, .ref b)] [.int (iI v3)] _
  refine tm_aload_n dX12_areAlike_5 rfl 0 rfl ?_
  refine tm_iconst dX12_areAlike_6 ?_
  refine tm_callV (M := m_X12_areAlike) (pc := 7) (ix := 554) (M' := m_X12_depth) (As := [.int (iI 2)]) (rest := [.int (iI v3)]) dX12_areAlike_7 ok_X12_depth im_X12_depth se_X12_depth ml12_554 np_X12_depth rfl rfl (Nat.le_of_ble_eq_true rfl) (Nat.le_of_ble_eq_true rfl) rfl (c_X12_depth (d + 6) (σ := σ) (m := 2) hR (by decide) hd2.1 (fun c a e => ⟨_, hd2.2 c a e⟩)) (fun r6 σ7 hp => ?_)
  obtain ⟨v8, rfl, rfl, f9, f10⟩ := hp
  show Tm _ _ 10 b σ [(0, .ref b)] [.int (iI v8), .int (iI v3)] _
  refine tm_icmp_ne (tgt := 24) dX12_areAlike_10 (by decide) ⟨by omega, by omega⟩ ⟨by omega, by omega⟩ (fun h11 => ?_) (fun h11 => ?_)
  · refine tm_iconst dX12_areAlike_24 ?_
    refine tm_istore_n (L' := [(1, .int (iI 0)), (0, .ref b)]) dX12_areAlike_25 rfl (by decide) rfl ?_
    refine tm_iconst dX12_areAlike_26 ?_
    refine tm_istore_n (L' := [(2, .int (iI 0)), (1, .int (iI 0)), (0, .ref b)]) dX12_areAlike_27 rfl (by decide) rfl ?_
    refine tm_sub [0, 1, 2] rfl (l_areA1 (d) (σ0 := σ) hR hit hpar hnam hgd hr1 hr2 hb2 hC (fun a24 k25 σ26 F15 R16 f17 f18 f19 f20 f21 f22 f23 => ?_) _ (0) (0) σ Fr.rfl hR (by omega) hl hbo hbh hss hsc ⟨⟨Int.le_refl _, by omega⟩, Int.le_refl _, by omega⟩ rfl)
    show Tm _ _ 247 b σ26 [(2, .int (iI k25)), (1, .int (iI a24)), (0, .ref b)] [] _
    refine tm_iload_n dX12_areAlike_247 rfl 1 rfl ?_
    exact tm_zret (v := a24) rfl (by omega) dX12_areAlike_248 (⟨_, rfl, f17, (Fr.rfl.trans (Fr.sub F15 (by decide) (by decide) (by decide))), R16, f18, f19, f20, f21, f22, f23⟩)
  · refine tm_aload_n dX12_areAlike_13 rfl 0 rfl ?_
    refine tm_callV (M := m_X12_areAlike) (pc := 14) (ix := 593) (M' := m_X12_arePrintsAlike) (As := []) (rest := []) dX12_areAlike_14 ok_X12_arePrintsAlike im_X12_arePrintsAlike se_X12_arePrintsAlike ml12_593 np_X12_arePrintsAlike rfl rfl (Nat.le_of_ble_eq_true rfl) (Nat.le_of_ble_eq_true rfl) rfl (c_X12_arePrintsAlike (d + 6) (σ := σ)  hR) (fun r27 σ28 hp => ?_)
    obtain ⟨v29, rfl, rfl, f30⟩ := hp
    show Tm _ _ 17 b σ [(0, .ref b)] [.int (iI v29)] _
    refine tm_if_eq (tgt := 24) dX12_areAlike_17 (by decide) ⟨by omega, by omega⟩ (fun h31 => ?_) (fun h31 => ?_)
    · refine tm_iconst dX12_areAlike_24 ?_
      refine tm_istore_n (L' := [(1, .int (iI 0)), (0, .ref b)]) dX12_areAlike_25 rfl (by decide) rfl ?_
      refine tm_iconst dX12_areAlike_26 ?_
      refine tm_istore_n (L' := [(2, .int (iI 0)), (1, .int (iI 0)), (0, .ref b)]) dX12_areAlike_27 rfl (by decide) rfl ?_
      refine tm_sub [0, 1, 2] rfl (l_areA1 (d) (σ0 := σ) hR hit hpar hnam hgd hr1 hr2 hb2 hC (fun a44 k45 σ46 F35 R36 f37 f38 f39 f40 f41 f42 f43 => ?_) _ (0) (0) σ Fr.rfl hR (by omega) hl hbo hbh hss hsc ⟨⟨Int.le_refl _, by omega⟩, Int.le_refl _, by omega⟩ rfl)
      show Tm _ _ 247 b σ46 [(2, .int (iI k45)), (1, .int (iI a44)), (0, .ref b)] [] _
      refine tm_iload_n dX12_areAlike_247 rfl 1 rfl ?_
      exact tm_zret (v := a44) rfl (by omega) dX12_areAlike_248 (⟨_, rfl, f37, (Fr.rfl.trans (Fr.sub F35 (by decide) (by decide) (by decide))), R36, f38, f39, f40, f41, f42, f43⟩)
    · refine tm_iconst dX12_areAlike_20 ?_
      refine tm_goto (tgt := 25) dX12_areAlike_21 (by decide) ?_
      refine tm_istore_n (L' := [(1, .int (iI 1)), (0, .ref b)]) dX12_areAlike_25 rfl (by decide) rfl ?_
      refine tm_iconst dX12_areAlike_26 ?_
      refine tm_istore_n (L' := [(2, .int (iI 0)), (1, .int (iI 1)), (0, .ref b)]) dX12_areAlike_27 rfl (by decide) rfl ?_
      refine tm_sub [0, 1, 2] rfl (l_areA1 (d) (σ0 := σ) hR hit hpar hnam hgd hr1 hr2 hb2 hC (fun a59 k60 σ61 F50 R51 f52 f53 f54 f55 f56 f57 f58 => ?_) _ (1) (0) σ Fr.rfl hR (by omega) hl hbo hbh hss hsc ⟨⟨Int.le_refl _, by omega⟩, Int.le_refl _, by omega⟩ rfl)
      show Tm _ _ 247 b σ61 [(2, .int (iI k60)), (1, .int (iI a59)), (0, .ref b)] [] _
      refine tm_iload_n dX12_areAlike_247 rfl 1 rfl ?_
      exact tm_zret (v := a59) rfl (by omega) dX12_areAlike_248 (⟨_, rfl, f52, (Fr.rfl.trans (Fr.sub F50 (by decide) (by decide) (by decide))), R51, f53, f54, f55, f56, f57, f58⟩)
