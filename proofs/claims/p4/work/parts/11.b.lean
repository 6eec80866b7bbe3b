theorem dX12_rebind_80 : decode cX12_rebind 80 = .ok (.iload 7, 2) := by decide +kernel
theorem dX12_rebind_82 : decode cX12_rebind 82 = .ok (.iconst 2, 1) := by decide +kernel
theorem dX12_rebind_83 : decode cX12_rebind 83 = .ok (.if_icmp .ge 73, 3) := by decide +kernel
theorem dX12_rebind_86 : decode cX12_rebind 86 = .ok (.aload_n 0, 1) := by decide +kernel
theorem dX12_rebind_87 : decode cX12_rebind 87 = .ok (.getfield 91, 3) := by decide +kernel
theorem dX12_rebind_90 : decode cX12_rebind 90 = .ok (.iload 6, 2) := by decide +kernel
theorem dX12_rebind_92 : decode cX12_rebind 92 = .ok (.baload, 1) := by decide +kernel
theorem dX12_rebind_93 : decode cX12_rebind 93 = .ok (.ifCond .eq 63, 3) := by decide +kernel
theorem dX12_rebind_96 : decode cX12_rebind 96 = .ok (.aload_n 0, 1) := by decide +kernel
theorem dX12_rebind_97 : decode cX12_rebind 97 = .ok (.aload_n 0, 1) := by decide +kernel
theorem dX12_rebind_98 : decode cX12_rebind 98 = .ok (.iload_n 1, 1) := by decide +kernel
theorem dX12_rebind_99 : decode cX12_rebind 99 = .ok (.iload 6, 2) := by decide +kernel
theorem dX12_rebind_101 : decode cX12_rebind 101 = .ok (.invokevirtual 203, 3) := by decide +kernel
theorem dX12_rebind_104 : decode cX12_rebind 104 = .ok (.iload 4, 2) := by decide +kernel
theorem dX12_rebind_106 : decode cX12_rebind 106 = .ok (.invokevirtual 436, 3) := by decide +kernel
theorem dX12_rebind_109 : decode cX12_rebind 109 = .ok (.ifCond .ne 47, 3) := by decide +kernel
theorem dX12_rebind_112 : decode cX12_rebind 112 = .ok (.aload_n 0, 1) := by decide +kernel
theorem dX12_rebind_113 : decode cX12_rebind 113 = .ok (.iload_n 1, 1) := by decide +kernel
theorem dX12_rebind_114 : decode cX12_rebind 114 = .ok (.iload 6, 2) := by decide +kernel
theorem dX12_rebind_116 : decode cX12_rebind 116 = .ok (.iload 7, 2) := by decide +kernel
theorem dX12_rebind_118 : decode cX12_rebind 118 = .ok (.invokevirtual 413, 3) := by decide +kernel
theorem dX12_rebind_121 : decode cX12_rebind 121 = .ok (.istore 8, 2) := by decide +kernel
theorem dX12_rebind_123 : decode cX12_rebind 123 = .ok (.iload 8, 2) := by decide +kernel
theorem dX12_rebind_125 : decode cX12_rebind 125 = .ok (.iconst (-1), 1) := by decide +kernel
theorem dX12_rebind_126 : decode cX12_rebind 126 = .ok (.if_icmp .eq 24, 3) := by decide +kernel
theorem dX12_rebind_150 : decode cX12_rebind 150 = .ok (.iinc 7 1, 3) := by decide +kernel
theorem dX12_rebind_153 : decode cX12_rebind 153 = .ok (.goto (-73), 3) := by decide +kernel
theorem dX12_rebind_129 : decode cX12_rebind 129 = .ok (.aload_n 0, 1) := by decide +kernel
theorem dX12_rebind_130 : decode cX12_rebind 130 = .ok (.getfield 91, 3) := by decide +kernel
theorem dX12_rebind_133 : decode cX12_rebind 133 = .ok (.iload 8, 2) := by decide +kernel
theorem dX12_rebind_135 : decode cX12_rebind 135 = .ok (.baload, 1) := by decide +kernel
theorem dX12_rebind_136 : decode cX12_rebind 136 = .ok (.ifCond .ne 14, 3) := by decide +kernel
theorem dX12_rebind_139 : decode cX12_rebind 139 = .ok (.aload_n 0, 1) := by decide +kernel
theorem dX12_rebind_140 : decode cX12_rebind 140 = .ok (.getfield 91, 3) := by decide +kernel
theorem dX12_rebind_143 : decode cX12_rebind 143 = .ok (.iload 8, 2) := by decide +kernel
theorem dX12_rebind_145 : decode cX12_rebind 145 = .ok (.iconst 1, 1) := by decide +kernel
theorem dX12_rebind_146 : decode cX12_rebind 146 = .ok (.bastore, 1) := by decide +kernel
theorem dX12_rebind_147 : decode cX12_rebind 147 = .ok (.iconst 1, 1) := by decide +kernel
theorem dX12_rebind_148 : decode cX12_rebind 148 = .ok (.istore 5, 2) := by decide +kernel
set_option maxHeartbeats 4000000 in
set_option maxRecDepth 20000 in
theorem l_reb4 (d : Nat) {b : Nat} {σ0 : MS} {r : Int} {m : Int} {g : Int} {k0 : Int} {x0 : Int} {k : Int} {C0 : Int} {post : Option Value → MS → Prop} (hr : 0 ≤ r ∧ r < 6) (hR0 : RG σ0) (hit : ITM σ0) (hjm : JMP σ0 r) (htg : TGT σ0 r) (hm : m = σ0.2.1 9 r) (h_g : -2147483648 ≤ g ∧ g ≤ 2147483647) (hk : 0 ≤ k ∧ k < m) (hx_156 : ∀ (w : Int) (i : Int) (σ : MS) , (Fr [] [47] [] σ0 σ) → (RG σ) → (w = 0 ∨ w = 1) → (BO 47 σ) → ((cz (σ.2.1 47) 221 : Int) + w ≤ C0) → Tm (d + 3) m_X12_rebind 156 b σ [(7, .int (iI i)), (6, .int (iI k)), (5, .int (iI w)), (3, .int (iI x0)), (4, .int (iI g)), (0, .ref b), (1, .int (iI r)), (2, .int (iI k0))] [] post) : ∀ (n : Nat) (w : Int) (i : Int) (σ : MS) , (Fr [] [47] [] σ0 σ) → (RG σ) → ((w = 0 ∨ w = 1) ∧ 0 ≤ i ∧ i ≤ 2) → (BO 47 σ) → ((cz (σ.2.1 47) 221 : Int) + w ≤ C0) → (2 - i).toNat = n → Tm (d + 3) m_X12_rebind 80 b σ [(7, .int (iI i)), (6, .int (iI k)), (5, .int (iI w)), (3, .int (iI x0)), (4, .int (iI g)), (0, .ref b), (1, .int (iI r)), (2, .int (iI k0))] [] post := by
  intro n
  induction n using Nat.strongRecOn with
  | _ n ih =>
    intro w i σ hF hR h0 hbo hcn hm
    have hit1 := hit.fr hF (by decide)
    have hjm1 := hjm.fr hF (by decide)
    have htg1 := htg.fr hF (by decide)
    have q1 := hit r (by omega) (by omega)
    have q9 : σ.2.1 9 r = σ0.2.1 9 r := by rw [hF.2.1 9 (by decide)]
    have e3 : σ.2.1 3 = σ0.2.1 3 := hF.2.1 3 (by decide)
    have e4 : σ.2.1 4 = σ0.2.1 4 := hF.2.1 4 (by decide)
    have e46 : σ.2.1 46 = σ0.2.1 46 := hF.2.1 46 (by decide)
    have q5 := htg1 k (by omega) (by omega)
    refine tm_iload dX12_rebind_80 0 rfl ?_
    refine tm_iconst dX12_rebind_82 ?_
    refine tm_icmp_ge (tgt := 156) dX12_rebind_83 (by decide) ⟨by omega, by omega⟩ ⟨by decide, by decide⟩ (fun h1 => ?_) (fun h1 => ?_)
    · exact tm_sub [0, 1, 2, 3, 4, 5, 6, 7] rfl (hx_156 (w) (i) σ (Fr.rfl.trans (Fr.sub hF (by decide) (by decide) (by decide))) hR (by omega) hbo hcn)
    · refine tm_aload_n dX12_rebind_86 rfl 5 rfl ?_
      refine tm_get (k := 47) (v := .ref (b + 1 + 25)) lay_12 dX12_rebind_87 (by decide) fl12_91 rfl ?_
      refine tm_iload dX12_rebind_90 1 rfl ?_
      refine tm_zald (z := k) (v := σ.2.1 47 k) dX12_rebind_92 (show mT[25]? = some (47, 2, 221) from rfl) (by omega) (by omega) (by decide) (rfl) ?_
      have g2 := RG.a hR 47 (k)
      have := hbo (k)
      refine tm_if_eq (tgt := 156) dX12_rebind_93 (by decide) ⟨by omega, by omega⟩ (fun h3 => ?_) (fun h3 => ?_)
      · exact tm_sub [0, 1, 2, 3, 4, 5, 6, 7] rfl (hx_156 (w) (i) σ (Fr.rfl.trans (Fr.sub hF (by decide) (by decide) (by decide))) hR (by omega) hbo hcn)
      · refine tm_aload_n dX12_rebind_96 rfl 5 rfl ?_
        refine tm_aload_n dX12_rebind_97 rfl 5 rfl ?_
        refine tm_iload_n dX12_rebind_98 rfl 6 rfl ?_
        refine tm_iload dX12_rebind_99 1 rfl ?_
        refine tm_callV (M := m_X12_rebind) (pc := 101) (ix := 203) (M' := m_X12_at) (As := [.int (iI r), .int (iI k)]) (rest := [.ref b]) dX12_rebind_101 ok_X12_at im_X12_at se_X12_at ml12_203 np_X12_at rfl rfl (Nat.le_of_ble_eq_true rfl) (Nat.le_of_ble_eq_true rfl) rfl (c_X12_at (d + 1) (σ := σ) (x := r) (k := k) ) (fun r4 σ5 hp => ?_)
        obtain ⟨v6, rfl, rfl, f7⟩ := hp
        subst f7
        show Tm _ _ 104 b σ [(7, .int (iI i)), (6, .int (iI k)), (5, .int (iI w)), (3, .int (iI x0)), (4, .int (iI g)), (0, .ref b), (1, .int (iI r)), (2, .int (iI k0))] [.int (iI (220 * r + k)), .ref b] _
        refine tm_iload dX12_rebind_104 4 rfl ?_
        refine tm_callV (M := m_X12_rebind) (pc := 106) (ix := 436) (M' := m_X12_writesTo) (As := [.int (iI (220 * r + k)), .int (iI g)]) (rest := []) dX12_rebind_106 ok_X12_writesTo im_X12_writesTo se_X12_writesTo ml12_436 np_X12_writesTo rfl rfl (Nat.le_of_ble_eq_true rfl) (Nat.le_of_ble_eq_true rfl) rfl (c_X12_writesTo (d) (σ := σ) (x := 220 * r + k) (g := g) (by omega) hR (by omega)) (fun r8 σ9 hp => ?_)
        obtain ⟨v10, rfl, rfl, f11, f12⟩ := hp
        show Tm _ _ 109 b σ [(7, .int (iI i)), (6, .int (iI k)), (5, .int (iI w)), (3, .int (iI x0)), (4, .int (iI g)), (0, .ref b), (1, .int (iI r)), (2, .int (iI k0))] [.int (iI v10)] _
        refine tm_if_ne (tgt := 156) dX12_rebind_109 (by decide) ⟨by omega, by omega⟩ (fun h13 => ?_) (fun h13 => ?_)
        · exact tm_sub [0, 1, 2, 3, 4, 5, 6, 7] rfl (hx_156 (w) (i) σ (Fr.rfl.trans (Fr.sub hF (by decide) (by decide) (by decide))) hR (by omega) hbo hcn)
        · refine tm_aload_n dX12_rebind_112 rfl 5 rfl ?_
          refine tm_iload_n dX12_rebind_113 rfl 6 rfl ?_
          refine tm_iload dX12_rebind_114 1 rfl ?_
          refine tm_iload dX12_rebind_116 0 rfl ?_
          refine tm_callV (M := m_X12_rebind) (pc := 118) (ix := 413) (M' := m_X12_goesOn) (As := [.int (iI r), .int (iI k), .int (iI i)]) (rest := []) dX12_rebind_118 ok_X12_goesOn im_X12_goesOn se_X12_goesOn ml12_413 np_X12_goesOn rfl rfl (Nat.le_of_ble_eq_true rfl) (Nat.le_of_ble_eq_true rfl) rfl (c_X12_goesOn (d) (σ := σ) (r := r) (k := k) (how := i) (by omega) hR (by omega) (fun q => hjm1 _ (by omega) (by omega) (by omega)) (by omega)) (fun r14 σ15 hp => ?_)
          obtain ⟨v16, rfl, rfl, f17, f18, f19, f20⟩ := hp
          show Tm _ _ 121 b σ [(7, .int (iI i)), (6, .int (iI k)), (5, .int (iI w)), (3, .int (iI x0)), (4, .int (iI g)), (0, .ref b), (1, .int (iI r)), (2, .int (iI k0))] [.int (iI v16)] _
          refine tm_istore (L' := [(8, .int (iI v16)), (7, .int (iI i)), (6, .int (iI k)), (5, .int (iI w)), (3, .int (iI x0)), (4, .int (iI g)), (0, .ref b), (1, .int (iI r)), (2, .int (iI k0))]) dX12_rebind_121 (by decide) rfl ?_
          refine tm_iload dX12_rebind_123 0 rfl ?_
          refine tm_iconst dX12_rebind_125 ?_
          refine tm_icmp_eq (tgt := 150) dX12_rebind_126 (by decide) ⟨by omega, by omega⟩ ⟨by decide, by decide⟩ (fun h21 => ?_) (fun h21 => ?_)
          · refine tm_iinc (q0 := 1) (L' := [(7, .int (iI (i + 1))), (8, .int (iI v16)), (6, .int (iI k)), (5, .int (iI w)), (3, .int (iI x0)), (4, .int (iI g)), (0, .ref b), (1, .int (iI r)), (2, .int (iI k0))]) dX12_rebind_150 rfl (by decide) rfl ?_
            refine tm_goto (tgt := 80) dX12_rebind_153 (by decide) ?_
            exact tm_sub [0, 2, 3, 4, 5, 6, 7, 8] rfl (ih _ (by omega) (w) (i + 1) σ (Fr.rfl.trans (Fr.sub hF (by decide) (by decide) (by decide))) hR (by omega) hbo (by omega) rfl)
          · refine tm_aload_n dX12_rebind_129 rfl 6 rfl ?_
            refine tm_get (k := 47) (v := .ref (b + 1 + 25)) lay_12 dX12_rebind_130 (by decide) fl12_91 rfl ?_
            refine tm_iload dX12_rebind_133 0 rfl ?_
            refine tm_zald (z := v16) (v := σ.2.1 47 v16) dX12_rebind_135 (show mT[25]? = some (47, 2, 221) from rfl) (by omega) (by omega) (by decide) (rfl) ?_
            have g22 := RG.a hR 47 (v16)
            have := hbo (v16)
            refine tm_if_ne (tgt := 150) dX12_rebind_136 (by decide) ⟨by omega, by omega⟩ (fun h23 => ?_) (fun h23 => ?_)
            · refine tm_iinc (q0 := 1) (L' := [(7, .int (iI (i + 1))), (8, .int (iI v16)), (6, .int (iI k)), (5, .int (iI w)), (3, .int (iI x0)), (4, .int (iI g)), (0, .ref b), (1, .int (iI r)), (2, .int (iI k0))]) dX12_rebind_150 rfl (by decide) rfl ?_
              refine tm_goto (tgt := 80) dX12_rebind_153 (by decide) ?_
              exact tm_sub [0, 2, 3, 4, 5, 6, 7, 8] rfl (ih _ (by omega) (w) (i + 1) σ (Fr.rfl.trans (Fr.sub hF (by decide) (by decide) (by decide))) hR (by omega) hbo (by omega) rfl)
            · refine tm_aload_n dX12_rebind_139 rfl 6 rfl ?_
              refine tm_get (k := 47) (v := .ref (b + 1 + 25)) lay_12 dX12_rebind_140 (by decide) fl12_91 rfl ?_
              refine tm_iload dX12_rebind_143 0 rfl ?_
              refine tm_iconst dX12_rebind_145 ?_
              refine tm_zast (z := v16) (v := 1) dX12_rebind_146 (show mT[25]? = some (47, 2, 221) from rfl) (by omega) (by omega) (by decide) (by omega) ?_
              refine tm_iconst dX12_rebind_147 ?_
              refine tm_istore (L' := [(5, .int (iI 1)), (8, .int (iI v16)), (7, .int (iI i)), (6, .int (iI k)), (3, .int (iI x0)), (4, .int (iI g)), (0, .ref b), (1, .int (iI r)), (2, .int (iI k0))]) dX12_rebind_148 (by decide) rfl ?_
              refine tm_iinc (q0 := 2) (L' := [(7, .int (iI (i + 1))), (5, .int (iI 1)), (8, .int (iI v16)), (6, .int (iI k)), (3, .int (iI x0)), (4, .int (iI g)), (0, .ref b), (1, .int (iI r)), (2, .int (iI k0))]) dX12_rebind_150 rfl (by decide) rfl ?_
              refine tm_goto (tgt := 80) dX12_rebind_153 (by decide) ?_
              exact tm_sub [0, 3, 1, 4, 5, 6, 7, 8] rfl (ih _ (by omega) (1) (i + 1) (sA 47 (v16) (1) σ) ((Fr.rfl.trans (Fr.sub hF (by decide) (by decide) (by decide))).A (by decide)) (hR.A (by omega)) (by omega) (hbo.A (by omega)) (by have hcz := cz_sA (σ := σ) (k := 47) (n := 221) (z := v16) (v := 1) (by omega) (by omega) (by omega) (by decide); omega) rfl)
theorem dX12_rebind_66 : decode cX12_rebind 66 = .ok (.iload 6, 2) := by decide +kernel
theorem dX12_rebind_68 : decode cX12_rebind 68 = .ok (.aload_n 0, 1) := by decide +kernel
theorem dX12_rebind_69 : decode cX12_rebind 69 = .ok (.getfield 32, 3) := by decide +kernel
theorem dX12_rebind_72 : decode cX12_rebind 72 = .ok (.iload_n 1, 1) := by decide +kernel
theorem dX12_rebind_73 : decode cX12_rebind 73 = .ok (.iaload, 1) := by decide +kernel
theorem dX12_rebind_74 : decode cX12_rebind 74 = .ok (.if_icmp .ge 88, 3) := by decide +kernel
theorem dX12_rebind_77 : decode cX12_rebind 77 = .ok (.iconst 0, 1) := by decide +kernel
theorem dX12_rebind_78 : decode cX12_rebind 78 = .ok (.istore 7, 2) := by decide +kernel
theorem dX12_rebind_156 : decode cX12_rebind 156 = .ok (.iinc 6 1, 3) := by decide +kernel
theorem dX12_rebind_159 : decode cX12_rebind 159 = .ok (.goto (-93), 3) := by decide +kernel
set_option maxHeartbeats 4000000 in
set_option maxRecDepth 20000 in
theorem l_reb3 (d : Nat) {b : Nat} {σ0 : MS} {r : Int} {m : Int} {g : Int} {k0 : Int} {x0 : Int} {C0 : Int} {post : Option Value → MS → Prop} (hr : 0 ≤ r ∧ r < 6) (hR0 : RG σ0) (hit : ITM σ0) (hjm : JMP σ0 r) (htg : TGT σ0 r) (hm : m = σ0.2.1 9 r) (h_g : -2147483648 ≤ g ∧ g ≤ 2147483647) (hx_162 : ∀ (w : Int) (k : Int) (σ : MS) , (Fr [] [47] [] σ0 σ) → (RG σ) → (w = 0 ∨ w = 1) → (BO 47 σ) → ((cz (σ.2.1 47) 221 : Int) + w ≤ C0) → Tm (d + 3) m_X12_rebind 162 b σ [(6, .int (iI k)), (5, .int (iI w)), (3, .int (iI x0)), (4, .int (iI g)), (0, .ref b), (1, .int (iI r)), (2, .int (iI k0))] [] post) : ∀ (n : Nat) (w : Int) (k : Int) (σ : MS) , (Fr [] [47] [] σ0 σ) → (RG σ) → ((w = 0 ∨ w = 1) ∧ 0 ≤ k ∧ k ≤ m) → (BO 47 σ) → ((cz (σ.2.1 47) 221 : Int) + w ≤ C0) → (m - k).toNat = n → Tm (d + 3) m_X12_rebind 66 b σ [(6, .int (iI k)), (5, .int (iI w)), (3, .int (iI x0)), (4, .int (iI g)), (0, .ref b), (1, .int (iI r)), (2, .int (iI k0))] [] post := by
  intro n
  induction n using Nat.strongRecOn with
  | _ n ih =>
    intro w k σ hF hR h0 hbo hcn hm
    have hit1 := hit.fr hF (by decide)
    have hjm1 := hjm.fr hF (by decide)
    have htg1 := htg.fr hF (by decide)
    have q1 := hit r (by omega) (by omega)
    have q9 : σ.2.1 9 r = σ0.2.1 9 r := by rw [hF.2.1 9 (by decide)]
    have e3 : σ.2.1 3 = σ0.2.1 3 := hF.2.1 3 (by decide)
    have e4 : σ.2.1 4 = σ0.2.1 4 := hF.2.1 4 (by decide)
    have e46 : σ.2.1 46 = σ0.2.1 46 := hF.2.1 46 (by decide)
    refine tm_iload dX12_rebind_66 0 rfl ?_
    refine tm_aload_n dX12_rebind_68 rfl 4 rfl ?_
    refine tm_get (k := 9) (v := .ref (b + 1 + 7)) lay_12 dX12_rebind_69 (by decide) fl12_32 rfl ?_
    refine tm_iload_n dX12_rebind_72 rfl 5 rfl ?_
    refine tm_iald (z := r) (v := σ0.2.1 9 r) dX12_rebind_73 (show mT[7]? = some (9, 0, 13) from rfl) (by omega) (by omega) (by decide) (ra_F hF (by decide) (rfl)) ?_
    have g1 := RG.a hR0 9 (r)
    refine tm_icmp_ge (tgt := 162) dX12_rebind_74 (by decide) ⟨by omega, by omega⟩ ⟨by omega, by omega⟩ (fun h2 => ?_) (fun h2 => ?_)
    · exact tm_sub [0, 1, 2, 3, 4, 5, 6] rfl (hx_162 (w) (k) σ (Fr.rfl.trans (Fr.sub hF (by decide) (by decide) (by decide))) hR (by omega) hbo hcn)
    · refine tm_iconst dX12_rebind_77 ?_
      refine tm_istore (L' := [(7, .int (iI 0)), (6, .int (iI k)), (5, .int (iI w)), (3, .int (iI x0)), (4, .int (iI g)), (0, .ref b), (1, .int (iI r)), (2, .int (iI k0))]) dX12_rebind_78 (by decide) rfl ?_
      refine tm_sub [0, 1, 2, 3, 4, 5, 6, 7] rfl (l_reb4 (d) (σ0 := σ) (r := r) (g := g) (k0 := k0) (x0 := x0) (k := k) (m := m) (C0 := C0) hr hR hit1 hjm1 htg1 (by omega) (by omega) (by omega) (fun w11 i12 σ13 F6 R7 f8 f9 f10 => ?_) _ (w) (0) σ Fr.rfl hR (by omega) hbo (by omega) rfl)
      show Tm _ _ 156 b σ13 [(7, .int (iI i12)), (6, .int (iI k)), (5, .int (iI w11)), (3, .int (iI x0)), (4, .int (iI g)), (0, .ref b), (1, .int (iI r)), (2, .int (iI k0))] [] _
      refine tm_iinc (q0 := 1) (L' := [(6, .int (iI (k + 1))), (7, .int (iI i12)), (5, .int (iI w11)), (3, .int (iI x0)), (4, .int (iI g)), (0, .ref b), (1, .int (iI r)), (2, .int (iI k0))]) dX12_rebind_156 rfl (by decide) rfl ?_
      refine tm_goto (tgt := 66) dX12_rebind_159 (by decide) ?_
      exact tm_sub [0, 2, 3, 4, 5, 6, 7] rfl (ih _ (by omega) (w11) (k + 1) σ13 ((Fr.rfl.trans (Fr.sub hF (by decide) (by decide) (by decide))).trans (Fr.sub F6 (by decide) (by decide) (by decide))) R7 (by omega) (by assumption) (by omega) rfl)
theorem dX12_rebind_55 : decode cX12_rebind 55 = .ok (.iload 5, 2) := by decide +kernel
theorem dX12_rebind_57 : decode cX12_rebind 57 = .ok (.ifCond .eq 108, 3) := by decide +kernel
theorem dX12_rebind_60 : decode cX12_rebind 60 = .ok (.iconst 0, 1) := by decide +kernel
theorem dX12_rebind_61 : decode cX12_rebind 61 = .ok (.istore 5, 2) := by decide +kernel
theorem dX12_rebind_63 : decode cX12_rebind 63 = .ok (.iconst 0, 1) := by decide +kernel
theorem dX12_rebind_64 : decode cX12_rebind 64 = .ok (.istore 6, 2) := by decide +kernel
theorem dX12_rebind_162 : decode cX12_rebind 162 = .ok (.goto (-107), 3) := by decide +kernel
set_option maxHeartbeats 4000000 in
set_option maxRecDepth 20000 in
theorem l_reb2 (d : Nat) {b : Nat} {σ0 : MS} {r : Int} {m : Int} {g : Int} {k0 : Int} {x0 : Int} {post : Option Value → MS → Prop} (hr : 0 ≤ r ∧ r < 6) (hR0 : RG σ0) (hit : ITM σ0) (hjm : JMP σ0 r) (htg : TGT σ0 r) (hm : m = σ0.2.1 9 r) (h_g : -2147483648 ≤ g ∧ g ≤ 2147483647) (hx_165 : ∀ (w : Int) (σ : MS) , (Fr [] [47] [] σ0 σ) → (RG σ) → (BO 47 σ) → Tm (d + 3) m_X12_rebind 165 b σ [(5, .int (iI w)), (3, .int (iI x0)), (4, .int (iI g)), (0, .ref b), (1, .int (iI r)), (2, .int (iI k0))] [] post) : ∀ (n : Nat) (w : Int) (σ : MS) , (Fr [] [47] [] σ0 σ) → (RG σ) → (w = 0 ∨ w = 1) → (BO 47 σ) → ((cz (σ.2.1 47) 221 : Int) + w).toNat = n → Tm (d + 3) m_X12_rebind 55 b σ [(5, .int (iI w)), (3, .int (iI x0)), (4, .int (iI g)), (0, .ref b), (1, .int (iI r)), (2, .int (iI k0))] [] post := by
  intro n
  induction n using Nat.strongRecOn with
  | _ n ih =>
    intro w σ hF hR h0 hbo hm
    have hit1 := hit.fr hF (by decide)
    have hjm1 := hjm.fr hF (by decide)
    have htg1 := htg.fr hF (by decide)
    have q1 := hit r (by omega) (by omega)
    have q9 : σ.2.1 9 r = σ0.2.1 9 r := by rw [hF.2.1 9 (by decide)]
    have e3 : σ.2.1 3 = σ0.2.1 3 := hF.2.1 3 (by decide)
    have e4 : σ.2.1 4 = σ0.2.1 4 := hF.2.1 4 (by decide)
    have e46 : σ.2.1 46 = σ0.2.1 46 := hF.2.1 46 (by decide)
    refine tm_iload dX12_rebind_55 0 rfl ?_
    refine tm_if_eq (tgt := 165) dX12_rebind_57 (by decide) ⟨by omega, by omega⟩ (fun h1 => ?_) (fun h1 => ?_)
    · exact tm_sub [0, 1, 2, 3, 4, 5] rfl (hx_165 (w) σ (Fr.rfl.trans (Fr.sub hF (by decide) (by decide) (by decide))) hR hbo)
    · refine tm_iconst dX12_rebind_60 ?_
      refine tm_istore (L' := [(5, .int (iI 0)), (3, .int (iI x0)), (4, .int (iI g)), (0, .ref b), (1, .int (iI r)), (2, .int (iI k0))]) dX12_rebind_61 (by decide) rfl ?_
      refine tm_iconst dX12_rebind_63 ?_
      refine tm_istore (L' := [(6, .int (iI 0)), (5, .int (iI 0)), (3, .int (iI x0)), (4, .int (iI g)), (0, .ref b), (1, .int (iI r)), (2, .int (iI k0))]) dX12_rebind_64 (by decide) rfl ?_
      refine tm_sub [0, 1, 2, 3, 4, 5, 6] rfl (l_reb3 (d) (σ0 := σ) (r := r) (g := g) (k0 := k0) (x0 := x0) (m := m) (C0 := (cz (σ.2.1 47) 221 : Int)) hr hR hit1 hjm1 htg1 (by omega) (by omega) (fun w10 k11 σ12 F5 R6 f7 f8 f9 => ?_) _ (0) (0) σ Fr.rfl hR (by omega) hbo (by omega) rfl)
      show Tm _ _ 162 b σ12 [(6, .int (iI k11)), (5, .int (iI w10)), (3, .int (iI x0)), (4, .int (iI g)), (0, .ref b), (1, .int (iI r)), (2, .int (iI k0))] [] _
      refine tm_goto (tgt := 55) dX12_rebind_162 (by decide) ?_
      exact tm_sub [1, 2, 3, 4, 5, 6] rfl (ih _ (by omega) (w10) σ12 ((Fr.rfl.trans (Fr.sub hF (by decide) (by decide) (by decide))).trans (Fr.sub F5 (by decide) (by decide) (by decide))) R6 (by omega) (by assumption) rfl)
theorem dX12_rebind_18 : decode cX12_rebind 18 = .ok (.iload 5, 2) := by decide +kernel
theorem dX12_rebind_20 : decode cX12_rebind 20 = .ok (.aload_n 0, 1) := by decide +kernel
theorem dX12_rebind_21 : decode cX12_rebind 21 = .ok (.getfield 32, 3) := by decide +kernel
theorem dX12_rebind_24 : decode cX12_rebind 24 = .ok (.iload_n 1, 1) := by decide +kernel
theorem dX12_rebind_25 : decode cX12_rebind 25 = .ok (.iaload, 1) := by decide +kernel
theorem dX12_rebind_26 : decode cX12_rebind 26 = .ok (.if_icmp .gt 17, 3) := by decide +kernel
theorem dX12_rebind_29 : decode cX12_rebind 29 = .ok (.aload_n 0, 1) := by decide +kernel
theorem dX12_rebind_30 : decode cX12_rebind 30 = .ok (.getfield 91, 3) := by decide +kernel
theorem dX12_rebind_33 : decode cX12_rebind 33 = .ok (.iload 5, 2) := by decide +kernel
theorem dX12_rebind_35 : decode cX12_rebind 35 = .ok (.iconst 0, 1) := by decide +kernel
theorem dX12_rebind_36 : decode cX12_rebind 36 = .ok (.bastore, 1) := by decide +kernel
theorem dX12_rebind_37 : decode cX12_rebind 37 = .ok (.iinc 5 1, 3) := by decide +kernel
theorem dX12_rebind_40 : decode cX12_rebind 40 = .ok (.goto (-22), 3) := by decide +kernel
set_option maxHeartbeats 4000000 in
set_option maxRecDepth 20000 in
theorem l_reb1 (d : Nat) {b : Nat} {σ0 : MS} {r : Int} {g : Int} {k0 : Int} {x0 : Int} {post : Option Value → MS → Prop} (hr : 0 ≤ r ∧ r < 6) (hR0 : RG σ0) (hit : 0 ≤ σ0.2.1 9 r ∧ σ0.2.1 9 r ≤ 220) (hx_43 : ∀ (k : Int) (σ : MS) , (Fr [] [47] [] σ0 σ) → (RG σ) → (BO 47 σ) → Tm (d + 1) m_X12_rebind 43 b σ [(5, .int (iI k)), (3, .int (iI x0)), (4, .int (iI g)), (0, .ref b), (1, .int (iI r)), (2, .int (iI k0))] [] post) : ∀ (n : Nat) (k : Int) (σ : MS) , (Fr [] [47] [] σ0 σ) → (RG σ) → (0 ≤ k ∧ k ≤ 221) → (BO 47 σ) → (221 - k).toNat = n → Tm (d + 1) m_X12_rebind 18 b σ [(5, .int (iI k)), (3, .int (iI x0)), (4, .int (iI g)), (0, .ref b), (1, .int (iI r)), (2, .int (iI k0))] [] post := by
  intro n
  induction n using Nat.strongRecOn with
  | _ n ih =>
    intro k σ hF hR h0 hbo hm
    refine tm_iload dX12_rebind_18 0 rfl ?_
    refine tm_aload_n dX12_rebind_20 rfl 3 rfl ?_
    refine tm_get (k := 9) (v := .ref (b + 1 + 7)) lay_12 dX12_rebind_21 (by decide) fl12_32 rfl ?_
    refine tm_iload_n dX12_rebind_24 rfl 4 rfl ?_
    refine tm_iald (z := r) (v := σ0.2.1 9 r) dX12_rebind_25 (show mT[7]? = some (9, 0, 13) from rfl) (by omega) (by omega) (by decide) (ra_F hF (by decide) (rfl)) ?_
    have g1 := RG.a hR0 9 (r)
    refine tm_icmp_gt (tgt := 43) dX12_rebind_26 (by decide) ⟨by omega, by omega⟩ ⟨by omega, by omega⟩ (fun h2 => ?_) (fun h2 => ?_)
    · exact tm_sub [0, 1, 2, 3, 4, 5] rfl (hx_43 (k) σ (Fr.rfl.trans (Fr.sub hF (by decide) (by decide) (by decide))) hR hbo)
    · refine tm_aload_n dX12_rebind_29 rfl 3 rfl ?_
      refine tm_get (k := 47) (v := .ref (b + 1 + 25)) lay_12 dX12_rebind_30 (by decide) fl12_91 rfl ?_
      refine tm_iload dX12_rebind_33 0 rfl ?_
      refine tm_iconst dX12_rebind_35 ?_
      refine tm_zast (z := k) (v := 0) dX12_rebind_36 (show mT[25]? = some (47, 2, 221) from rfl) (by omega) (by omega) (by decide) (by omega) ?_
      refine tm_iinc (q0 := 0) (L' := [(5, .int (iI (k + 1))), (3, .int (iI x0)), (4, .int (iI g)), (0, .ref b), (1, .int (iI r)), (2, .int (iI k0))]) dX12_rebind_37 rfl (by decide) rfl ?_
      refine tm_goto (tgt := 18) dX12_rebind_40 (by decide) ?_
      exact tm_sub [0, 1, 2, 3, 4, 5] rfl (ih _ (by omega) (k + 1) (sA 47 (k) (0) σ) ((Fr.rfl.trans (Fr.sub hF (by decide) (by decide) (by decide))).A (by decide)) (hR.A (by omega)) (by omega) (hbo.A (by omega)) rfl)
theorem dX12_rebind_372 : decode cX12_rebind 372 = .ok (.iload 6, 2) := by decide +kernel
theorem dX12_rebind_374 : decode cX12_rebind 374 = .ok (.aload_n 0, 1) := by decide +kernel
theorem dX12_rebind_375 : decode cX12_rebind 375 = .ok (.getfield 32, 3) := by decide +kernel
theorem dX12_rebind_378 : decode cX12_rebind 378 = .ok (.iload_n 1, 1) := by decide +kernel
theorem dX12_rebind_379 : decode cX12_rebind 379 = .ok (.iaload, 1) := by decide +kernel
theorem dX12_rebind_380 : decode cX12_rebind 380 = .ok (.if_icmp .ge 78, 3) := by decide +kernel
theorem dX12_rebind_383 : decode cX12_rebind 383 = .ok (.aload_n 0, 1) := by decide +kernel
theorem dX12_rebind_384 : decode cX12_rebind 384 = .ok (.iload_n 1, 1) := by decide +kernel
theorem dX12_rebind_385 : decode cX12_rebind 385 = .ok (.iload 6, 2) := by decide +kernel
theorem dX12_rebind_387 : decode cX12_rebind 387 = .ok (.invokevirtual 203, 3) := by decide +kernel
theorem dX12_rebind_390 : decode cX12_rebind 390 = .ok (.istore 7, 2) := by decide +kernel
theorem dX12_rebind_392 : decode cX12_rebind 392 = .ok (.aload_n 0, 1) := by decide +kernel
theorem dX12_rebind_393 : decode cX12_rebind 393 = .ok (.getfield 91, 3) := by decide +kernel
theorem dX12_rebind_396 : decode cX12_rebind 396 = .ok (.iload 6, 2) := by decide +kernel
theorem dX12_rebind_398 : decode cX12_rebind 398 = .ok (.baload, 1) := by decide +kernel
theorem dX12_rebind_399 : decode cX12_rebind 399 = .ok (.ifCond .eq 53, 3) := by decide +kernel
theorem dX12_rebind_452 : decode cX12_rebind 452 = .ok (.iinc 6 1, 3) := by decide +kernel
theorem dX12_rebind_455 : decode cX12_rebind 455 = .ok (.goto (-83), 3) := by decide +kernel
theorem dX12_rebind_402 : decode cX12_rebind 402 = .ok (.aload_n 0, 1) := by decide +kernel
theorem dX12_rebind_403 : decode cX12_rebind 403 = .ok (.getfield 13, 3) := by decide +kernel
theorem dX12_rebind_406 : decode cX12_rebind 406 = .ok (.iload 7, 2) := by decide +kernel
theorem dX12_rebind_408 : decode cX12_rebind 408 = .ok (.iaload, 1) := by decide +kernel
theorem dX12_rebind_409 : decode cX12_rebind 409 = .ok (.bipush 12, 2) := by decide +kernel
theorem dX12_rebind_411 : decode cX12_rebind 411 = .ok (.if_icmp .ne 41, 3) := by decide +kernel
theorem dX12_rebind_414 : decode cX12_rebind 414 = .ok (.aload_n 0, 1) := by decide +kernel
theorem dX12_rebind_415 : decode cX12_rebind 415 = .ok (.iload 7, 2) := by decide +kernel
theorem dX12_rebind_417 : decode cX12_rebind 417 = .ok (.iload 4, 2) := by decide +kernel
theorem dX12_rebind_419 : decode cX12_rebind 419 = .ok (.invokevirtual 439, 3) := by decide +kernel
theorem dX12_rebind_422 : decode cX12_rebind 422 = .ok (.ifCond .eq 30, 3) := by decide +kernel
theorem dX12_rebind_425 : decode cX12_rebind 425 = .ok (.aload_n 0, 1) := by decide +kernel
theorem dX12_rebind_426 : decode cX12_rebind 426 = .ok (.getfield 23, 3) := by decide +kernel
theorem dX12_rebind_429 : decode cX12_rebind 429 = .ok (.iload 7, 2) := by decide +kernel
theorem dX12_rebind_431 : decode cX12_rebind 431 = .ok (.bipush 12, 2) := by decide +kernel
theorem dX12_rebind_433 : decode cX12_rebind 433 = .ok (.iastore, 1) := by decide +kernel
theorem dX12_rebind_434 : decode cX12_rebind 434 = .ok (.aload_n 0, 1) := by decide +kernel
theorem dX12_rebind_435 : decode cX12_rebind 435 = .ok (.iload 7, 2) := by decide +kernel
theorem dX12_rebind_437 : decode cX12_rebind 437 = .ok (.iconst 0, 1) := by decide +kernel
theorem dX12_rebind_438 : decode cX12_rebind 438 = .ok (.iconst 0, 1) := by decide +kernel
theorem dX12_rebind_439 : decode cX12_rebind 439 = .ok (.iconst 0, 1) := by decide +kernel
theorem dX12_rebind_440 : decode cX12_rebind 440 = .ok (.invokevirtual 298, 3) := by decide +kernel
theorem dX12_rebind_443 : decode cX12_rebind 443 = .ok (.aload_n 0, 1) := by decide +kernel
theorem dX12_rebind_444 : decode cX12_rebind 444 = .ok (.iload 7, 2) := by decide +kernel
theorem dX12_rebind_446 : decode cX12_rebind 446 = .ok (.iconst 1, 1) := by decide +kernel
theorem dX12_rebind_447 : decode cX12_rebind 447 = .ok (.iconst 0, 1) := by decide +kernel
theorem dX12_rebind_448 : decode cX12_rebind 448 = .ok (.iconst 0, 1) := by decide +kernel
theorem dX12_rebind_449 : decode cX12_rebind 449 = .ok (.invokevirtual 298, 3) := by decide +kernel
set_option maxHeartbeats 4000000 in
set_option maxRecDepth 20000 in
theorem l_reb6 (d : Nat) {b : Nat} {σ0 : MS} {r : Int} {F : Int} {g : Int} {post : Option Value → MS → Prop} (hr : 0 ≤ r ∧ r < 6) (hR0 : RG σ0) (hit : ITM σ0) (hpar : PAR σ0) (hbo : BO 47 σ0) (h_g : -2147483648 ≤ g ∧ g ≤ 2147483647) (hx_458 : ∀ (k : Int) (σ : MS) , (Fr [] [6, 7, 8] [] σ0 σ) → (RG σ) → (OKS σ F r) → (XO r σ0 σ) → Tm (d + 5) m_X12_rebind 458 b σ [(6, .int (iI k)), (4, .int (iI g)), (0, .ref b), (1, .int (iI r))] [] post) : ∀ (n : Nat) (k : Int) (σ : MS) , (Fr [] [6, 7, 8] [] σ0 σ) → (RG σ) → (0 ≤ k ∧ k ≤ σ0.2.1 9 r) → (OKS σ F r) → (XO r σ0 σ) → (220 - k).toNat = n → Tm (d + 5) m_X12_rebind 372 b σ [(6, .int (iI k)), (4, .int (iI g)), (0, .ref b), (1, .int (iI r))] [] post := by
  intro n
  induction n using Nat.strongRecOn with
  | _ n ih =>
    intro k σ hF hR h0 hok hxo hm
    have q1 := hit r (by omega) (by omega)
    have q9 : σ.2.1 9 r = σ0.2.1 9 r := by rw [hF.2.1 9 (by decide)]
    have q3 : σ.2.1 3 = σ0.2.1 3 := hF.2.1 3 (by decide)
    refine tm_iload dX12_rebind_372 0 rfl ?_
    refine tm_aload_n dX12_rebind_374 rfl 2 rfl ?_
    refine tm_get (k := 9) (v := .ref (b + 1 + 7)) lay_12 dX12_rebind_375 (by decide) fl12_32 rfl ?_
    refine tm_iload_n dX12_rebind_378 rfl 3 rfl ?_
    refine tm_iald (z := r) (v := σ0.2.1 9 r) dX12_rebind_379 (show mT[7]? = some (9, 0, 13) from rfl) (by omega) (by omega) (by decide) (ra_F hF (by decide) (rfl)) ?_
    have g1 := RG.a hR0 9 (r)
    refine tm_icmp_ge (tgt := 458) dX12_rebind_380 (by decide) ⟨by omega, by omega⟩ ⟨by omega, by omega⟩ (fun h2 => ?_) (fun h2 => ?_)
    · exact tm_sub [0, 1, 2, 3] rfl (hx_458 (k) σ (Fr.rfl.trans (Fr.sub hF (by decide) (by decide) (by decide))) hR hok hxo)
    · refine tm_aload_n dX12_rebind_383 rfl 2 rfl ?_
      refine tm_iload_n dX12_rebind_384 rfl 3 rfl ?_
      refine tm_iload dX12_rebind_385 0 rfl ?_
      refine tm_callV (M := m_X12_rebind) (pc := 387) (ix := 203) (M' := m_X12_at) (As := [.int (iI r), .int (iI k)]) (rest := []) dX12_rebind_387 ok_X12_at im_X12_at se_X12_at ml12_203 np_X12_at rfl rfl (Nat.le_of_ble_eq_true rfl) (Nat.le_of_ble_eq_true rfl) rfl (c_X12_at (d + 3) (σ := σ) (x := r) (k := k) ) (fun r3 σ4 hp => ?_)
      obtain ⟨v5, rfl, rfl, f6⟩ := hp
      subst f6
      show Tm _ _ 390 b σ [(6, .int (iI k)), (4, .int (iI g)), (0, .ref b), (1, .int (iI r))] [.int (iI (220 * r + k))] _
      refine tm_istore (L' := [(7, .int (iI (220 * r + k))), (6, .int (iI k)), (4, .int (iI g)), (0, .ref b), (1, .int (iI r))]) dX12_rebind_390 (by decide) rfl ?_
      refine tm_aload_n dX12_rebind_392 rfl 3 rfl ?_
      refine tm_get (k := 47) (v := .ref (b + 1 + 25)) lay_12 dX12_rebind_393 (by decide) fl12_91 rfl ?_
      refine tm_iload dX12_rebind_396 1 rfl ?_
      refine tm_zald (z := k) (v := σ0.2.1 47 k) dX12_rebind_398 (show mT[25]? = some (47, 2, 221) from rfl) (by omega) (by omega) (by decide) (ra_F hF (by decide) (rfl)) ?_
      have g7 := RG.a hR0 47 (k)
      have := hbo (k)
      refine tm_if_eq (tgt := 452) dX12_rebind_399 (by decide) ⟨by omega, by omega⟩ (fun h8 => ?_) (fun h8 => ?_)
      · refine tm_iinc (q0 := 1) (L' := [(6, .int (iI (k + 1))), (7, .int (iI (220 * r + k))), (4, .int (iI g)), (0, .ref b), (1, .int (iI r))]) dX12_rebind_452 rfl (by decide) rfl ?_
        refine tm_goto (tgt := 372) dX12_rebind_455 (by decide) ?_
        exact tm_sub [0, 2, 3, 4] rfl (ih _ (by omega) (k + 1) σ (Fr.rfl.trans (Fr.sub hF (by decide) (by decide) (by decide))) hR (by omega) hok hxo rfl)
      · refine tm_aload_n dX12_rebind_402 rfl 3 rfl ?_
        refine tm_get (k := 3) (v := .ref (b + 1 + 1)) lay_12 dX12_rebind_403 (by decide) fl12_13 rfl ?_
        refine tm_iload dX12_rebind_406 0 rfl ?_
        refine tm_iald (z := 220 * r + k) (v := σ0.2.1 3 (220 * r + k)) dX12_rebind_408 (show mT[1]? = some (3, 0, 2860) from rfl) (by omega) (by omega) (by decide) (ra_F hF (by decide) (rfl)) ?_
        have g9 := RG.a hR0 3 (220 * r + k)
        refine tm_bipush dX12_rebind_409 (by decide) ?_
        refine tm_icmp_ne (tgt := 452) dX12_rebind_411 (by decide) ⟨by omega, by omega⟩ ⟨by decide, by decide⟩ (fun h10 => ?_) (fun h10 => ?_)
        · refine tm_iinc (q0 := 1) (L' := [(6, .int (iI (k + 1))), (7, .int (iI (220 * r + k))), (4, .int (iI g)), (0, .ref b), (1, .int (iI r))]) dX12_rebind_452 rfl (by decide) rfl ?_
          refine tm_goto (tgt := 372) dX12_rebind_455 (by decide) ?_
          exact tm_sub [0, 2, 3, 4] rfl (ih _ (by omega) (k + 1) σ (Fr.rfl.trans (Fr.sub hF (by decide) (by decide) (by decide))) hR (by omega) hok hxo rfl)
        · refine tm_aload_n dX12_rebind_414 rfl 3 rfl ?_
          refine tm_iload dX12_rebind_415 0 rfl ?_
          refine tm_iload dX12_rebind_417 2 rfl ?_
          refine tm_callV (M := m_X12_rebind) (pc := 419) (ix := 439) (M' := m_X12_leansOn) (As := [.int (iI (220 * r + k)), .int (iI g)]) (rest := []) dX12_rebind_419 ok_X12_leansOn im_X12_leansOn se_X12_leansOn ml12_439 np_X12_leansOn rfl rfl (Nat.le_of_ble_eq_true rfl) (Nat.le_of_ble_eq_true rfl) rfl (c_X12_leansOn (d) (σ := σ) (x := 220 * r + k) (g := g) (by omega) hR (hok.of (by omega) (by omega)) (hpar.fr hF (by decide)) (by omega)) (fun r11 σ12 hp => ?_)
          obtain ⟨v13, rfl, rfl, f14, f15⟩ := hp
          show Tm _ _ 422 b σ [(7, .int (iI (220 * r + k))), (6, .int (iI k)), (4, .int (iI g)), (0, .ref b), (1, .int (iI r))] [.int (iI v13)] _
          refine tm_if_eq (tgt := 452) dX12_rebind_422 (by decide) ⟨by omega, by omega⟩ (fun h16 => ?_) (fun h16 => ?_)
          · refine tm_iinc (q0 := 1) (L' := [(6, .int (iI (k + 1))), (7, .int (iI (220 * r + k))), (4, .int (iI g)), (0, .ref b), (1, .int (iI r))]) dX12_rebind_452 rfl (by decide) rfl ?_
            refine tm_goto (tgt := 372) dX12_rebind_455 (by decide) ?_
            exact tm_sub [0, 2, 3, 4] rfl (ih _ (by omega) (k + 1) σ (Fr.rfl.trans (Fr.sub hF (by decide) (by decide) (by decide))) hR (by omega) hok hxo rfl)
          · refine tm_aload_n dX12_rebind_425 rfl 3 rfl ?_
            refine tm_get (k := 6) (v := .ref (b + 1 + 4)) lay_12 dX12_rebind_426 (by decide) fl12_23 rfl ?_
            refine tm_iload dX12_rebind_429 0 rfl ?_
            refine tm_bipush dX12_rebind_431 (by decide) ?_
            refine tm_iast (z := 220 * r + k) (v := 12) dX12_rebind_433 (show mT[4]? = some (6, 0, 2860) from rfl) (by omega) (by omega) (by decide) ?_
            refine tm_aload_n dX12_rebind_434 rfl 3 rfl ?_
            refine tm_iload dX12_rebind_435 0 rfl ?_
            refine tm_iconst dX12_rebind_437 ?_
            refine tm_iconst dX12_rebind_438 ?_
            refine tm_iconst dX12_rebind_439 ?_
            refine tm_callV (M := m_X12_rebind) (pc := 440) (ix := 298) (M' := m_X12_setArg) (As := [.int (iI (220 * r + k)), .int (iI 0), .int (iI 0), .int (iI 0)]) (rest := []) dX12_rebind_440 ok_X12_setArg im_X12_setArg se_X12_setArg ml12_298 np_X12_setArg rfl rfl (Nat.le_of_ble_eq_true rfl) (Nat.le_of_ble_eq_true rfl) rfl (c_X12_setArg (d + 3) (σ := (sA 6 (220 * r + k) (12) σ)) (x := 220 * r + k) (i := 0) (k := 0) (w := 0) (by omega)) (fun r17 σ18 hp => ?_)
            obtain ⟨rfl, f20⟩ := hp
            subst f20
            show Tm _ _ 443 b (fArg (220 * r + k) (0) (0) (0) (sA 6 (220 * r + k) (12) σ)) [(7, .int (iI (220 * r + k))), (6, .int (iI k)), (4, .int (iI g)), (0, .ref b), (1, .int (iI r))] [] _
            refine tm_aload_n dX12_rebind_443 rfl 3 rfl ?_
            refine tm_iload dX12_rebind_444 0 rfl ?_
            refine tm_iconst dX12_rebind_446 ?_
            refine tm_iconst dX12_rebind_447 ?_
            refine tm_iconst dX12_rebind_448 ?_
            refine tm_callV (M := m_X12_rebind) (pc := 449) (ix := 298) (M' := m_X12_setArg) (As := [.int (iI (220 * r + k)), .int (iI 1), .int (iI 0), .int (iI 0)]) (rest := []) dX12_rebind_449 ok_X12_setArg im_X12_setArg se_X12_setArg ml12_298 np_X12_setArg rfl rfl (Nat.le_of_ble_eq_true rfl) (Nat.le_of_ble_eq_true rfl) rfl (c_X12_setArg (d + 3) (σ := (fArg (220 * r + k) (0) (0) (0) (sA 6 (220 * r + k) (12) σ))) (x := 220 * r + k) (i := 1) (k := 0) (w := 0) (by omega)) (fun r21 σ22 hp => ?_)
            obtain ⟨rfl, f24⟩ := hp
            subst f24
            show Tm _ _ 452 b (fArg (220 * r + k) (1) (0) (0) (fArg (220 * r + k) (0) (0) (0) (sA 6 (220 * r + k) (12) σ))) [(7, .int (iI (220 * r + k))), (6, .int (iI k)), (4, .int (iI g)), (0, .ref b), (1, .int (iI r))] [] _
            refine tm_iinc (q0 := 1) (L' := [(6, .int (iI (k + 1))), (7, .int (iI (220 * r + k))), (4, .int (iI g)), (0, .ref b), (1, .int (iI r))]) dX12_rebind_452 rfl (by decide) rfl ?_
            refine tm_goto (tgt := 372) dX12_rebind_455 (by decide) ?_
            exact tm_sub [0, 2, 3, 4] rfl (ih _ (by omega) (k + 1) (fArg (220 * r + k) (1) (0) (0) (fArg (220 * r + k) (0) (0) (0) (sA 6 (220 * r + k) (12) σ))) ((((Fr.rfl.trans (Fr.sub hF (by decide) (by decide) (by decide))).A (by decide)).trans (Fr.sub fArg_fr (by decide) (by decide) (by decide))).trans (Fr.sub fArg_fr (by decide) (by decide) (by decide))) (((hR.A (by omega)).arg (by decide) (by decide)).arg (by decide) (by decide)) (by omega) (fGone_off.oks hok (fGone_oki (hok k (by omega) (by omega)) (by rw [q3]; assumption) (by decide))) (hxo.trans (fGone_off.xo (by omega) (by omega))) rfl)
