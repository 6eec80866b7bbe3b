section
set_option maxHeartbeats 1000000 in
set_option maxRecDepth 20000 in
theorem f_reb4 (d : Nat) {b : Nat} {σ0 : MS} {r : Int} {m : Int} {g : Int} {k0 : Int} {x0 : Int} {k : Int} {C0 : Int} {V : Int → It} {post : Option Value → MS → Prop} (hr : 0 ≤ r ∧ r < 6) (hR0 : RG σ0) (hit : ITM σ0) (hjm : JMP σ0 r) (htg : TGT σ0 r) (hm : m = σ0.2.1 9 r) (h_g : -2147483648 ≤ g ∧ g ≤ 2147483647) (htd : TGD σ0 r) (hV : V = rV σ0 r) (hu : UNQ V m) (hk : 0 ≤ k ∧ k < m) (hx_156 : ∀ (w : Int) (i : Int) (σ : MS) , (Fr [] [47] [] σ0 σ) → (RG σ) → (w = 0 ∨ w = 1) → (BO 47 σ) → ((cz (σ.2.1 47) 221 : Int) + w ≤ C0) → (RSD σ V m (k0 + 1) (fun j => wrT (V j) g)) → (Wz w (CLG σ r (k + 1) (fun j => wrT (V j) g))) → (σ.2.1 47 (k0 + 1) = 1) → Tm (d + 3) m_X12_rebind 156 b σ [(7, .int (iI i)), (6, .int (iI k)), (5, .int (iI w)), (3, .int (iI x0)), (4, .int (iI g)), (0, .ref b), (1, .int (iI r)), (2, .int (iI k0))] [] post) : ∀ (n : Nat) (w : Int) (i : Int) (σ : MS) , (Fr [] [47] [] σ0 σ) → (RG σ) → ((w = 0 ∨ w = 1) ∧ 0 ≤ i ∧ i ≤ 2) → (BO 47 σ) → ((cz (σ.2.1 47) 221 : Int) + w ≤ C0) → (RSD σ V m (k0 + 1) (fun j => wrT (V j) g)) → (Wz w (CLG σ r k (fun j => wrT (V j) g))) → (σ.2.1 47 (k0 + 1) = 1) → (Wz w (1 ≤ i → σ.2.1 47 k = 1 → ¬ (σ.2.1 3 (220 * r + k) = 8 ∨ σ.2.1 3 (220 * r + k) = 7) → σ.2.1 47 (k + 1) = 1)) → (Wz w (2 ≤ i → σ.2.1 47 k = 1 → (σ.2.1 3 (220 * r + k) = 8 ∨ σ.2.1 3 (220 * r + k) = 9) → σ.2.1 47 (σ.2.1 46 (σ.2.1 4 (220 * r + k))) = 1)) → (2 - i).toNat = n → Tm (d + 3) m_X12_rebind 80 b σ [(7, .int (iI i)), (6, .int (iI k)), (5, .int (iI w)), (3, .int (iI x0)), (4, .int (iI g)), (0, .ref b), (1, .int (iI r)), (2, .int (iI k0))] [] post := by
  intro n
  induction n using Nat.strongRecOn with
  | _ n ih =>
    intro w i σ hF hR h0 hbo hcn hsd hcl hs1 hp0 hp1 hm
    have hit1 := hit.fr hF (by decide)
    have hjm1 := hjm.fr hF (by decide)
    have htg1 := htg.fr hF (by decide)
    have q1 := hit r (by omega) (by omega)
    have q9 : σ.2.1 9 r = σ0.2.1 9 r := by rw [hF.2.1 9 (by decide)]
    have e3 : σ.2.1 3 = σ0.2.1 3 := hF.2.1 3 (by decide)
    have e4 : σ.2.1 4 = σ0.2.1 4 := hF.2.1 4 (by decide)
    have e46 : σ.2.1 46 = σ0.2.1 46 := hF.2.1 46 (by decide)
    have hV1 : V = rV σ r := hV.trans (rv_fr hF (by decide)).symm
    have htd1 := htd.fr hF (by decide)
    have q5 := htg1 k (by omega) (by omega)
    have hwV : ∀ j, 0 ≤ j → j < m → (wrT (V j) g ↔ wrA σ r g j) := fun j a b => by rw [hV1, rv_in a (by omega)]; exact Iff.rfl
    refine tm_iload dX12_rebind_80 0 rfl ?_
    refine tm_iconst dX12_rebind_82 ?_
    refine tm_icmp_ge (tgt := 156) dX12_rebind_83 (by decide) ⟨by omega, by omega⟩ ⟨by decide, by decide⟩ (fun h1 => ?_) (fun h1 => ?_)
    · exact tm_sub [0, 1, 2, 3, 4, 5, 6, 7] rfl (hx_156 (w) (i) σ (Fr.rfl.trans (Fr.sub hF (by decide) (by decide) (by decide))) hR (by omega) hbo hcn hsd (fun e j a c q b => by
          by_cases z : j = k
          · subst z; first | omega | exact ⟨fun y => hp0 e (by omega) q y, fun y => hp1 e (by omega) q y⟩
          · exact hcl e j a (by omega) q b) hs1)
    · refine tm_aload_n dX12_rebind_86 rfl 5 rfl ?_
      refine tm_get (k := 47) (v := .ref (b + 1 + 25)) lay_12 dX12_rebind_87 (by decide) fl12_91 rfl ?_
      refine tm_iload dX12_rebind_90 1 rfl ?_
      refine tm_zald (z := k) (v := σ.2.1 47 k) dX12_rebind_92 (show mT[25]? = some (47, 2, 221) from rfl) (by omega) (by omega) (by decide) (rfl) ?_
      have g2 := RG.a hR 47 (k)
      have := hbo (k)
      refine tm_if_eq (tgt := 156) dX12_rebind_93 (by decide) ⟨by omega, by omega⟩ (fun h3 => ?_) (fun h3 => ?_)
      · exact tm_sub [0, 1, 2, 3, 4, 5, 6, 7] rfl (hx_156 (w) (i) σ (Fr.rfl.trans (Fr.sub hF (by decide) (by decide) (by decide))) hR (by omega) hbo hcn hsd (fun e j a c q b => by
          by_cases z : j = k
          · subst z; first | omega | exact ⟨fun y => hp0 e (by omega) q y, fun y => hp1 e (by omega) q y⟩
          · exact hcl e j a (by omega) q b) hs1)
      · refine tm_aload_n dX12_rebind_96 rfl 5 rfl ?_
        refine tm_aload_n dX12_rebind_97 rfl 5 rfl ?_
        refine tm_iload_n dX12_rebind_98 rfl 6 rfl ?_
        refine tm_iload dX12_rebind_99 1 rfl ?_
        refine tm_callV (M := m_X12_rebind) (pc := 101) (ix := 203) (M' := m_X12_at) (As := [.int (iI r), .int (iI k)]) (rest := [.ref b]) dX12_rebind_101 ok_X12_at im_X12_at se_X12_at ml12_203 np_X12_at rfl rfl (Nat.le_of_ble_eq_true rfl) (Nat.le_of_ble_eq_true rfl) rfl (c_X12_at (d + 1) (σ := σ) (x := r) (k := k) ) (fun r4 σ5 hp => ?_)
        obtain ⟨v6, rfl, rfl, f7⟩ := hp
        subst f7
        show Tm _ _ 104 b σ [(7, .int (iI i)), (6, .int (iI k)), (5, .int (iI w)), (3, .int (iI x0)), (4, .int (iI g)), (0, .ref b), (1, .int (iI r)), (2, .int (iI k0))] [.int (iI (220 * r + k)), .ref b] _
        refine tm_iload dX12_rebind_104 4 rfl ?_
        refine tm_callV (M := m_X12_rebind) (pc := 106) (ix := 436) (M' := m_X12_writesTo) (As := [.int (iI (220 * r + k)), .int (iI g)]) (rest := []) dX12_rebind_106 ok_X12_writesTo im_X12_writesTo se_X12_writesTo ml12_436 np_X12_writesTo rfl rfl (Nat.le_of_ble_eq_true rfl) (Nat.le_of_ble_eq_true rfl) rfl (c_X12_writesTo (d) (σ := σ) (x := 220 * r + k) (g := g) (by omega) hR (by omega)) (fun r8 σ9 hp => ?_)
        obtain ⟨v10, rfl, rfl, f11, f12⟩ := hp
        show Tm _ _ 109 b σ [(7, .int (iI i)), (6, .int (iI k)), (5, .int (iI w)), (3, .int (iI x0)), (4, .int (iI g)), (0, .ref b), (1, .int (iI r)), (2, .int (iI k0))] [.int (iI v10)] _
        have hWT := f12
        refine tm_if_ne (tgt := 156) dX12_rebind_109 (by decide) ⟨by omega, by omega⟩ (fun h13 => ?_) (fun h13 => ?_)
        · exact tm_sub [0, 1, 2, 3, 4, 5, 6, 7] rfl (hx_156 (w) (i) σ (Fr.rfl.trans (Fr.sub hF (by decide) (by decide) (by decide))) hR (by omega) hbo hcn hsd (fun e j a c q b => by
          by_cases z : j = k
          · subst z; exact absurd ((hwV j a hk.2).mpr (show wrA σ r g j from hWT.mp (by omega))) b
          · exact hcl e j a (by omega) q b) hs1)
        · refine tm_aload_n dX12_rebind_112 rfl 5 rfl ?_
          refine tm_iload_n dX12_rebind_113 rfl 6 rfl ?_
          refine tm_iload dX12_rebind_114 1 rfl ?_
          refine tm_iload dX12_rebind_116 0 rfl ?_
          refine tm_callV (M := m_X12_rebind) (pc := 118) (ix := 413) (M' := m_X12_goesOn) (As := [.int (iI r), .int (iI k), .int (iI i)]) (rest := []) dX12_rebind_118 ok_X12_goesOn im_X12_goesOn se_X12_goesOn ml12_413 np_X12_goesOn rfl rfl (Nat.le_of_ble_eq_true rfl) (Nat.le_of_ble_eq_true rfl) rfl (c_X12_goesOn (d) (σ := σ) (r := r) (k := k) (how := i) (by omega) hR (by omega) (fun q => hjm1 _ (by omega) (by omega) (by omega)) (by omega)) (fun r14 σ15 hp => ?_)
          obtain ⟨v16, rfl, rfl, f17, f18, f19, f20⟩ := hp
          show Tm _ _ 121 b σ [(7, .int (iI i)), (6, .int (iI k)), (5, .int (iI w)), (3, .int (iI x0)), (4, .int (iI g)), (0, .ref b), (1, .int (iI r)), (2, .int (iI k0))] [.int (iI v16)] _
          refine tm_istore (L' := [(8, .int (iI v16)), (7, .int (iI i)), (6, .int (iI k)), (5, .int (iI w)), (3, .int (iI x0)), (4, .int (iI g)), (0, .ref b), (1, .int (iI r)), (2, .int (iI k0))]) dX12_rebind_121 (by decide) rfl ?_
          refine tm_iload dX12_rebind_123 0 rfl ?_
          refine tm_iconst dX12_rebind_125 ?_
          refine tm_icmp_eq (tgt := 150) dX12_rebind_126 (by decide) ⟨by omega, by omega⟩ ⟨by decide, by decide⟩ (fun h21 => ?_) (fun h21 => ?_)
          · refine tm_iinc (q0 := 1) (L' := [(7, .int (iI (i + 1))), (8, .int (iI v16)), (6, .int (iI k)), (5, .int (iI w)), (3, .int (iI x0)), (4, .int (iI g)), (0, .ref b), (1, .int (iI r)), (2, .int (iI k0))]) dX12_rebind_150 rfl (by decide) rfl ?_
            refine tm_goto (tgt := 80) dX12_rebind_153 (by decide) ?_
            exact tm_sub [0, 2, 3, 4, 5, 6, 7, 8] rfl (ih _ (by omega) (w) (i + 1) σ (Fr.rfl.trans (Fr.sub hF (by decide) (by decide) (by decide))) hR (by omega) hbo (by omega) hsd hcl hs1 (fun e a q y => by
            by_cases z : i = 0
            · have hv : v16 = k + 1 := by omega
              rw [← hv]; omega
            · exact hp0 e (by omega) q y) (fun e a q y => by
            have hv : v16 = σ.2.1 46 (σ.2.1 4 (220 * r + k)) := by omega
            have := q5 y
            rw [← hv]; omega) rfl)
          · refine tm_aload_n dX12_rebind_129 rfl 6 rfl ?_
            refine tm_get (k := 47) (v := .ref (b + 1 + 25)) lay_12 dX12_rebind_130 (by decide) fl12_91 rfl ?_
            refine tm_iload dX12_rebind_133 0 rfl ?_
            refine tm_zald (z := v16) (v := σ.2.1 47 v16) dX12_rebind_135 (show mT[25]? = some (47, 2, 221) from rfl) (by omega) (by omega) (by decide) (rfl) ?_
            have g22 := RG.a hR 47 (v16)
            have := hbo (v16)
            refine tm_if_ne (tgt := 150) dX12_rebind_136 (by decide) ⟨by omega, by omega⟩ (fun h23 => ?_) (fun h23 => ?_)
            · refine tm_iinc (q0 := 1) (L' := [(7, .int (iI (i + 1))), (8, .int (iI v16)), (6, .int (iI k)), (5, .int (iI w)), (3, .int (iI x0)), (4, .int (iI g)), (0, .ref b), (1, .int (iI r)), (2, .int (iI k0))]) dX12_rebind_150 rfl (by decide) rfl ?_
              refine tm_goto (tgt := 80) dX12_rebind_153 (by decide) ?_
              exact tm_sub [0, 2, 3, 4, 5, 6, 7, 8] rfl (ih _ (by omega) (w) (i + 1) σ (Fr.rfl.trans (Fr.sub hF (by decide) (by decide) (by decide))) hR (by omega) hbo (by omega) hsd hcl hs1 (fun e a q y => by
            by_cases z : i = 0
            · have hv : v16 = k + 1 := by omega
              rw [← hv]; omega
            · exact hp0 e (by omega) q y) (fun e a q y => by
            have hv : v16 = σ.2.1 46 (σ.2.1 4 (220 * r + k)) := by omega
            have := q5 y
            rw [← hv]; omega) rfl)
            · refine tm_aload_n dX12_rebind_139 rfl 6 rfl ?_
              refine tm_get (k := 47) (v := .ref (b + 1 + 25)) lay_12 dX12_rebind_140 (by decide) fl12_91 rfl ?_
              refine tm_iload dX12_rebind_143 0 rfl ?_
              refine tm_iconst dX12_rebind_145 ?_
              refine tm_zast (z := v16) (v := 1) dX12_rebind_146 (show mT[25]? = some (47, 2, 221) from rfl) (by omega) (by omega) (by decide) (by omega) ?_
              refine tm_iconst dX12_rebind_147 ?_
              refine tm_istore (L' := [(5, .int (iI 1)), (8, .int (iI v16)), (7, .int (iI i)), (6, .int (iI k)), (3, .int (iI x0)), (4, .int (iI g)), (0, .ref b), (1, .int (iI r)), (2, .int (iI k0))]) dX12_rebind_148 (by decide) rfl ?_
              refine tm_iinc (q0 := 2) (L' := [(7, .int (iI (i + 1))), (5, .int (iI 1)), (8, .int (iI v16)), (6, .int (iI k)), (3, .int (iI x0)), (4, .int (iI g)), (0, .ref b), (1, .int (iI r)), (2, .int (iI k0))]) dX12_rebind_150 rfl (by decide) rfl ?_
              refine tm_goto (tgt := 80) dX12_rebind_153 (by decide) ?_
              exact tm_sub [0, 3, 1, 4, 5, 6, 7, 8] rfl (ih _ (by omega) (1) (i + 1) (sA 47 (v16) (1) σ) ((Fr.rfl.trans (Fr.sub hF (by decide) (by decide) (by decide))).A (by decide)) (hR.A (by omega)) (by omega) (hbo.A (by omega)) (by have hcz := cz_sA (σ := σ) (k := 47) (n := 221) (z := v16) (v := 1) (by omega) (by omega) (by omega) (by decide); omega) (hsd.go hV1 (by omega) htd1 hu (by omega) (by omega) (fun z => absurd (hWT.mpr ((hwV k hk.1 hk.2).mp z)) (by omega)) (by omega)) (fun e => absurd e (by decide)) (by
            by_cases z : k0 + 1 = v16
            · rw [z]; exact ra_eq
            · exact ra_ne z hs1) (fun e => absurd e (by decide)) (fun e => absurd e (by decide)) rfl)
set_option maxHeartbeats 1000000 in
set_option maxRecDepth 20000 in
theorem f_reb3 (d : Nat) {b : Nat} {σ0 : MS} {r : Int} {m : Int} {g : Int} {k0 : Int} {x0 : Int} {C0 : Int} {V : Int → It} {post : Option Value → MS → Prop} (hr : 0 ≤ r ∧ r < 6) (hR0 : RG σ0) (hit : ITM σ0) (hjm : JMP σ0 r) (htg : TGT σ0 r) (hm : m = σ0.2.1 9 r) (h_g : -2147483648 ≤ g ∧ g ≤ 2147483647) (htd : TGD σ0 r) (hV : V = rV σ0 r) (hu : UNQ V m) (hx_162 : ∀ (w : Int) (k : Int) (σ : MS) , (Fr [] [47] [] σ0 σ) → (RG σ) → (w = 0 ∨ w = 1) → (BO 47 σ) → ((cz (σ.2.1 47) 221 : Int) + w ≤ C0) → (RSD σ V m (k0 + 1) (fun j => wrT (V j) g)) → (Wz w (CLG σ r m (fun j => wrT (V j) g))) → (σ.2.1 47 (k0 + 1) = 1) → Tm (d + 3) m_X12_rebind 162 b σ [(6, .int (iI k)), (5, .int (iI w)), (3, .int (iI x0)), (4, .int (iI g)), (0, .ref b), (1, .int (iI r)), (2, .int (iI k0))] [] post) : ∀ (n : Nat) (w : Int) (k : Int) (σ : MS) , (Fr [] [47] [] σ0 σ) → (RG σ) → ((w = 0 ∨ w = 1) ∧ 0 ≤ k ∧ k ≤ m) → (BO 47 σ) → ((cz (σ.2.1 47) 221 : Int) + w ≤ C0) → (RSD σ V m (k0 + 1) (fun j => wrT (V j) g)) → (Wz w (CLG σ r k (fun j => wrT (V j) g))) → (σ.2.1 47 (k0 + 1) = 1) → (m - k).toNat = n → Tm (d + 3) m_X12_rebind 66 b σ [(6, .int (iI k)), (5, .int (iI w)), (3, .int (iI x0)), (4, .int (iI g)), (0, .ref b), (1, .int (iI r)), (2, .int (iI k0))] [] post := by
  intro n
  induction n using Nat.strongRecOn with
  | _ n ih =>
    intro w k σ hF hR h0 hbo hcn hsd hcl hs1 hm
    have hit1 := hit.fr hF (by decide)
    have hjm1 := hjm.fr hF (by decide)
    have htg1 := htg.fr hF (by decide)
    have q1 := hit r (by omega) (by omega)
    have q9 : σ.2.1 9 r = σ0.2.1 9 r := by rw [hF.2.1 9 (by decide)]
    have e3 : σ.2.1 3 = σ0.2.1 3 := hF.2.1 3 (by decide)
    have e4 : σ.2.1 4 = σ0.2.1 4 := hF.2.1 4 (by decide)
    have e46 : σ.2.1 46 = σ0.2.1 46 := hF.2.1 46 (by decide)
    have hV1 : V = rV σ r := hV.trans (rv_fr hF (by decide)).symm
    have htd1 := htd.fr hF (by decide)
    refine tm_iload dX12_rebind_66 0 rfl ?_
    refine tm_aload_n dX12_rebind_68 rfl 4 rfl ?_
    refine tm_get (k := 9) (v := .ref (b + 1 + 7)) lay_12 dX12_rebind_69 (by decide) fl12_32 rfl ?_
    refine tm_iload_n dX12_rebind_72 rfl 5 rfl ?_
    refine tm_iald (z := r) (v := σ0.2.1 9 r) dX12_rebind_73 (show mT[7]? = some (9, 0, 13) from rfl) (by omega) (by omega) (by decide) (ra_F hF (by decide) (rfl)) ?_
    have g1 := RG.a hR0 9 (r)
    refine tm_icmp_ge (tgt := 162) dX12_rebind_74 (by decide) ⟨by omega, by omega⟩ ⟨by omega, by omega⟩ (fun h2 => ?_) (fun h2 => ?_)
    · exact tm_sub [0, 1, 2, 3, 4, 5, 6] rfl (hx_162 (w) (k) σ (Fr.rfl.trans (Fr.sub hF (by decide) (by decide) (by decide))) hR (by omega) hbo hcn hsd (fun e j a c => hcl e j a (by omega)) hs1)
    · refine tm_iconst dX12_rebind_77 ?_
      refine tm_istore (L' := [(7, .int (iI 0)), (6, .int (iI k)), (5, .int (iI w)), (3, .int (iI x0)), (4, .int (iI g)), (0, .ref b), (1, .int (iI r)), (2, .int (iI k0))]) dX12_rebind_78 (by decide) rfl ?_
      refine tm_sub [0, 1, 2, 3, 4, 5, 6, 7] rfl (f_reb4 (d) (σ0 := σ) (r := r) (g := g) (k0 := k0) (x0 := x0) (k := k) (m := m) (C0 := C0) (V := V) hr hR hit1 hjm1 htg1 (by omega) (by omega) htd1 hV1 hu (by omega) (fun w14 i15 σ16 F6 R7 f8 f9 f10 f11 f12 f13 => ?_) _ (w) (0) σ Fr.rfl hR (by omega) hbo (by omega) hsd hcl hs1 (fun e a => by omega) (fun e a => by omega) rfl)
      show Tm _ _ 156 b σ16 [(7, .int (iI i15)), (6, .int (iI k)), (5, .int (iI w14)), (3, .int (iI x0)), (4, .int (iI g)), (0, .ref b), (1, .int (iI r)), (2, .int (iI k0))] [] _
      refine tm_iinc (q0 := 1) (L' := [(6, .int (iI (k + 1))), (7, .int (iI i15)), (5, .int (iI w14)), (3, .int (iI x0)), (4, .int (iI g)), (0, .ref b), (1, .int (iI r)), (2, .int (iI k0))]) dX12_rebind_156 rfl (by decide) rfl ?_
      refine tm_goto (tgt := 66) dX12_rebind_159 (by decide) ?_
      exact tm_sub [0, 2, 3, 4, 5, 6, 7] rfl (ih _ (by omega) (w14) (k + 1) σ16 ((Fr.rfl.trans (Fr.sub hF (by decide) (by decide) (by decide))).trans (Fr.sub F6 (by decide) (by decide) (by decide))) R7 (by omega) f9 (by omega) f11 f12 f13 rfl)
set_option maxHeartbeats 1000000 in
set_option maxRecDepth 20000 in
theorem f_reb2 (d : Nat) {b : Nat} {σ0 : MS} {r : Int} {m : Int} {g : Int} {k0 : Int} {x0 : Int} {V : Int → It} {post : Option Value → MS → Prop} (hr : 0 ≤ r ∧ r < 6) (hR0 : RG σ0) (hit : ITM σ0) (hjm : JMP σ0 r) (htg : TGT σ0 r) (hm : m = σ0.2.1 9 r) (h_g : -2147483648 ≤ g ∧ g ≤ 2147483647) (htd : TGD σ0 r) (hV : V = rV σ0 r) (hu : UNQ V m) (hx_165 : ∀ (w : Int) (σ : MS) , (Fr [] [47] [] σ0 σ) → (RG σ) → (BO 47 σ) → (RSD σ V m (k0 + 1) (fun j => wrT (V j) g)) → (CLG σ r m (fun j => wrT (V j) g)) → (σ.2.1 47 (k0 + 1) = 1) → Tm (d + 3) m_X12_rebind 165 b σ [(5, .int (iI w)), (3, .int (iI x0)), (4, .int (iI g)), (0, .ref b), (1, .int (iI r)), (2, .int (iI k0))] [] post) : ∀ (n : Nat) (w : Int) (σ : MS) , (Fr [] [47] [] σ0 σ) → (RG σ) → (w = 0 ∨ w = 1) → (BO 47 σ) → (RSD σ V m (k0 + 1) (fun j => wrT (V j) g)) → (Wz w (CLG σ r m (fun j => wrT (V j) g))) → (σ.2.1 47 (k0 + 1) = 1) → ((cz (σ.2.1 47) 221 : Int) + w).toNat = n → Tm (d + 3) m_X12_rebind 55 b σ [(5, .int (iI w)), (3, .int (iI x0)), (4, .int (iI g)), (0, .ref b), (1, .int (iI r)), (2, .int (iI k0))] [] post := by
  intro n
  induction n using Nat.strongRecOn with
  | _ n ih =>
    intro w σ hF hR h0 hbo hsd hcl hs1 hm
    have hit1 := hit.fr hF (by decide)
    have hjm1 := hjm.fr hF (by decide)
    have htg1 := htg.fr hF (by decide)
    have q1 := hit r (by omega) (by omega)
    have q9 : σ.2.1 9 r = σ0.2.1 9 r := by rw [hF.2.1 9 (by decide)]
    have e3 : σ.2.1 3 = σ0.2.1 3 := hF.2.1 3 (by decide)
    have e4 : σ.2.1 4 = σ0.2.1 4 := hF.2.1 4 (by decide)
    have e46 : σ.2.1 46 = σ0.2.1 46 := hF.2.1 46 (by decide)
    have hV1 : V = rV σ r := hV.trans (rv_fr hF (by decide)).symm
    have htd1 := htd.fr hF (by decide)
    refine tm_iload dX12_rebind_55 0 rfl ?_
    refine tm_if_eq (tgt := 165) dX12_rebind_57 (by decide) ⟨by omega, by omega⟩ (fun h1 => ?_) (fun h1 => ?_)
    · exact tm_sub [0, 1, 2, 3, 4, 5] rfl (hx_165 (w) σ (Fr.rfl.trans (Fr.sub hF (by decide) (by decide) (by decide))) hR hbo hsd (hcl (by omega)) hs1)
    · refine tm_iconst dX12_rebind_60 ?_
      refine tm_istore (L' := [(5, .int (iI 0)), (3, .int (iI x0)), (4, .int (iI g)), (0, .ref b), (1, .int (iI r)), (2, .int (iI k0))]) dX12_rebind_61 (by decide) rfl ?_
      refine tm_iconst dX12_rebind_63 ?_
      refine tm_istore (L' := [(6, .int (iI 0)), (5, .int (iI 0)), (3, .int (iI x0)), (4, .int (iI g)), (0, .ref b), (1, .int (iI r)), (2, .int (iI k0))]) dX12_rebind_64 (by decide) rfl ?_
      refine tm_sub [0, 1, 2, 3, 4, 5, 6] rfl (f_reb3 (d) (σ0 := σ) (r := r) (g := g) (k0 := k0) (x0 := x0) (m := m) (C0 := (cz (σ.2.1 47) 221 : Int)) (V := V) hr hR hit1 hjm1 htg1 (by omega) (by omega) htd1 hV1 hu (fun w13 k14 σ15 F5 R6 f7 f8 f9 f10 f11 f12 => ?_) _ (0) (0) σ Fr.rfl hR (by omega) hbo (by omega) hsd (fun e j a c => by omega) hs1 rfl)
      show Tm _ _ 162 b σ15 [(6, .int (iI k14)), (5, .int (iI w13)), (3, .int (iI x0)), (4, .int (iI g)), (0, .ref b), (1, .int (iI r)), (2, .int (iI k0))] [] _
      refine tm_goto (tgt := 55) dX12_rebind_162 (by decide) ?_
      exact tm_sub [1, 2, 3, 4, 5, 6] rfl (ih _ (by omega) (w13) σ15 ((Fr.rfl.trans (Fr.sub hF (by decide) (by decide) (by decide))).trans (Fr.sub F5 (by decide) (by decide) (by decide))) R6 (by omega) f8 f10 f11 f12 rfl)
set_option maxHeartbeats 1000000 in
set_option maxRecDepth 20000 in
theorem f_reb1 (d : Nat) {b : Nat} {σ0 : MS} {r : Int} {g : Int} {k0 : Int} {x0 : Int} {post : Option Value → MS → Prop} (hr : 0 ≤ r ∧ r < 6) (hR0 : RG σ0) (hit : 0 ≤ σ0.2.1 9 r ∧ σ0.2.1 9 r ≤ 220) (hx_43 : ∀ (k : Int) (σ : MS) , (Fr [] [47] [] σ0 σ) → (RG σ) → (BO 47 σ) → (∀ j, 0 ≤ j → j ≤ σ0.2.1 9 r → σ.2.1 47 j = 0) → Tm (d + 1) m_X12_rebind 43 b σ [(5, .int (iI k)), (3, .int (iI x0)), (4, .int (iI g)), (0, .ref b), (1, .int (iI r)), (2, .int (iI k0))] [] post) : ∀ (n : Nat) (k : Int) (σ : MS) , (Fr [] [47] [] σ0 σ) → (RG σ) → (0 ≤ k ∧ k ≤ 221) → (BO 47 σ) → (∀ j, 0 ≤ j → j < k → σ.2.1 47 j = 0) → (221 - k).toNat = n → Tm (d + 1) m_X12_rebind 18 b σ [(5, .int (iI k)), (3, .int (iI x0)), (4, .int (iI g)), (0, .ref b), (1, .int (iI r)), (2, .int (iI k0))] [] post := by
  intro n
  induction n using Nat.strongRecOn with
  | _ n ih =>
    intro k σ hF hR h0 hbo hj hm
    refine tm_iload dX12_rebind_18 0 rfl ?_
    refine tm_aload_n dX12_rebind_20 rfl 3 rfl ?_
    refine tm_get (k := 9) (v := .ref (b + 1 + 7)) lay_12 dX12_rebind_21 (by decide) fl12_32 rfl ?_
    refine tm_iload_n dX12_rebind_24 rfl 4 rfl ?_
    refine tm_iald (z := r) (v := σ0.2.1 9 r) dX12_rebind_25 (show mT[7]? = some (9, 0, 13) from rfl) (by omega) (by omega) (by decide) (ra_F hF (by decide) (rfl)) ?_
    have g1 := RG.a hR0 9 (r)
    refine tm_icmp_gt (tgt := 43) dX12_rebind_26 (by decide) ⟨by omega, by omega⟩ ⟨by omega, by omega⟩ (fun h2 => ?_) (fun h2 => ?_)
    · exact tm_sub [0, 1, 2, 3, 4, 5] rfl (hx_43 (k) σ (Fr.rfl.trans (Fr.sub hF (by decide) (by decide) (by decide))) hR hbo (fun j a c => hj j a (by omega)))
    · refine tm_aload_n dX12_rebind_29 rfl 3 rfl ?_
      refine tm_get (k := 47) (v := .ref (b + 1 + 25)) lay_12 dX12_rebind_30 (by decide) fl12_91 rfl ?_
      refine tm_iload dX12_rebind_33 0 rfl ?_
      refine tm_iconst dX12_rebind_35 ?_
      refine tm_zast (z := k) (v := 0) dX12_rebind_36 (show mT[25]? = some (47, 2, 221) from rfl) (by omega) (by omega) (by decide) (by omega) ?_
      refine tm_iinc (q0 := 0) (L' := [(5, .int (iI (k + 1))), (3, .int (iI x0)), (4, .int (iI g)), (0, .ref b), (1, .int (iI r)), (2, .int (iI k0))]) dX12_rebind_37 rfl (by decide) rfl ?_
      refine tm_goto (tgt := 18) dX12_rebind_40 (by decide) ?_
      exact tm_sub [0, 1, 2, 3, 4, 5] rfl (ih _ (by omega) (k + 1) (sA 47 (k) (0) σ) ((Fr.rfl.trans (Fr.sub hF (by decide) (by decide) (by decide))).A (by decide)) (hR.A (by omega)) (by omega) (hbo.A (by omega)) (fun j a c => by
          by_cases z : j = k
          · subst z; exact ra_eq
          · exact ra_ne z (hj j a (by omega))) rfl)
set_option maxHeartbeats 1000000 in
set_option maxRecDepth 20000 in
theorem f_reb5 (d : Nat) {b : Nat} {σ0 : MS} {r : Int} {F : Int} {g : Int} {k0 : Int} {x0 : Int} {post : Option Value → MS → Prop} (hr : 0 ≤ r ∧ r < 6) (hR0 : RG σ0) (hit : 0 ≤ σ0.2.1 9 r ∧ σ0.2.1 9 r ≤ 220) (hx0 : x0 = 220 * r + k0 ∧ 0 ≤ k0 ∧ k0 < σ0.2.1 9 r) (hk5 : σ0.2.1 3 x0 ≤ 5) (h_g : -2147483648 ≤ g ∧ g ≤ 2147483647) (hx_369 : ∀ (i : Int) (σ : MS) , (Fr [] [6, 7, 8, 47] [] σ0 σ) → (RG σ) → (BO 47 σ) → (OKS σ F r) → (XO r σ0 σ) → (RBE σ0 σ r (σ0.2.1 9 r) k0 g) → Tm (d + 2) m_X12_rebind 369 b σ [(6, .int (iI i)), (3, .int (iI x0)), (4, .int (iI g)), (0, .ref b), (1, .int (iI r)), (2, .int (iI k0))] [] post) : ∀ (n : Nat) (i : Int) (σ : MS) , (Fr [] [6, 7, 8, 47] [] σ0 σ) → (RG σ) → (k0 < i ∧ i ≤ σ0.2.1 9 r) → (BO 47 σ) → (OKS σ F r) → (XO r σ0 σ) → (RB5 σ0 σ r (σ0.2.1 9 r) k0 g i) → (220 - i).toNat = n → Tm (d + 2) m_X12_rebind 170 b σ [(6, .int (iI i)), (3, .int (iI x0)), (4, .int (iI g)), (0, .ref b), (1, .int (iI r)), (2, .int (iI k0))] [] post := by
  intro n
  induction n using Nat.strongRecOn with
  | _ n ih =>
    intro i σ hF hR h0 hbo hok hxo hrb hm
    obtain ⟨hx0, hk0, hk1⟩ := hx0
    have q9 : σ.2.1 9 r = σ0.2.1 9 r := by rw [hF.2.1 9 (by decide)]
    have q3 : σ.2.1 3 = σ0.2.1 3 := hF.2.1 3 (by decide)
    have e3x : σ.2.1 3 x0 = σ0.2.1 3 x0 := congrFun q3 _
    have e3i : σ.2.1 3 (220 * r + i) = σ0.2.1 3 (220 * r + i) := congrFun q3 _
    have z9 : i < σ0.2.1 9 r → rI σ (220 * r + i) = rI σ0 (220 * r + i) := fun z => hrb.at (by omega) z (by omega)
    have hkx : σ.2.1 3 x0 ≤ 5 := by rw [q3]; exact hk5
    have ho := hok k0 (by omega) (by omega)
    rw [← hx0] at ho
    have ho1 := ho.1
    rw [q3] at ho1
    have ho8 := ho.2.2.2.2.2.2.2.1 0 (by decide) (by decide)
    have ho81 := ho.2.2.2.2.2.2.2.1 1 (by decide) (by decide)
    rw [Int.add_zero] at ho8
    have hra1 := RG.a hR 8 (4 * x0 + 1)
    refine tm_iload dX12_rebind_170 0 rfl ?_
    refine tm_aload_n dX12_rebind_172 rfl 3 rfl ?_
    refine tm_get (k := 9) (v := .ref (b + 1 + 7)) lay_12 dX12_rebind_173 (by decide) fl12_32 rfl ?_
    refine tm_iload_n dX12_rebind_176 rfl 4 rfl ?_
    refine tm_iald (z := r) (v := σ0.2.1 9 r) dX12_rebind_177 (show mT[7]? = some (9, 0, 13) from rfl) (by omega) (by omega) (by decide) (ra_F hF (by decide) (rfl)) ?_
    have g1 := RG.a hR0 9 (r)
    refine tm_icmp_ge (tgt := 369) dX12_rebind_178 (by decide) ⟨by omega, by omega⟩ ⟨by omega, by omega⟩ (fun h2 => ?_) (fun h2 => ?_)
    · exact tm_sub [0, 1, 2, 3, 4, 5] rfl (hx_369 (i) σ (Fr.rfl.trans (Fr.sub hF (by decide) (by decide) (by decide))) hR hbo hok hxo ⟨i, hrb, by omega, by omega, by omega⟩)
    · replace z9 := z9 (by omega)
      refine tm_aload_n dX12_rebind_181 rfl 3 rfl ?_
      refine tm_get (k := 3) (v := .ref (b + 1 + 1)) lay_12 dX12_rebind_182 (by decide) fl12_13 rfl ?_
      refine tm_aload_n dX12_rebind_185 rfl 3 rfl ?_
      refine tm_iload_n dX12_rebind_186 rfl 4 rfl ?_
      refine tm_iload dX12_rebind_187 0 rfl ?_
      refine tm_callV (M := m_X12_rebind) (pc := 189) (ix := 203) (M' := m_X12_at) (As := [.int (iI r), .int (iI i)]) (rest := [.ref (b + 1 + 1)]) dX12_rebind_189 ok_X12_at im_X12_at se_X12_at ml12_203 np_X12_at rfl rfl (Nat.le_of_ble_eq_true rfl) (Nat.le_of_ble_eq_true rfl) rfl (c_X12_at (d) (σ := σ) (x := r) (k := i) ) (fun r3 σ4 hp => ?_)
      obtain ⟨v5, rfl, rfl, f6⟩ := hp
      subst f6
      show Tm _ _ 192 b σ [(6, .int (iI i)), (3, .int (iI x0)), (4, .int (iI g)), (0, .ref b), (1, .int (iI r)), (2, .int (iI k0))] [.int (iI (220 * r + i)), .ref (b + 1 + 1)] _
      refine tm_iald (z := 220 * r + i) (v := σ0.2.1 3 (220 * r + i)) dX12_rebind_192 (show mT[1]? = some (3, 0, 2860) from rfl) (by omega) (by omega) (by decide) (ra_F hF (by decide) (rfl)) ?_
      have g7 := RG.a hR0 3 (220 * r + i)
      refine tm_bipush dX12_rebind_193 (by decide) ?_
      refine tm_icmp_eq (tgt := 215) dX12_rebind_195 (by decide) ⟨by omega, by omega⟩ ⟨by decide, by decide⟩ (fun h8 => ?_) (fun h8 => ?_)
      · refine tm_aload_n dX12_rebind_215 rfl 3 rfl ?_
        refine tm_iload_n dX12_rebind_216 rfl 4 rfl ?_
        refine tm_iload dX12_rebind_217 0 rfl ?_
        refine tm_callV (M := m_X12_rebind) (pc := 219) (ix := 203) (M' := m_X12_at) (As := [.int (iI r), .int (iI i)]) (rest := []) dX12_rebind_219 ok_X12_at im_X12_at se_X12_at ml12_203 np_X12_at rfl rfl (Nat.le_of_ble_eq_true rfl) (Nat.le_of_ble_eq_true rfl) rfl (c_X12_at (d) (σ := σ) (x := r) (k := i) ) (fun r9 σ10 hp => ?_)
        obtain ⟨v11, rfl, rfl, f12⟩ := hp
        subst f12
        show Tm _ _ 222 b σ [(6, .int (iI i)), (3, .int (iI x0)), (4, .int (iI g)), (0, .ref b), (1, .int (iI r)), (2, .int (iI k0))] [.int (iI (220 * r + i))] _
        refine tm_istore (L' := [(7, .int (iI (220 * r + i))), (6, .int (iI i)), (3, .int (iI x0)), (4, .int (iI g)), (0, .ref b), (1, .int (iI r)), (2, .int (iI k0))]) dX12_rebind_222 (by decide) rfl ?_
        refine tm_aload_n dX12_rebind_224 rfl 4 rfl ?_
        refine tm_get (k := 3) (v := .ref (b + 1 + 1)) lay_12 dX12_rebind_225 (by decide) fl12_13 rfl ?_
        refine tm_iload dX12_rebind_228 0 rfl ?_
        refine tm_iald (z := 220 * r + i) (v := σ0.2.1 3 (220 * r + i)) dX12_rebind_230 (show mT[1]? = some (3, 0, 2860) from rfl) (by omega) (by omega) (by decide) (ra_F hF (by decide) (rfl)) ?_
        have g13 := RG.a hR0 3 (220 * r + i)
        refine tm_bipush dX12_rebind_231 (by decide) ?_
        refine tm_icmp_ne (tgt := 363) dX12_rebind_233 (by decide) ⟨by omega, by omega⟩ ⟨by decide, by decide⟩ (fun h14 => ?_) (fun h14 => ?_)
        · refine tm_iinc (q0 := 1) (L' := [(6, .int (iI (i + 1))), (7, .int (iI (220 * r + i))), (3, .int (iI x0)), (4, .int (iI g)), (0, .ref b), (1, .int (iI r)), (2, .int (iI k0))]) dX12_rebind_363 rfl (by decide) rfl ?_
          refine tm_goto (tgt := 170) dX12_rebind_366 (by decide) ?_
          exact tm_sub [0, 2, 3, 4, 5, 6] rfl (ih _ (by omega) (i + 1) σ (Fr.rfl.trans (Fr.sub hF (by decide) (by decide) (by decide))) hR (by omega) hbo hok hxo (hrb.skip (by omega) (fun z => by have z1 := (bnd_ri (σ := σ0)).mp z; rw [← z9] at z; have z2 := bnd_ri.mp z; omega)) rfl)
        · refine tm_aload_n dX12_rebind_236 rfl 4 rfl ?_
          refine tm_get (k := 6) (v := .ref (b + 1 + 4)) lay_12 dX12_rebind_237 (by decide) fl12_23 rfl ?_
          refine tm_iload dX12_rebind_240 0 rfl ?_
          refine tm_iald (z := 220 * r + i) (v := σ.2.1 6 (220 * r + i)) dX12_rebind_242 (show mT[4]? = some (6, 0, 2860) from rfl) (by omega) (by omega) (by decide) (rfl) ?_
          have g15 := RG.a hR 6 (220 * r + i)
          refine tm_iconst dX12_rebind_243 ?_
          refine tm_icmp_ne (tgt := 363) dX12_rebind_244 (by decide) ⟨by omega, by omega⟩ ⟨by decide, by decide⟩ (fun h16 => ?_) (fun h16 => ?_)
          · refine tm_iinc (q0 := 1) (L' := [(6, .int (iI (i + 1))), (7, .int (iI (220 * r + i))), (3, .int (iI x0)), (4, .int (iI g)), (0, .ref b), (1, .int (iI r)), (2, .int (iI k0))]) dX12_rebind_363 rfl (by decide) rfl ?_
            refine tm_goto (tgt := 170) dX12_rebind_366 (by decide) ?_
            exact tm_sub [0, 2, 3, 4, 5, 6] rfl (ih _ (by omega) (i + 1) σ (Fr.rfl.trans (Fr.sub hF (by decide) (by decide) (by decide))) hR (by omega) hbo hok hxo (hrb.skip (by omega) (fun z => by have z1 := (bnd_ri (σ := σ0)).mp z; rw [← z9] at z; have z2 := bnd_ri.mp z; omega)) rfl)
          · refine tm_aload_n dX12_rebind_247 rfl 4 rfl ?_
            refine tm_get (k := 8) (v := .ref (b + 1 + 6)) lay_12 dX12_rebind_248 (by decide) fl12_29 rfl ?_
            refine tm_iconst dX12_rebind_251 ?_
            refine tm_iload dX12_rebind_252 0 rfl ?_
            refine tm_imul dX12_rebind_254 ?_
            refine tm_iald (z := 4 * (220 * r + i)) (v := σ.2.1 8 (4 * (220 * r + i))) dX12_rebind_255 (show mT[6]? = some (8, 0, 11440) from rfl) (by omega) (by omega) (by decide) (rfl) ?_
            have g17 := RG.a hR 8 (4 * (220 * r + i))
            refine tm_iload dX12_rebind_256 3 rfl ?_
            refine tm_icmp_ne (tgt := 363) dX12_rebind_258 (by decide) ⟨by omega, by omega⟩ ⟨by omega, by omega⟩ (fun h18 => ?_) (fun h18 => ?_)
            · refine tm_iinc (q0 := 1) (L' := [(6, .int (iI (i + 1))), (7, .int (iI (220 * r + i))), (3, .int (iI x0)), (4, .int (iI g)), (0, .ref b), (1, .int (iI r)), (2, .int (iI k0))]) dX12_rebind_363 rfl (by decide) rfl ?_
              refine tm_goto (tgt := 170) dX12_rebind_366 (by decide) ?_
              exact tm_sub [0, 2, 3, 4, 5, 6] rfl (ih _ (by omega) (i + 1) σ (Fr.rfl.trans (Fr.sub hF (by decide) (by decide) (by decide))) hR (by omega) hbo hok hxo (hrb.skip (by omega) (fun z => by have z1 := (bnd_ri (σ := σ0)).mp z; rw [← z9] at z; have z2 := bnd_ri.mp z; omega)) rfl)
            · refine tm_aload_n dX12_rebind_261 rfl 4 rfl ?_
              refine tm_get (k := 6) (v := .ref (b + 1 + 4)) lay_12 dX12_rebind_262 (by decide) fl12_23 rfl ?_
              refine tm_iload dX12_rebind_265 0 rfl ?_
              refine tm_aload_n dX12_rebind_267 rfl 4 rfl ?_
              refine tm_get (k := 3) (v := .ref (b + 1 + 1)) lay_12 dX12_rebind_268 (by decide) fl12_13 rfl ?_
              refine tm_iload_n dX12_rebind_271 rfl 2 rfl ?_
              refine tm_iald (z := x0) (v := σ0.2.1 3 x0) dX12_rebind_272 (show mT[1]? = some (3, 0, 2860) from rfl) (by omega) (by omega) (by decide) (ra_F hF (by decide) (rfl)) ?_
              have g19 := RG.a hR0 3 (x0)
              refine tm_if_ne (tgt := 287) dX12_rebind_273 (by decide) ⟨by omega, by omega⟩ (fun h20 => ?_) (fun h20 => ?_)
              · refine tm_aload_n dX12_rebind_287 rfl 4 rfl ?_
                refine tm_get (k := 3) (v := .ref (b + 1 + 1)) lay_12 dX12_rebind_288 (by decide) fl12_13 rfl ?_
                refine tm_iload_n dX12_rebind_291 rfl 2 rfl ?_
                refine tm_iald (z := x0) (v := σ0.2.1 3 x0) dX12_rebind_292 (show mT[1]? = some (3, 0, 2860) from rfl) (by omega) (by omega) (by decide) (ra_F hF (by decide) (rfl)) ?_
                have g21 := RG.a hR0 3 (x0)
                refine tm_iconst dX12_rebind_293 ?_
                refine tm_iadd dX12_rebind_294 ?_
                refine tm_iast (z := 220 * r + i) (v := (σ0.2.1 3 x0) + 2) dX12_rebind_295 (show mT[4]? = some (6, 0, 2860) from rfl) (by omega) (by omega) (by decide) ?_
                refine tm_aload_n dX12_rebind_296 rfl 4 rfl ?_
                refine tm_iload dX12_rebind_297 0 rfl ?_
                refine tm_iconst dX12_rebind_299 ?_
                refine tm_aload_n dX12_rebind_300 rfl 4 rfl ?_
                refine tm_get (k := 7) (v := .ref (b + 1 + 5)) lay_12 dX12_rebind_301 (by decide) fl12_26 rfl ?_
                refine tm_iconst dX12_rebind_304 ?_
                refine tm_iload_n dX12_rebind_305 rfl 2 rfl ?_
                refine tm_imul dX12_rebind_306 ?_
                refine tm_iald (z := 4 * x0) (v := σ.2.1 7 (4 * x0)) dX12_rebind_307 (show mT[5]? = some (7, 0, 11440) from rfl) (by omega) (by omega) (by decide) (ra_o (by decide) (rfl)) ?_
                have g22 := RG.a hR 7 (4 * x0)
                refine tm_aload_n dX12_rebind_308 rfl 4 rfl ?_
                refine tm_get (k := 8) (v := .ref (b + 1 + 6)) lay_12 dX12_rebind_309 (by decide) fl12_29 rfl ?_
                refine tm_iconst dX12_rebind_312 ?_
                refine tm_iload_n dX12_rebind_313 rfl 2 rfl ?_
                refine tm_imul dX12_rebind_314 ?_
                refine tm_iald (z := 4 * x0) (v := σ.2.1 8 (4 * x0)) dX12_rebind_315 (show mT[6]? = some (8, 0, 11440) from rfl) (by omega) (by omega) (by decide) (ra_o (by decide) (rfl)) ?_
                have g23 := RG.a hR 8 (4 * x0)
                refine tm_callV (M := m_X12_rebind) (pc := 316) (ix := 298) (M' := m_X12_setArg) (As := [.int (iI (220 * r + i)), .int (iI 0), .int (iI (σ.2.1 7 (4 * x0))), .int (iI (σ.2.1 8 (4 * x0)))]) (rest := []) dX12_rebind_316 ok_X12_setArg im_X12_setArg se_X12_setArg ml12_298 np_X12_setArg rfl rfl (Nat.le_of_ble_eq_true rfl) (Nat.le_of_ble_eq_true rfl) rfl (c_X12_setArg (d) (σ := (sA 6 (220 * r + i) ((σ0.2.1 3 x0) + 2) σ)) (x := 220 * r + i) (i := 0) (k := σ.2.1 7 (4 * x0)) (w := σ.2.1 8 (4 * x0)) (by omega)) (fun r24 σ25 hp => ?_)
                obtain ⟨rfl, f27⟩ := hp
                subst f27
                show Tm _ _ 319 b (fArg (220 * r + i) (0) (σ.2.1 7 (4 * x0)) (σ.2.1 8 (4 * x0)) (sA 6 (220 * r + i) ((σ0.2.1 3 x0) + 2) σ)) [(7, .int (iI (220 * r + i))), (6, .int (iI i)), (3, .int (iI x0)), (4, .int (iI g)), (0, .ref b), (1, .int (iI r)), (2, .int (iI k0))] [] _
                refine tm_aload_n dX12_rebind_319 rfl 4 rfl ?_
                refine tm_get (k := 3) (v := .ref (b + 1 + 1)) lay_12 dX12_rebind_320 (by decide) fl12_13 rfl ?_
                refine tm_iload_n dX12_rebind_323 rfl 2 rfl ?_
                refine tm_iald (z := x0) (v := σ0.2.1 3 x0) dX12_rebind_324 (show mT[1]? = some (3, 0, 2860) from rfl) (by omega) (by omega) (by decide) (ra_F fArg_fr (by decide) (ra_o (by decide) (ra_F hF (by decide) (rfl)))) ?_
                have g28 := RG.a hR0 3 (x0)
                refine tm_if_eq (tgt := 355) dX12_rebind_325 (by decide) ⟨by omega, by omega⟩ (fun h32 => ?_) (fun h32 => ?_)
                · exact absurd h32 (by omega)
                · refine tm_aload_n dX12_rebind_328 rfl 4 rfl ?_
                  refine tm_iload dX12_rebind_329 0 rfl ?_
                  refine tm_iconst dX12_rebind_331 ?_
                  refine tm_aload_n dX12_rebind_332 rfl 4 rfl ?_
                  refine tm_get (k := 7) (v := .ref (b + 1 + 5)) lay_12 dX12_rebind_333 (by decide) fl12_26 rfl ?_
                  refine tm_iconst dX12_rebind_336 ?_
                  refine tm_iload_n dX12_rebind_337 rfl 2 rfl ?_
                  refine tm_imul dX12_rebind_338 ?_
                  refine tm_iconst dX12_rebind_339 ?_
                  refine tm_iadd dX12_rebind_340 ?_
                  refine tm_iald (z := (4 * x0) + 1) (v := (fArg (220 * r + i) (0) (σ.2.1 7 (4 * x0)) (σ.2.1 8 (4 * x0)) (sA 6 (220 * r + i) ((σ0.2.1 3 x0) + 2) σ)).2.1 7 ((4 * x0) + 1)) dX12_rebind_341 (show mT[5]? = some (7, 0, 11440) from rfl) (by omega) (by omega) (by decide) (rfl) ?_
                  have : (fArg (220 * r + i) (0) (σ.2.1 7 (4 * x0)) (σ.2.1 8 (4 * x0)) (sA 6 (220 * r + i) ((σ0.2.1 3 x0) + 2) σ)).2.1 7 ((4 * x0) + 1) = σ.2.1 7 ((4 * x0) + 1) := ra_o (by decide) (ra_ne (by omega) (ra_o (by decide) rfl))
                  refine tm_aload_n dX12_rebind_342 rfl 4 rfl ?_
                  refine tm_get (k := 8) (v := .ref (b + 1 + 6)) lay_12 dX12_rebind_343 (by decide) fl12_29 rfl ?_
                  refine tm_iconst dX12_rebind_346 ?_
                  refine tm_iload_n dX12_rebind_347 rfl 2 rfl ?_
                  refine tm_imul dX12_rebind_348 ?_
                  refine tm_iconst dX12_rebind_349 ?_
                  refine tm_iadd dX12_rebind_350 ?_
                  refine tm_iald (z := (4 * x0) + 1) (v := (fArg (220 * r + i) (0) (σ.2.1 7 (4 * x0)) (σ.2.1 8 (4 * x0)) (sA 6 (220 * r + i) ((σ0.2.1 3 x0) + 2) σ)).2.1 8 ((4 * x0) + 1)) dX12_rebind_351 (show mT[6]? = some (8, 0, 11440) from rfl) (by omega) (by omega) (by decide) (rfl) ?_
                  have : (fArg (220 * r + i) (0) (σ.2.1 7 (4 * x0)) (σ.2.1 8 (4 * x0)) (sA 6 (220 * r + i) ((σ0.2.1 3 x0) + 2) σ)).2.1 8 ((4 * x0) + 1) = σ.2.1 8 ((4 * x0) + 1) := ra_ne (by omega) (ra_o (by decide) (ra_o (by decide) rfl))
                  refine tm_callV (M := m_X12_rebind) (pc := 352) (ix := 298) (M' := m_X12_setArg) (As := [.int (iI (220 * r + i)), .int (iI 1), .int (iI ((fArg (220 * r + i) (0) (σ.2.1 7 (4 * x0)) (σ.2.1 8 (4 * x0)) (sA 6 (220 * r + i) ((σ0.2.1 3 x0) + 2) σ)).2.1 7 ((4 * x0) + 1))), .int (iI ((fArg (220 * r + i) (0) (σ.2.1 7 (4 * x0)) (σ.2.1 8 (4 * x0)) (sA 6 (220 * r + i) ((σ0.2.1 3 x0) + 2) σ)).2.1 8 ((4 * x0) + 1)))]) (rest := []) dX12_rebind_352 ok_X12_setArg im_X12_setArg se_X12_setArg ml12_298 np_X12_setArg rfl rfl (Nat.le_of_ble_eq_true rfl) (Nat.le_of_ble_eq_true rfl) rfl (c_X12_setArg (d) (σ := (fArg (220 * r + i) (0) (σ.2.1 7 (4 * x0)) (σ.2.1 8 (4 * x0)) (sA 6 (220 * r + i) ((σ0.2.1 3 x0) + 2) σ))) (x := 220 * r + i) (i := 1) (k := (fArg (220 * r + i) (0) (σ.2.1 7 (4 * x0)) (σ.2.1 8 (4 * x0)) (sA 6 (220 * r + i) ((σ0.2.1 3 x0) + 2) σ)).2.1 7 ((4 * x0) + 1)) (w := (fArg (220 * r + i) (0) (σ.2.1 7 (4 * x0)) (σ.2.1 8 (4 * x0)) (sA 6 (220 * r + i) ((σ0.2.1 3 x0) + 2) σ)).2.1 8 ((4 * x0) + 1)) (by omega)) (fun r33 σ34 hp => ?_)
                  obtain ⟨rfl, f36⟩ := hp
                  subst f36
                  show Tm _ _ 355 b (fArg (220 * r + i) (1) ((fArg (220 * r + i) (0) (σ.2.1 7 (4 * x0)) (σ.2.1 8 (4 * x0)) (sA 6 (220 * r + i) ((σ0.2.1 3 x0) + 2) σ)).2.1 7 ((4 * x0) + 1)) ((fArg (220 * r + i) (0) (σ.2.1 7 (4 * x0)) (σ.2.1 8 (4 * x0)) (sA 6 (220 * r + i) ((σ0.2.1 3 x0) + 2) σ)).2.1 8 ((4 * x0) + 1)) (fArg (220 * r + i) (0) (σ.2.1 7 (4 * x0)) (σ.2.1 8 (4 * x0)) (sA 6 (220 * r + i) ((σ0.2.1 3 x0) + 2) σ))) [(7, .int (iI (220 * r + i))), (6, .int (iI i)), (3, .int (iI x0)), (4, .int (iI g)), (0, .ref b), (1, .int (iI r)), (2, .int (iI k0))] [] _
                  refine tm_aload_n dX12_rebind_355 rfl 4 rfl ?_
                  refine tm_get (k := 47) (v := .ref (b + 1 + 25)) lay_12 dX12_rebind_356 (by decide) fl12_91 rfl ?_
                  refine tm_iload dX12_rebind_359 1 rfl ?_
                  refine tm_iconst dX12_rebind_361 ?_
                  refine tm_zast (z := i) (v := 0) dX12_rebind_362 (show mT[25]? = some (47, 2, 221) from rfl) (by omega) (by omega) (by decide) (by omega) ?_
                  refine tm_iinc (q0 := 1) (L' := [(6, .int (iI (i + 1))), (7, .int (iI (220 * r + i))), (3, .int (iI x0)), (4, .int (iI g)), (0, .ref b), (1, .int (iI r)), (2, .int (iI k0))]) dX12_rebind_363 rfl (by decide) rfl ?_
                  refine tm_goto (tgt := 170) dX12_rebind_366 (by decide) ?_
                  exact tm_sub [0, 2, 3, 4, 5, 6] rfl (ih _ (by omega) (i + 1) (sA 47 (i) (0) (fArg (220 * r + i) (1) ((fArg (220 * r + i) (0) (σ.2.1 7 (4 * x0)) (σ.2.1 8 (4 * x0)) (sA 6 (220 * r + i) ((σ0.2.1 3 x0) + 2) σ)).2.1 7 ((4 * x0) + 1)) ((fArg (220 * r + i) (0) (σ.2.1 7 (4 * x0)) (σ.2.1 8 (4 * x0)) (sA 6 (220 * r + i) ((σ0.2.1 3 x0) + 2) σ)).2.1 8 ((4 * x0) + 1)) (fArg (220 * r + i) (0) (σ.2.1 7 (4 * x0)) (σ.2.1 8 (4 * x0)) (sA 6 (220 * r + i) ((σ0.2.1 3 x0) + 2) σ)))) (((((Fr.rfl.trans (Fr.sub hF (by decide) (by decide) (by decide))).A (by decide)).trans (Fr.sub fArg_fr (by decide) (by decide) (by decide))).trans (Fr.sub fArg_fr (by decide) (by decide) (by decide))).A (by decide)) ((((hR.A (by omega)).arg (by omega) (by omega)).arg (by omega) (by omega)).A (by omega)) (by omega) (BO.A (hbo.fr (show Fr [] [6, 7, 8] [] σ _ from (((Fr.rfl.A (by decide)).trans (Fr.sub fArg_fr (by decide) (by decide) (by decide))).trans (Fr.sub fArg_fr (by decide) (by decide) (by decide)))) (by decide)) (by omega)) (OKS.fr (takB_off.oks hok (oki_takB (hok i (by omega) (by omega)) (by rw [q3]; omega) (by omega) (by omega) (by omega) (by omega) (by omega) (by omega))) ((Fr.rfl (ss := []) (ks := [47]) (js := [])).A (by decide)) (by decide)) ((hxo.trans (takB_off.xo (by omega) (by omega))).trans (XO.fr ((Fr.rfl (ss := []) (ks := [47]) (js := [])).A (by decide)) (by decide))) (hrb.take (by omega) (by omega) (by rw [← z9]; exact bnd_ri.mpr (by omega)) takB_off rfl (by rw [← hx0]; exact (tkB_ri (x := x0) (by omega) (by omega) (by omega) (by omega)))) rfl)
              · refine tm_aload_n dX12_rebind_276 rfl 4 rfl ?_
                refine tm_get (k := 7) (v := .ref (b + 1 + 5)) lay_12 dX12_rebind_277 (by decide) fl12_26 rfl ?_
                refine tm_iconst dX12_rebind_280 ?_
                refine tm_iload_n dX12_rebind_281 rfl 2 rfl ?_
                refine tm_imul dX12_rebind_282 ?_
                refine tm_iald (z := 4 * x0) (v := σ.2.1 7 (4 * x0)) dX12_rebind_283 (show mT[5]? = some (7, 0, 11440) from rfl) (by omega) (by omega) (by decide) (rfl) ?_
                have g37 := RG.a hR 7 (4 * x0)
                refine tm_goto (tgt := 295) dX12_rebind_284 (by decide) ?_
                refine tm_iast (z := 220 * r + i) (v := σ.2.1 7 (4 * x0)) dX12_rebind_295 (show mT[4]? = some (6, 0, 2860) from rfl) (by omega) (by omega) (by decide) ?_
                refine tm_aload_n dX12_rebind_296 rfl 4 rfl ?_
                refine tm_iload dX12_rebind_297 0 rfl ?_
                refine tm_iconst dX12_rebind_299 ?_
                refine tm_aload_n dX12_rebind_300 rfl 4 rfl ?_
                refine tm_get (k := 7) (v := .ref (b + 1 + 5)) lay_12 dX12_rebind_301 (by decide) fl12_26 rfl ?_
                refine tm_iconst dX12_rebind_304 ?_
                refine tm_iload_n dX12_rebind_305 rfl 2 rfl ?_
                refine tm_imul dX12_rebind_306 ?_
                refine tm_iald (z := 4 * x0) (v := σ.2.1 7 (4 * x0)) dX12_rebind_307 (show mT[5]? = some (7, 0, 11440) from rfl) (by omega) (by omega) (by decide) (ra_o (by decide) (rfl)) ?_
                have g38 := RG.a hR 7 (4 * x0)
                refine tm_aload_n dX12_rebind_308 rfl 4 rfl ?_
                refine tm_get (k := 8) (v := .ref (b + 1 + 6)) lay_12 dX12_rebind_309 (by decide) fl12_29 rfl ?_
                refine tm_iconst dX12_rebind_312 ?_
                refine tm_iload_n dX12_rebind_313 rfl 2 rfl ?_
                refine tm_imul dX12_rebind_314 ?_
                refine tm_iald (z := 4 * x0) (v := σ.2.1 8 (4 * x0)) dX12_rebind_315 (show mT[6]? = some (8, 0, 11440) from rfl) (by omega) (by omega) (by decide) (ra_o (by decide) (rfl)) ?_
                have g39 := RG.a hR 8 (4 * x0)
                refine tm_callV (M := m_X12_rebind) (pc := 316) (ix := 298) (M' := m_X12_setArg) (As := [.int (iI (220 * r + i)), .int (iI 0), .int (iI (σ.2.1 7 (4 * x0))), .int (iI (σ.2.1 8 (4 * x0)))]) (rest := []) dX12_rebind_316 ok_X12_setArg im_X12_setArg se_X12_setArg ml12_298 np_X12_setArg rfl rfl (Nat.le_of_ble_eq_true rfl) (Nat.le_of_ble_eq_true rfl) rfl (c_X12_setArg (d) (σ := (sA 6 (220 * r + i) (σ.2.1 7 (4 * x0)) σ)) (x := 220 * r + i) (i := 0) (k := σ.2.1 7 (4 * x0)) (w := σ.2.1 8 (4 * x0)) (by omega)) (fun r40 σ41 hp => ?_)
                obtain ⟨rfl, f43⟩ := hp
                subst f43
                show Tm _ _ 319 b (fArg (220 * r + i) (0) (σ.2.1 7 (4 * x0)) (σ.2.1 8 (4 * x0)) (sA 6 (220 * r + i) (σ.2.1 7 (4 * x0)) σ)) [(7, .int (iI (220 * r + i))), (6, .int (iI i)), (3, .int (iI x0)), (4, .int (iI g)), (0, .ref b), (1, .int (iI r)), (2, .int (iI k0))] [] _
                refine tm_aload_n dX12_rebind_319 rfl 4 rfl ?_
                refine tm_get (k := 3) (v := .ref (b + 1 + 1)) lay_12 dX12_rebind_320 (by decide) fl12_13 rfl ?_
                refine tm_iload_n dX12_rebind_323 rfl 2 rfl ?_
                refine tm_iald (z := x0) (v := σ0.2.1 3 x0) dX12_rebind_324 (show mT[1]? = some (3, 0, 2860) from rfl) (by omega) (by omega) (by decide) (ra_F fArg_fr (by decide) (ra_o (by decide) (ra_F hF (by decide) (rfl)))) ?_
                have g44 := RG.a hR0 3 (x0)
                refine tm_if_eq (tgt := 355) dX12_rebind_325 (by decide) ⟨by omega, by omega⟩ (fun h45 => ?_) (fun h45 => ?_)
                · refine tm_aload_n dX12_rebind_355 rfl 4 rfl ?_
                  refine tm_get (k := 47) (v := .ref (b + 1 + 25)) lay_12 dX12_rebind_356 (by decide) fl12_91 rfl ?_
                  refine tm_iload dX12_rebind_359 1 rfl ?_
                  refine tm_iconst dX12_rebind_361 ?_
                  refine tm_zast (z := i) (v := 0) dX12_rebind_362 (show mT[25]? = some (47, 2, 221) from rfl) (by omega) (by omega) (by decide) (by omega) ?_
                  refine tm_iinc (q0 := 1) (L' := [(6, .int (iI (i + 1))), (7, .int (iI (220 * r + i))), (3, .int (iI x0)), (4, .int (iI g)), (0, .ref b), (1, .int (iI r)), (2, .int (iI k0))]) dX12_rebind_363 rfl (by decide) rfl ?_
                  refine tm_goto (tgt := 170) dX12_rebind_366 (by decide) ?_
                  exact tm_sub [0, 2, 3, 4, 5, 6] rfl (ih _ (by omega) (i + 1) (sA 47 (i) (0) (fArg (220 * r + i) (0) (σ.2.1 7 (4 * x0)) (σ.2.1 8 (4 * x0)) (sA 6 (220 * r + i) (σ.2.1 7 (4 * x0)) σ))) ((((Fr.rfl.trans (Fr.sub hF (by decide) (by decide) (by decide))).A (by decide)).trans (Fr.sub fArg_fr (by decide) (by decide) (by decide))).A (by decide)) (((hR.A (by omega)).arg (by omega) (by omega)).A (by omega)) (by omega) (BO.A (hbo.fr (show Fr [] [6, 7, 8] [] σ _ from ((Fr.rfl.A (by decide)).trans (Fr.sub fArg_fr (by decide) (by decide) (by decide)))) (by decide)) (by omega)) (OKS.fr (takA_off.oks hok (oki_takA (hok i (by omega) (by omega)) (by rw [q3]; omega) (by omega) (by omega) (by omega))) ((Fr.rfl (ss := []) (ks := [47]) (js := [])).A (by decide)) (by decide)) ((hxo.trans (takA_off.xo (by omega) (by omega))).trans (XO.fr ((Fr.rfl (ss := []) (ks := [47]) (js := [])).A (by decide)) (by decide))) (hrb.take (by omega) (by omega) (by rw [← z9]; exact bnd_ri.mpr (by omega)) takA_off rfl (by rw [← hx0]; exact (tkA_ri (x := x0) (by omega)))) rfl)
                · exact absurd h45 (by omega)
      · refine tm_aload_n dX12_rebind_198 rfl 3 rfl ?_
        refine tm_get (k := 3) (v := .ref (b + 1 + 1)) lay_12 dX12_rebind_199 (by decide) fl12_13 rfl ?_
        refine tm_aload_n dX12_rebind_202 rfl 3 rfl ?_
        refine tm_iload_n dX12_rebind_203 rfl 4 rfl ?_
        refine tm_iload dX12_rebind_204 0 rfl ?_
        refine tm_callV (M := m_X12_rebind) (pc := 206) (ix := 203) (M' := m_X12_at) (As := [.int (iI r), .int (iI i)]) (rest := [.ref (b + 1 + 1)]) dX12_rebind_206 ok_X12_at im_X12_at se_X12_at ml12_203 np_X12_at rfl rfl (Nat.le_of_ble_eq_true rfl) (Nat.le_of_ble_eq_true rfl) rfl (c_X12_at (d) (σ := σ) (x := r) (k := i) ) (fun r46 σ47 hp => ?_)
        obtain ⟨v48, rfl, rfl, f49⟩ := hp
        subst f49
        show Tm _ _ 209 b σ [(6, .int (iI i)), (3, .int (iI x0)), (4, .int (iI g)), (0, .ref b), (1, .int (iI r)), (2, .int (iI k0))] [.int (iI (220 * r + i)), .ref (b + 1 + 1)] _
        refine tm_iald (z := 220 * r + i) (v := σ0.2.1 3 (220 * r + i)) dX12_rebind_209 (show mT[1]? = some (3, 0, 2860) from rfl) (by omega) (by omega) (by decide) (ra_F hF (by decide) (rfl)) ?_
        have g50 := RG.a hR0 3 (220 * r + i)
        refine tm_bipush dX12_rebind_210 (by decide) ?_
        refine tm_icmp_ne (tgt := 369) dX12_rebind_212 (by decide) ⟨by omega, by omega⟩ ⟨by decide, by decide⟩ (fun h51 => ?_) (fun h51 => ?_)
        · exact tm_sub [0, 1, 2, 3, 4, 5] rfl (hx_369 (i) σ (Fr.rfl.trans (Fr.sub hF (by decide) (by decide) (by decide))) hR hbo hok hxo ⟨i, hrb, by omega, by omega, by omega⟩)
        · refine tm_aload_n dX12_rebind_215 rfl 3 rfl ?_
          refine tm_iload_n dX12_rebind_216 rfl 4 rfl ?_
          refine tm_iload dX12_rebind_217 0 rfl ?_
          refine tm_callV (M := m_X12_rebind) (pc := 219) (ix := 203) (M' := m_X12_at) (As := [.int (iI r), .int (iI i)]) (rest := []) dX12_rebind_219 ok_X12_at im_X12_at se_X12_at ml12_203 np_X12_at rfl rfl (Nat.le_of_ble_eq_true rfl) (Nat.le_of_ble_eq_true rfl) rfl (c_X12_at (d) (σ := σ) (x := r) (k := i) ) (fun r52 σ53 hp => ?_)
          obtain ⟨v54, rfl, rfl, f55⟩ := hp
          subst f55
          show Tm _ _ 222 b σ [(6, .int (iI i)), (3, .int (iI x0)), (4, .int (iI g)), (0, .ref b), (1, .int (iI r)), (2, .int (iI k0))] [.int (iI (220 * r + i))] _
          refine tm_istore (L' := [(7, .int (iI (220 * r + i))), (6, .int (iI i)), (3, .int (iI x0)), (4, .int (iI g)), (0, .ref b), (1, .int (iI r)), (2, .int (iI k0))]) dX12_rebind_222 (by decide) rfl ?_
          refine tm_aload_n dX12_rebind_224 rfl 4 rfl ?_
          refine tm_get (k := 3) (v := .ref (b + 1 + 1)) lay_12 dX12_rebind_225 (by decide) fl12_13 rfl ?_
          refine tm_iload dX12_rebind_228 0 rfl ?_
          refine tm_iald (z := 220 * r + i) (v := σ0.2.1 3 (220 * r + i)) dX12_rebind_230 (show mT[1]? = some (3, 0, 2860) from rfl) (by omega) (by omega) (by decide) (ra_F hF (by decide) (rfl)) ?_
          have g56 := RG.a hR0 3 (220 * r + i)
          refine tm_bipush dX12_rebind_231 (by decide) ?_
          refine tm_icmp_ne (tgt := 363) dX12_rebind_233 (by decide) ⟨by omega, by omega⟩ ⟨by decide, by decide⟩ (fun h57 => ?_) (fun h57 => ?_)
          · exact absurd h57 (by omega)
          · refine tm_aload_n dX12_rebind_236 rfl 4 rfl ?_
            refine tm_get (k := 6) (v := .ref (b + 1 + 4)) lay_12 dX12_rebind_237 (by decide) fl12_23 rfl ?_
            refine tm_iload dX12_rebind_240 0 rfl ?_
            refine tm_iald (z := 220 * r + i) (v := σ.2.1 6 (220 * r + i)) dX12_rebind_242 (show mT[4]? = some (6, 0, 2860) from rfl) (by omega) (by omega) (by decide) (rfl) ?_
            have g58 := RG.a hR 6 (220 * r + i)
            refine tm_iconst dX12_rebind_243 ?_
            refine tm_icmp_ne (tgt := 363) dX12_rebind_244 (by decide) ⟨by omega, by omega⟩ ⟨by decide, by decide⟩ (fun h59 => ?_) (fun h59 => ?_)
            · refine tm_iinc (q0 := 1) (L' := [(6, .int (iI (i + 1))), (7, .int (iI (220 * r + i))), (3, .int (iI x0)), (4, .int (iI g)), (0, .ref b), (1, .int (iI r)), (2, .int (iI k0))]) dX12_rebind_363 rfl (by decide) rfl ?_
              refine tm_goto (tgt := 170) dX12_rebind_366 (by decide) ?_
              exact tm_sub [0, 2, 3, 4, 5, 6] rfl (ih _ (by omega) (i + 1) σ (Fr.rfl.trans (Fr.sub hF (by decide) (by decide) (by decide))) hR (by omega) hbo hok hxo (hrb.skip (by omega) (fun z => by have z1 := (bnd_ri (σ := σ0)).mp z; rw [← z9] at z; have z2 := bnd_ri.mp z; omega)) rfl)
            · refine tm_aload_n dX12_rebind_247 rfl 4 rfl ?_
              refine tm_get (k := 8) (v := .ref (b + 1 + 6)) lay_12 dX12_rebind_248 (by decide) fl12_29 rfl ?_
              refine tm_iconst dX12_rebind_251 ?_
              refine tm_iload dX12_rebind_252 0 rfl ?_
              refine tm_imul dX12_rebind_254 ?_
              refine tm_iald (z := 4 * (220 * r + i)) (v := σ.2.1 8 (4 * (220 * r + i))) dX12_rebind_255 (show mT[6]? = some (8, 0, 11440) from rfl) (by omega) (by omega) (by decide) (rfl) ?_
              have g60 := RG.a hR 8 (4 * (220 * r + i))
              refine tm_iload dX12_rebind_256 3 rfl ?_
              refine tm_icmp_ne (tgt := 363) dX12_rebind_258 (by decide) ⟨by omega, by omega⟩ ⟨by omega, by omega⟩ (fun h61 => ?_) (fun h61 => ?_)
              · refine tm_iinc (q0 := 1) (L' := [(6, .int (iI (i + 1))), (7, .int (iI (220 * r + i))), (3, .int (iI x0)), (4, .int (iI g)), (0, .ref b), (1, .int (iI r)), (2, .int (iI k0))]) dX12_rebind_363 rfl (by decide) rfl ?_
                refine tm_goto (tgt := 170) dX12_rebind_366 (by decide) ?_
                exact tm_sub [0, 2, 3, 4, 5, 6] rfl (ih _ (by omega) (i + 1) σ (Fr.rfl.trans (Fr.sub hF (by decide) (by decide) (by decide))) hR (by omega) hbo hok hxo (hrb.skip (by omega) (fun z => by have z1 := (bnd_ri (σ := σ0)).mp z; rw [← z9] at z; have z2 := bnd_ri.mp z; omega)) rfl)
              · refine tm_aload_n dX12_rebind_261 rfl 4 rfl ?_
                refine tm_get (k := 6) (v := .ref (b + 1 + 4)) lay_12 dX12_rebind_262 (by decide) fl12_23 rfl ?_
                refine tm_iload dX12_rebind_265 0 rfl ?_
                refine tm_aload_n dX12_rebind_267 rfl 4 rfl ?_
                refine tm_get (k := 3) (v := .ref (b + 1 + 1)) lay_12 dX12_rebind_268 (by decide) fl12_13 rfl ?_
                refine tm_iload_n dX12_rebind_271 rfl 2 rfl ?_
                refine tm_iald (z := x0) (v := σ0.2.1 3 x0) dX12_rebind_272 (show mT[1]? = some (3, 0, 2860) from rfl) (by omega) (by omega) (by decide) (ra_F hF (by decide) (rfl)) ?_
                have g62 := RG.a hR0 3 (x0)
                refine tm_if_ne (tgt := 287) dX12_rebind_273 (by decide) ⟨by omega, by omega⟩ (fun h63 => ?_) (fun h63 => ?_)
                · refine tm_aload_n dX12_rebind_287 rfl 4 rfl ?_
                  refine tm_get (k := 3) (v := .ref (b + 1 + 1)) lay_12 dX12_rebind_288 (by decide) fl12_13 rfl ?_
                  refine tm_iload_n dX12_rebind_291 rfl 2 rfl ?_
                  refine tm_iald (z := x0) (v := σ0.2.1 3 x0) dX12_rebind_292 (show mT[1]? = some (3, 0, 2860) from rfl) (by omega) (by omega) (by decide) (ra_F hF (by decide) (rfl)) ?_
                  have g64 := RG.a hR0 3 (x0)
                  refine tm_iconst dX12_rebind_293 ?_
                  refine tm_iadd dX12_rebind_294 ?_
                  refine tm_iast (z := 220 * r + i) (v := (σ0.2.1 3 x0) + 2) dX12_rebind_295 (show mT[4]? = some (6, 0, 2860) from rfl) (by omega) (by omega) (by decide) ?_
                  refine tm_aload_n dX12_rebind_296 rfl 4 rfl ?_
                  refine tm_iload dX12_rebind_297 0 rfl ?_
                  refine tm_iconst dX12_rebind_299 ?_
                  refine tm_aload_n dX12_rebind_300 rfl 4 rfl ?_
                  refine tm_get (k := 7) (v := .ref (b + 1 + 5)) lay_12 dX12_rebind_301 (by decide) fl12_26 rfl ?_
                  refine tm_iconst dX12_rebind_304 ?_
                  refine tm_iload_n dX12_rebind_305 rfl 2 rfl ?_
                  refine tm_imul dX12_rebind_306 ?_
                  refine tm_iald (z := 4 * x0) (v := σ.2.1 7 (4 * x0)) dX12_rebind_307 (show mT[5]? = some (7, 0, 11440) from rfl) (by omega) (by omega) (by decide) (ra_o (by decide) (rfl)) ?_
                  have g65 := RG.a hR 7 (4 * x0)
                  refine tm_aload_n dX12_rebind_308 rfl 4 rfl ?_
                  refine tm_get (k := 8) (v := .ref (b + 1 + 6)) lay_12 dX12_rebind_309 (by decide) fl12_29 rfl ?_
                  refine tm_iconst dX12_rebind_312 ?_
                  refine tm_iload_n dX12_rebind_313 rfl 2 rfl ?_
                  refine tm_imul dX12_rebind_314 ?_
                  refine tm_iald (z := 4 * x0) (v := σ.2.1 8 (4 * x0)) dX12_rebind_315 (show mT[6]? = some (8, 0, 11440) from rfl) (by omega) (by omega) (by decide) (ra_o (by decide) (rfl)) ?_
                  have g66 := RG.a hR 8 (4 * x0)
                  refine tm_callV (M := m_X12_rebind) (pc := 316) (ix := 298) (M' := m_X12_setArg) (As := [.int (iI (220 * r + i)), .int (iI 0), .int (iI (σ.2.1 7 (4 * x0))), .int (iI (σ.2.1 8 (4 * x0)))]) (rest := []) dX12_rebind_316 ok_X12_setArg im_X12_setArg se_X12_setArg ml12_298 np_X12_setArg rfl rfl (Nat.le_of_ble_eq_true rfl) (Nat.le_of_ble_eq_true rfl) rfl (c_X12_setArg (d) (σ := (sA 6 (220 * r + i) ((σ0.2.1 3 x0) + 2) σ)) (x := 220 * r + i) (i := 0) (k := σ.2.1 7 (4 * x0)) (w := σ.2.1 8 (4 * x0)) (by omega)) (fun r67 σ68 hp => ?_)
                  obtain ⟨rfl, f70⟩ := hp
                  subst f70
                  show Tm _ _ 319 b (fArg (220 * r + i) (0) (σ.2.1 7 (4 * x0)) (σ.2.1 8 (4 * x0)) (sA 6 (220 * r + i) ((σ0.2.1 3 x0) + 2) σ)) [(7, .int (iI (220 * r + i))), (6, .int (iI i)), (3, .int (iI x0)), (4, .int (iI g)), (0, .ref b), (1, .int (iI r)), (2, .int (iI k0))] [] _
                  refine tm_aload_n dX12_rebind_319 rfl 4 rfl ?_
                  refine tm_get (k := 3) (v := .ref (b + 1 + 1)) lay_12 dX12_rebind_320 (by decide) fl12_13 rfl ?_
                  refine tm_iload_n dX12_rebind_323 rfl 2 rfl ?_
                  refine tm_iald (z := x0) (v := σ0.2.1 3 x0) dX12_rebind_324 (show mT[1]? = some (3, 0, 2860) from rfl) (by omega) (by omega) (by decide) (ra_F fArg_fr (by decide) (ra_o (by decide) (ra_F hF (by decide) (rfl)))) ?_
                  have g71 := RG.a hR0 3 (x0)
                  refine tm_if_eq (tgt := 355) dX12_rebind_325 (by decide) ⟨by omega, by omega⟩ (fun h72 => ?_) (fun h72 => ?_)
                  · exact absurd h72 (by omega)
                  · refine tm_aload_n dX12_rebind_328 rfl 4 rfl ?_
                    refine tm_iload dX12_rebind_329 0 rfl ?_
                    refine tm_iconst dX12_rebind_331 ?_
                    refine tm_aload_n dX12_rebind_332 rfl 4 rfl ?_
                    refine tm_get (k := 7) (v := .ref (b + 1 + 5)) lay_12 dX12_rebind_333 (by decide) fl12_26 rfl ?_
                    refine tm_iconst dX12_rebind_336 ?_
                    refine tm_iload_n dX12_rebind_337 rfl 2 rfl ?_
                    refine tm_imul dX12_rebind_338 ?_
                    refine tm_iconst dX12_rebind_339 ?_
                    refine tm_iadd dX12_rebind_340 ?_
                    refine tm_iald (z := (4 * x0) + 1) (v := (fArg (220 * r + i) (0) (σ.2.1 7 (4 * x0)) (σ.2.1 8 (4 * x0)) (sA 6 (220 * r + i) ((σ0.2.1 3 x0) + 2) σ)).2.1 7 ((4 * x0) + 1)) dX12_rebind_341 (show mT[5]? = some (7, 0, 11440) from rfl) (by omega) (by omega) (by decide) (rfl) ?_
                    have : (fArg (220 * r + i) (0) (σ.2.1 7 (4 * x0)) (σ.2.1 8 (4 * x0)) (sA 6 (220 * r + i) ((σ0.2.1 3 x0) + 2) σ)).2.1 7 ((4 * x0) + 1) = σ.2.1 7 ((4 * x0) + 1) := ra_o (by decide) (ra_ne (by omega) (ra_o (by decide) rfl))
                    refine tm_aload_n dX12_rebind_342 rfl 4 rfl ?_
                    refine tm_get (k := 8) (v := .ref (b + 1 + 6)) lay_12 dX12_rebind_343 (by decide) fl12_29 rfl ?_
                    refine tm_iconst dX12_rebind_346 ?_
                    refine tm_iload_n dX12_rebind_347 rfl 2 rfl ?_
                    refine tm_imul dX12_rebind_348 ?_
                    refine tm_iconst dX12_rebind_349 ?_
                    refine tm_iadd dX12_rebind_350 ?_
                    refine tm_iald (z := (4 * x0) + 1) (v := (fArg (220 * r + i) (0) (σ.2.1 7 (4 * x0)) (σ.2.1 8 (4 * x0)) (sA 6 (220 * r + i) ((σ0.2.1 3 x0) + 2) σ)).2.1 8 ((4 * x0) + 1)) dX12_rebind_351 (show mT[6]? = some (8, 0, 11440) from rfl) (by omega) (by omega) (by decide) (rfl) ?_
                    have : (fArg (220 * r + i) (0) (σ.2.1 7 (4 * x0)) (σ.2.1 8 (4 * x0)) (sA 6 (220 * r + i) ((σ0.2.1 3 x0) + 2) σ)).2.1 8 ((4 * x0) + 1) = σ.2.1 8 ((4 * x0) + 1) := ra_ne (by omega) (ra_o (by decide) (ra_o (by decide) rfl))
                    refine tm_callV (M := m_X12_rebind) (pc := 352) (ix := 298) (M' := m_X12_setArg) (As := [.int (iI (220 * r + i)), .int (iI 1), .int (iI ((fArg (220 * r + i) (0) (σ.2.1 7 (4 * x0)) (σ.2.1 8 (4 * x0)) (sA 6 (220 * r + i) ((σ0.2.1 3 x0) + 2) σ)).2.1 7 ((4 * x0) + 1))), .int (iI ((fArg (220 * r + i) (0) (σ.2.1 7 (4 * x0)) (σ.2.1 8 (4 * x0)) (sA 6 (220 * r + i) ((σ0.2.1 3 x0) + 2) σ)).2.1 8 ((4 * x0) + 1)))]) (rest := []) dX12_rebind_352 ok_X12_setArg im_X12_setArg se_X12_setArg ml12_298 np_X12_setArg rfl rfl (Nat.le_of_ble_eq_true rfl) (Nat.le_of_ble_eq_true rfl) rfl (c_X12_setArg (d) (σ := (fArg (220 * r + i) (0) (σ.2.1 7 (4 * x0)) (σ.2.1 8 (4 * x0)) (sA 6 (220 * r + i) ((σ0.2.1 3 x0) + 2) σ))) (x := 220 * r + i) (i := 1) (k := (fArg (220 * r + i) (0) (σ.2.1 7 (4 * x0)) (σ.2.1 8 (4 * x0)) (sA 6 (220 * r + i) ((σ0.2.1 3 x0) + 2) σ)).2.1 7 ((4 * x0) + 1)) (w := (fArg (220 * r + i) (0) (σ.2.1 7 (4 * x0)) (σ.2.1 8 (4 * x0)) (sA 6 (220 * r + i) ((σ0.2.1 3 x0) + 2) σ)).2.1 8 ((4 * x0) + 1)) (by omega)) (fun r73 σ74 hp => ?_)
                    obtain ⟨rfl, f76⟩ := hp
                    subst f76
                    show Tm _ _ 355 b (fArg (220 * r + i) (1) ((fArg (220 * r + i) (0) (σ.2.1 7 (4 * x0)) (σ.2.1 8 (4 * x0)) (sA 6 (220 * r + i) ((σ0.2.1 3 x0) + 2) σ)).2.1 7 ((4 * x0) + 1)) ((fArg (220 * r + i) (0) (σ.2.1 7 (4 * x0)) (σ.2.1 8 (4 * x0)) (sA 6 (220 * r + i) ((σ0.2.1 3 x0) + 2) σ)).2.1 8 ((4 * x0) + 1)) (fArg (220 * r + i) (0) (σ.2.1 7 (4 * x0)) (σ.2.1 8 (4 * x0)) (sA 6 (220 * r + i) ((σ0.2.1 3 x0) + 2) σ))) [(7, .int (iI (220 * r + i))), (6, .int (iI i)), (3, .int (iI x0)), (4, .int (iI g)), (0, .ref b), (1, .int (iI r)), (2, .int (iI k0))] [] _
                    refine tm_aload_n dX12_rebind_355 rfl 4 rfl ?_
                    refine tm_get (k := 47) (v := .ref (b + 1 + 25)) lay_12 dX12_rebind_356 (by decide) fl12_91 rfl ?_
                    refine tm_iload dX12_rebind_359 1 rfl ?_
                    refine tm_iconst dX12_rebind_361 ?_
                    refine tm_zast (z := i) (v := 0) dX12_rebind_362 (show mT[25]? = some (47, 2, 221) from rfl) (by omega) (by omega) (by decide) (by omega) ?_
                    refine tm_iinc (q0 := 1) (L' := [(6, .int (iI (i + 1))), (7, .int (iI (220 * r + i))), (3, .int (iI x0)), (4, .int (iI g)), (0, .ref b), (1, .int (iI r)), (2, .int (iI k0))]) dX12_rebind_363 rfl (by decide) rfl ?_
                    refine tm_goto (tgt := 170) dX12_rebind_366 (by decide) ?_
                    exact tm_sub [0, 2, 3, 4, 5, 6] rfl (ih _ (by omega) (i + 1) (sA 47 (i) (0) (fArg (220 * r + i) (1) ((fArg (220 * r + i) (0) (σ.2.1 7 (4 * x0)) (σ.2.1 8 (4 * x0)) (sA 6 (220 * r + i) ((σ0.2.1 3 x0) + 2) σ)).2.1 7 ((4 * x0) + 1)) ((fArg (220 * r + i) (0) (σ.2.1 7 (4 * x0)) (σ.2.1 8 (4 * x0)) (sA 6 (220 * r + i) ((σ0.2.1 3 x0) + 2) σ)).2.1 8 ((4 * x0) + 1)) (fArg (220 * r + i) (0) (σ.2.1 7 (4 * x0)) (σ.2.1 8 (4 * x0)) (sA 6 (220 * r + i) ((σ0.2.1 3 x0) + 2) σ)))) (((((Fr.rfl.trans (Fr.sub hF (by decide) (by decide) (by decide))).A (by decide)).trans (Fr.sub fArg_fr (by decide) (by decide) (by decide))).trans (Fr.sub fArg_fr (by decide) (by decide) (by decide))).A (by decide)) ((((hR.A (by omega)).arg (by omega) (by omega)).arg (by omega) (by omega)).A (by omega)) (by omega) (BO.A (hbo.fr (show Fr [] [6, 7, 8] [] σ _ from (((Fr.rfl.A (by decide)).trans (Fr.sub fArg_fr (by decide) (by decide) (by decide))).trans (Fr.sub fArg_fr (by decide) (by decide) (by decide)))) (by decide)) (by omega)) (OKS.fr (takB_off.oks hok (oki_takB (hok i (by omega) (by omega)) (by rw [q3]; omega) (by omega) (by omega) (by omega) (by omega) (by omega) (by omega))) ((Fr.rfl (ss := []) (ks := [47]) (js := [])).A (by decide)) (by decide)) ((hxo.trans (takB_off.xo (by omega) (by omega))).trans (XO.fr ((Fr.rfl (ss := []) (ks := [47]) (js := [])).A (by decide)) (by decide))) (hrb.take (by omega) (by omega) (by rw [← z9]; exact bnd_ri.mpr (by omega)) takB_off rfl (by rw [← hx0]; exact (tkB_ri (x := x0) (by omega) (by omega) (by omega) (by omega)))) rfl)
                · refine tm_aload_n dX12_rebind_276 rfl 4 rfl ?_
                  refine tm_get (k := 7) (v := .ref (b + 1 + 5)) lay_12 dX12_rebind_277 (by decide) fl12_26 rfl ?_
                  refine tm_iconst dX12_rebind_280 ?_
                  refine tm_iload_n dX12_rebind_281 rfl 2 rfl ?_
                  refine tm_imul dX12_rebind_282 ?_
                  refine tm_iald (z := 4 * x0) (v := σ.2.1 7 (4 * x0)) dX12_rebind_283 (show mT[5]? = some (7, 0, 11440) from rfl) (by omega) (by omega) (by decide) (rfl) ?_
                  have g77 := RG.a hR 7 (4 * x0)
                  refine tm_goto (tgt := 295) dX12_rebind_284 (by decide) ?_
                  refine tm_iast (z := 220 * r + i) (v := σ.2.1 7 (4 * x0)) dX12_rebind_295 (show mT[4]? = some (6, 0, 2860) from rfl) (by omega) (by omega) (by decide) ?_
                  refine tm_aload_n dX12_rebind_296 rfl 4 rfl ?_
                  refine tm_iload dX12_rebind_297 0 rfl ?_
                  refine tm_iconst dX12_rebind_299 ?_
                  refine tm_aload_n dX12_rebind_300 rfl 4 rfl ?_
                  refine tm_get (k := 7) (v := .ref (b + 1 + 5)) lay_12 dX12_rebind_301 (by decide) fl12_26 rfl ?_
                  refine tm_iconst dX12_rebind_304 ?_
                  refine tm_iload_n dX12_rebind_305 rfl 2 rfl ?_
                  refine tm_imul dX12_rebind_306 ?_
                  refine tm_iald (z := 4 * x0) (v := σ.2.1 7 (4 * x0)) dX12_rebind_307 (show mT[5]? = some (7, 0, 11440) from rfl) (by omega) (by omega) (by decide) (ra_o (by decide) (rfl)) ?_
                  have g78 := RG.a hR 7 (4 * x0)
                  refine tm_aload_n dX12_rebind_308 rfl 4 rfl ?_
                  refine tm_get (k := 8) (v := .ref (b + 1 + 6)) lay_12 dX12_rebind_309 (by decide) fl12_29 rfl ?_
                  refine tm_iconst dX12_rebind_312 ?_
                  refine tm_iload_n dX12_rebind_313 rfl 2 rfl ?_
                  refine tm_imul dX12_rebind_314 ?_
                  refine tm_iald (z := 4 * x0) (v := σ.2.1 8 (4 * x0)) dX12_rebind_315 (show mT[6]? = some (8, 0, 11440) from rfl) (by omega) (by omega) (by decide) (ra_o (by decide) (rfl)) ?_
                  have g79 := RG.a hR 8 (4 * x0)
                  refine tm_callV (M := m_X12_rebind) (pc := 316) (ix := 298) (M' := m_X12_setArg) (As := [.int (iI (220 * r + i)), .int (iI 0), .int (iI (σ.2.1 7 (4 * x0))), .int (iI (σ.2.1 8 (4 * x0)))]) (rest := []) dX12_rebind_316 ok_X12_setArg im_X12_setArg se_X12_setArg ml12_298 np_X12_setArg rfl rfl (Nat.le_of_ble_eq_true rfl) (Nat.le_of_ble_eq_true rfl) rfl (c_X12_setArg (d) (σ := (sA 6 (220 * r + i) (σ.2.1 7 (4 * x0)) σ)) (x := 220 * r + i) (i := 0) (k := σ.2.1 7 (4 * x0)) (w := σ.2.1 8 (4 * x0)) (by omega)) (fun r80 σ81 hp => ?_)
                  obtain ⟨rfl, f83⟩ := hp
                  subst f83
                  show Tm _ _ 319 b (fArg (220 * r + i) (0) (σ.2.1 7 (4 * x0)) (σ.2.1 8 (4 * x0)) (sA 6 (220 * r + i) (σ.2.1 7 (4 * x0)) σ)) [(7, .int (iI (220 * r + i))), (6, .int (iI i)), (3, .int (iI x0)), (4, .int (iI g)), (0, .ref b), (1, .int (iI r)), (2, .int (iI k0))] [] _
                  refine tm_aload_n dX12_rebind_319 rfl 4 rfl ?_
                  refine tm_get (k := 3) (v := .ref (b + 1 + 1)) lay_12 dX12_rebind_320 (by decide) fl12_13 rfl ?_
                  refine tm_iload_n dX12_rebind_323 rfl 2 rfl ?_
                  refine tm_iald (z := x0) (v := σ0.2.1 3 x0) dX12_rebind_324 (show mT[1]? = some (3, 0, 2860) from rfl) (by omega) (by omega) (by decide) (ra_F fArg_fr (by decide) (ra_o (by decide) (ra_F hF (by decide) (rfl)))) ?_
                  have g84 := RG.a hR0 3 (x0)
                  refine tm_if_eq (tgt := 355) dX12_rebind_325 (by decide) ⟨by omega, by omega⟩ (fun h85 => ?_) (fun h85 => ?_)
                  · refine tm_aload_n dX12_rebind_355 rfl 4 rfl ?_
                    refine tm_get (k := 47) (v := .ref (b + 1 + 25)) lay_12 dX12_rebind_356 (by decide) fl12_91 rfl ?_
                    refine tm_iload dX12_rebind_359 1 rfl ?_
                    refine tm_iconst dX12_rebind_361 ?_
                    refine tm_zast (z := i) (v := 0) dX12_rebind_362 (show mT[25]? = some (47, 2, 221) from rfl) (by omega) (by omega) (by decide) (by omega) ?_
                    refine tm_iinc (q0 := 1) (L' := [(6, .int (iI (i + 1))), (7, .int (iI (220 * r + i))), (3, .int (iI x0)), (4, .int (iI g)), (0, .ref b), (1, .int (iI r)), (2, .int (iI k0))]) dX12_rebind_363 rfl (by decide) rfl ?_
                    refine tm_goto (tgt := 170) dX12_rebind_366 (by decide) ?_
                    exact tm_sub [0, 2, 3, 4, 5, 6] rfl (ih _ (by omega) (i + 1) (sA 47 (i) (0) (fArg (220 * r + i) (0) (σ.2.1 7 (4 * x0)) (σ.2.1 8 (4 * x0)) (sA 6 (220 * r + i) (σ.2.1 7 (4 * x0)) σ))) ((((Fr.rfl.trans (Fr.sub hF (by decide) (by decide) (by decide))).A (by decide)).trans (Fr.sub fArg_fr (by decide) (by decide) (by decide))).A (by decide)) (((hR.A (by omega)).arg (by omega) (by omega)).A (by omega)) (by omega) (BO.A (hbo.fr (show Fr [] [6, 7, 8] [] σ _ from ((Fr.rfl.A (by decide)).trans (Fr.sub fArg_fr (by decide) (by decide) (by decide)))) (by decide)) (by omega)) (OKS.fr (takA_off.oks hok (oki_takA (hok i (by omega) (by omega)) (by rw [q3]; omega) (by omega) (by omega) (by omega))) ((Fr.rfl (ss := []) (ks := [47]) (js := [])).A (by decide)) (by decide)) ((hxo.trans (takA_off.xo (by omega) (by omega))).trans (XO.fr ((Fr.rfl (ss := []) (ks := [47]) (js := [])).A (by decide)) (by decide))) (hrb.take (by omega) (by omega) (by rw [← z9]; exact bnd_ri.mpr (by omega)) takA_off rfl (by rw [← hx0]; exact (tkA_ri (x := x0) (by omega)))) rfl)
                  · exact absurd h85 (by omega)
set_option maxHeartbeats 1000000 in
set_option maxRecDepth 20000 in
theorem f_reb6 (d : Nat) {b : Nat} {σ0 : MS} {r : Int} {F : Int} {g : Int} {post : Option Value → MS → Prop} (hr : 0 ≤ r ∧ r < 6) (hR0 : RG σ0) (hit : ITM σ0) (hpar : PAR σ0) (hbo : BO 47 σ0) (h_g : -2147483648 ≤ g ∧ g ≤ 2147483647) (hx_458 : ∀ (k : Int) (σ : MS) , (Fr [] [6, 7, 8] [] σ0 σ) → (RG σ) → (OKS σ F r) → (XO r σ0 σ) → (RB6 σ0 σ r (σ0.2.1 9 r) g (σ0.2.1 9 r)) → Tm (d + 5) m_X12_rebind 458 b σ [(6, .int (iI k)), (4, .int (iI g)), (0, .ref b), (1, .int (iI r))] [] post) : ∀ (n : Nat) (k : Int) (σ : MS) , (Fr [] [6, 7, 8] [] σ0 σ) → (RG σ) → (0 ≤ k ∧ k ≤ σ0.2.1 9 r) → (OKS σ F r) → (XO r σ0 σ) → (RB6 σ0 σ r (σ0.2.1 9 r) g k) → (220 - k).toNat = n → Tm (d + 5) m_X12_rebind 372 b σ [(6, .int (iI k)), (4, .int (iI g)), (0, .ref b), (1, .int (iI r))] [] post := by
  intro n
  induction n using Nat.strongRecOn with
  | _ n ih =>
    intro k σ hF hR h0 hok hxo hr6 hm
    have q1 := hit r (by omega) (by omega)
    have q9 : σ.2.1 9 r = σ0.2.1 9 r := by rw [hF.2.1 9 (by decide)]
    have q3 : σ.2.1 3 = σ0.2.1 3 := hF.2.1 3 (by decide)
    have hpar1 := hpar.fr hF (by decide)
    refine tm_iload dX12_rebind_372 0 rfl ?_
    refine tm_aload_n dX12_rebind_374 rfl 2 rfl ?_
    refine tm_get (k := 9) (v := .ref (b + 1 + 7)) lay_12 dX12_rebind_375 (by decide) fl12_32 rfl ?_
    refine tm_iload_n dX12_rebind_378 rfl 3 rfl ?_
    refine tm_iald (z := r) (v := σ0.2.1 9 r) dX12_rebind_379 (show mT[7]? = some (9, 0, 13) from rfl) (by omega) (by omega) (by decide) (ra_F hF (by decide) (rfl)) ?_
    have g1 := RG.a hR0 9 (r)
    refine tm_icmp_ge (tgt := 458) dX12_rebind_380 (by decide) ⟨by omega, by omega⟩ ⟨by omega, by omega⟩ (fun h2 => ?_) (fun h2 => ?_)
    · exact tm_sub [0, 1, 2, 3] rfl (hx_458 (k) σ (Fr.rfl.trans (Fr.sub hF (by decide) (by decide) (by decide))) hR hok hxo (by rw [show (RB6 σ0 σ r (σ0.2.1 9 r) g (σ0.2.1 9 r)) = (RB6 σ0 σ r (σ0.2.1 9 r) g k) by rw [show k = σ0.2.1 9 r by omega]]; exact hr6))
    · have e3k : σ.2.1 3 (220 * r + k) = σ0.2.1 3 (220 * r + k) := congrFun q3 _
      have z6 := hr6.at (j := k) (by omega) (by omega) (Int.le_refl k)
      refine tm_aload_n dX12_rebind_383 rfl 2 rfl ?_
      refine tm_iload_n dX12_rebind_384 rfl 3 rfl ?_
      refine tm_iload dX12_rebind_385 0 rfl ?_
      refine tm_callV (M := m_X12_rebind) (pc := 387) (ix := 203) (M' := m_X12_at) (As := [.int (iI r), .int (iI k)]) (rest := []) dX12_rebind_387 ok_X12_at im_X12_at se_X12_at ml12_203 np_X12_at rfl rfl (Nat.le_of_ble_eq_true rfl) (Nat.le_of_ble_eq_true rfl) rfl (c_X12_at (d + 3) (σ := σ) (x := r) (k := k) ) (fun r3 σ4 hp => ?_)
      obtain ⟨v5, rfl, rfl, f6⟩ := hp
      subst f6
      show Tm _ _ 390 b σ [(6, .int (iI k)), (4, .int (iI g)), (0, .ref b), (1, .int (iI r))] [.int (iI (220 * r + k))] _
      refine tm_istore (L' := [(7, .int (iI (220 * r + k))), (6, .int (iI k)), (4, .int (iI g)), (0, .ref b), (1, .int (iI r))]) dX12_rebind_390 (by decide) rfl ?_
      refine tm_aload_n dX12_rebind_392 rfl 3 rfl ?_
      refine tm_get (k := 47) (v := .ref (b + 1 + 25)) lay_12 dX12_rebind_393 (by decide) fl12_91 rfl ?_
      refine tm_iload dX12_rebind_396 1 rfl ?_
      refine tm_zald (z := k) (v := σ0.2.1 47 k) dX12_rebind_398 (show mT[25]? = some (47, 2, 221) from rfl) (by omega) (by omega) (by decide) (ra_F hF (by decide) (rfl)) ?_
      have g7 := RG.a hR0 47 (k)
      have := hbo (k)
      refine tm_if_eq (tgt := 452) dX12_rebind_399 (by decide) ⟨by omega, by omega⟩ (fun h8 => ?_) (fun h8 => ?_)
      · refine tm_iinc (q0 := 1) (L' := [(6, .int (iI (k + 1))), (7, .int (iI (220 * r + k))), (4, .int (iI g)), (0, .ref b), (1, .int (iI r))]) dX12_rebind_452 rfl (by decide) rfl ?_
        refine tm_goto (tgt := 372) dX12_rebind_455 (by decide) ?_
        exact tm_sub [0, 2, 3, 4] rfl (ih _ (by omega) (k + 1) σ (Fr.rfl.trans (Fr.sub hF (by decide) (by decide) (by decide))) hR (by omega) hok hxo (hr6.skip (fun z => by rw [← z6] at z; have z3 : σ.2.1 3 (220 * r + k) = 12 := z.2.1; omega)) rfl)
      · refine tm_aload_n dX12_rebind_402 rfl 3 rfl ?_
        refine tm_get (k := 3) (v := .ref (b + 1 + 1)) lay_12 dX12_rebind_403 (by decide) fl12_13 rfl ?_
        refine tm_iload dX12_rebind_406 0 rfl ?_
        refine tm_iald (z := 220 * r + k) (v := σ0.2.1 3 (220 * r + k)) dX12_rebind_408 (show mT[1]? = some (3, 0, 2860) from rfl) (by omega) (by omega) (by decide) (ra_F hF (by decide) (rfl)) ?_
        have g9 := RG.a hR0 3 (220 * r + k)
        refine tm_bipush dX12_rebind_409 (by decide) ?_
        refine tm_icmp_ne (tgt := 452) dX12_rebind_411 (by decide) ⟨by omega, by omega⟩ ⟨by decide, by decide⟩ (fun h10 => ?_) (fun h10 => ?_)
        · refine tm_iinc (q0 := 1) (L' := [(6, .int (iI (k + 1))), (7, .int (iI (220 * r + k))), (4, .int (iI g)), (0, .ref b), (1, .int (iI r))]) dX12_rebind_452 rfl (by decide) rfl ?_
          refine tm_goto (tgt := 372) dX12_rebind_455 (by decide) ?_
          exact tm_sub [0, 2, 3, 4] rfl (ih _ (by omega) (k + 1) σ (Fr.rfl.trans (Fr.sub hF (by decide) (by decide) (by decide))) hR (by omega) hok hxo (hr6.skip (fun z => by rw [← z6] at z; have z3 : σ.2.1 3 (220 * r + k) = 12 := z.2.1; omega)) rfl)
        · refine tm_aload_n dX12_rebind_414 rfl 3 rfl ?_
          refine tm_iload dX12_rebind_415 0 rfl ?_
          refine tm_iload dX12_rebind_417 2 rfl ?_
          refine tm_callV (M := m_X12_rebind) (pc := 419) (ix := 439) (M' := m_X12_leansOn) (As := [.int (iI (220 * r + k)), .int (iI g)]) (rest := []) dX12_rebind_419 ok_X12_leansOn im_X12_leansOn se_X12_leansOn ml12_439 np_X12_leansOn rfl rfl (Nat.le_of_ble_eq_true rfl) (Nat.le_of_ble_eq_true rfl) rfl (c_X12_leansOn (d) (σ := σ) (x := 220 * r + k) (g := g) (by omega) hR (hok.of (by omega) (by omega)) (hpar.fr hF (by decide)) (by omega)) (fun r11 σ12 hp => ?_)
          obtain ⟨v13, rfl, rfl, f14, f15⟩ := hp
          show Tm _ _ 422 b σ [(7, .int (iI (220 * r + k))), (6, .int (iI k)), (4, .int (iI g)), (0, .ref b), (1, .int (iI r))] [.int (iI v13)] _
          have hLN := f15
          refine tm_if_eq (tgt := 452) dX12_rebind_422 (by decide) ⟨by omega, by omega⟩ (fun h16 => ?_) (fun h16 => ?_)
          · refine tm_iinc (q0 := 1) (L' := [(6, .int (iI (k + 1))), (7, .int (iI (220 * r + k))), (4, .int (iI g)), (0, .ref b), (1, .int (iI r))]) dX12_rebind_452 rfl (by decide) rfl ?_
            refine tm_goto (tgt := 372) dX12_rebind_455 (by decide) ?_
            exact tm_sub [0, 2, 3, 4] rfl (ih _ (by omega) (k + 1) σ (Fr.rfl.trans (Fr.sub hF (by decide) (by decide) (by decide))) hR (by omega) hok hxo (hr6.skip (fun z => by rw [← z6] at z; have z3 : σ.2.1 3 (220 * r + k) = 12 := z.2.1; have z4 := hLN.mpr (((hok k (by omega) (by omega)).lean (nArgs_4 (hok k (by omega) (by omega)) hpar1).2).mpr z.2.2); omega)) rfl)
          · refine tm_aload_n dX12_rebind_425 rfl 3 rfl ?_
            refine tm_get (k := 6) (v := .ref (b + 1 + 4)) lay_12 dX12_rebind_426 (by decide) fl12_23 rfl ?_
            refine tm_iload dX12_rebind_429 0 rfl ?_
            refine tm_bipush dX12_rebind_431 (by decide) ?_
            refine tm_iast (z := 220 * r + k) (v := 12) dX12_rebind_433 (show mT[4]? = some (6, 0, 2860) from rfl) (by omega) (by omega) (by decide) ?_
            refine tm_aload_n dX12_rebind_434 rfl 3 rfl ?_
            refine tm_iload dX12_rebind_435 0 rfl ?_
            refine tm_iconst dX12_rebind_437 ?_
            refine tm_iconst dX12_rebind_438 ?_
            refine tm_iconst dX12_rebind_439 ?_
            refine tm_callV (M := m_X12_rebind) (pc := 440) (ix := 298) (M' := m_X12_setArg) (As := [.int (iI (220 * r + k)), .int (iI 0), .int (iI 0), .int (iI 0)]) (rest := []) dX12_rebind_440 ok_X12_setArg im_X12_setArg se_X12_setArg ml12_298 np_X12_setArg rfl rfl (Nat.le_of_ble_eq_true rfl) (Nat.le_of_ble_eq_true rfl) rfl (c_X12_setArg (d + 3) (σ := (sA 6 (220 * r + k) (12) σ)) (x := 220 * r + k) (i := 0) (k := 0) (w := 0) (by omega)) (fun r17 σ18 hp => ?_)
            obtain ⟨rfl, f20⟩ := hp
            subst f20
            show Tm _ _ 443 b (fArg (220 * r + k) (0) (0) (0) (sA 6 (220 * r + k) (12) σ)) [(7, .int (iI (220 * r + k))), (6, .int (iI k)), (4, .int (iI g)), (0, .ref b), (1, .int (iI r))] [] _
            refine tm_aload_n dX12_rebind_443 rfl 3 rfl ?_
            refine tm_iload dX12_rebind_444 0 rfl ?_
            refine tm_iconst dX12_rebind_446 ?_
            refine tm_iconst dX12_rebind_447 ?_
            refine tm_iconst dX12_rebind_448 ?_
            refine tm_callV (M := m_X12_rebind) (pc := 449) (ix := 298) (M' := m_X12_setArg) (As := [.int (iI (220 * r + k)), .int (iI 1), .int (iI 0), .int (iI 0)]) (rest := []) dX12_rebind_449 ok_X12_setArg im_X12_setArg se_X12_setArg ml12_298 np_X12_setArg rfl rfl (Nat.le_of_ble_eq_true rfl) (Nat.le_of_ble_eq_true rfl) rfl (c_X12_setArg (d + 3) (σ := (fArg (220 * r + k) (0) (0) (0) (sA 6 (220 * r + k) (12) σ))) (x := 220 * r + k) (i := 1) (k := 0) (w := 0) (by omega)) (fun r21 σ22 hp => ?_)
            obtain ⟨rfl, f24⟩ := hp
            subst f24
            show Tm _ _ 452 b (fArg (220 * r + k) (1) (0) (0) (fArg (220 * r + k) (0) (0) (0) (sA 6 (220 * r + k) (12) σ))) [(7, .int (iI (220 * r + k))), (6, .int (iI k)), (4, .int (iI g)), (0, .ref b), (1, .int (iI r))] [] _
            refine tm_iinc (q0 := 1) (L' := [(6, .int (iI (k + 1))), (7, .int (iI (220 * r + k))), (4, .int (iI g)), (0, .ref b), (1, .int (iI r))]) dX12_rebind_452 rfl (by decide) rfl ?_
            refine tm_goto (tgt := 372) dX12_rebind_455 (by decide) ?_
            exact tm_sub [0, 2, 3, 4] rfl (ih _ (by omega) (k + 1) (fArg (220 * r + k) (1) (0) (0) (fArg (220 * r + k) (0) (0) (0) (sA 6 (220 * r + k) (12) σ))) ((((Fr.rfl.trans (Fr.sub hF (by decide) (by decide) (by decide))).A (by decide)).trans (Fr.sub fArg_fr (by decide) (by decide) (by decide))).trans (Fr.sub fArg_fr (by decide) (by decide) (by decide))) (((hR.A (by omega)).arg (by decide) (by decide)).arg (by decide) (by decide)) (by omega) (fGone_off.oks hok (fGone_oki (hok k (by omega) (by omega)) (by rw [q3]; assumption) (by decide))) (hxo.trans (fGone_off.xo (by omega) (by omega))) (hr6.take (by omega) ⟨by omega, by rw [← z6]; show σ.2.1 3 _ = 12; omega, by rw [← z6]; exact ((hok k (by omega) (by omega)).lean (nArgs_4 (hok k (by omega) (by omega)) hpar1).2).mp (hLN.mp (by omega))⟩) rfl)
set_option maxHeartbeats 1000000 in
set_option maxRecDepth 20000 in
theorem f_X12_rebind (d : Nat) {b : Nat} {σ : MS} {r : Int} {k0 : Int} {F : Int} (hr : 0 ≤ r ∧ r < 6) (hR : RG σ) (hit : ITM σ) (hpar : PAR σ) (hok : OKS σ F r) (htd : TGD σ r) (hbo : BO 47 σ) (hk : 0 ≤ k0 ∧ k0 < σ.2.1 9 r) (hk5 : σ.2.1 3 (220 * r + k0) ≤ 5) (hu : UNQ (rV σ r) (σ.2.1 9 r)) : Tm (d + 6) m_X12_rebind 0 b σ [(0, .ref b), (1, .int (iI r)), (2, .int (iI k0))] [] (fun ro σ2 => ro = none ∧ (Fr [] [6, 7, 8, 47] [] σ σ2) ∧ (RG σ2) ∧ (OKS σ2 F r) ∧ (XO r σ σ2) ∧ (BO 47 σ2) ∧ (rV σ2 r = rbV (rV σ r) (σ.2.1 9 r) k0)) := by
  have q1 := hit r (by omega) (by omega)
  have hgd := hok.dest (k := k0) (by omega) (by omega) (Or.inl hk5)
  have htg := htd.tgt
  refine tm_aload_n dX12_rebind_0 rfl 0 rfl ?_
  refine tm_iload_n dX12_rebind_1 rfl 1 rfl ?_
  refine tm_iload_n dX12_rebind_2 rfl 2 rfl ?_
  refine tm_callV (M := m_X12_rebind) (pc := 3) (ix := 203) (M' := m_X12_at) (As := [.int (iI r), .int (iI k0)]) (rest := []) dX12_rebind_3 ok_X12_at im_X12_at se_X12_at ml12_203 np_X12_at rfl rfl (Nat.le_of_ble_eq_true rfl) (Nat.le_of_ble_eq_true rfl) rfl (c_X12_at (d + 4) (σ := σ) (x := r) (k := k0) ) (fun r1 σ2 hp => ?_)
  obtain ⟨v3, rfl, rfl, f4⟩ := hp
  subst f4
  show Tm _ _ 6 b σ [(0, .ref b), (1, .int (iI r)), (2, .int (iI k0))] [.int (iI (220 * r + k0))] _
  refine tm_istore_n (L' := [(3, .int (iI (220 * r + k0))), (0, .ref b), (1, .int (iI r)), (2, .int (iI k0))]) dX12_rebind_6 rfl (by decide) rfl ?_
  refine tm_aload_n dX12_rebind_7 rfl 1 rfl ?_
  refine tm_get (k := 4) (v := .ref (b + 1 + 2)) lay_12 dX12_rebind_8 (by decide) fl12_17 rfl ?_
  refine tm_iload_n dX12_rebind_11 rfl 0 rfl ?_
  refine tm_iald (z := 220 * r + k0) (v := σ.2.1 4 (220 * r + k0)) dX12_rebind_12 (show mT[2]? = some (4, 0, 2860) from rfl) (by omega) (by omega) (by decide) (rfl) ?_
  have g5 := RG.a hR 4 (220 * r + k0)
  refine tm_istore (L' := [(4, .int (iI (σ.2.1 4 (220 * r + k0)))), (3, .int (iI (220 * r + k0))), (0, .ref b), (1, .int (iI r)), (2, .int (iI k0))]) dX12_rebind_13 (by decide) rfl ?_
  refine tm_iconst dX12_rebind_15 ?_
  refine tm_istore (L' := [(5, .int (iI 0)), (4, .int (iI (σ.2.1 4 (220 * r + k0)))), (3, .int (iI (220 * r + k0))), (0, .ref b), (1, .int (iI r)), (2, .int (iI k0))]) dX12_rebind_16 (by decide) rfl ?_
  refine tm_sub [0, 2, 1, 3, 4, 5] rfl (f_reb1 (d + 5) (σ0 := σ) (r := r) (g := σ.2.1 4 (220 * r + k0)) (k0 := k0) (x0 := 220 * r + k0) hr hR q1 (fun k12 σ13 F8 R9 f10 f11 => ?_) _ (0) σ Fr.rfl hR (by omega) hbo (fun j a c => by omega) rfl)
  show Tm _ _ 43 b σ13 [(5, .int (iI k12)), (3, .int (iI (220 * r + k0))), (4, .int (iI (σ.2.1 4 (220 * r + k0)))), (0, .ref b), (1, .int (iI r)), (2, .int (iI k0))] [] _
  have hbo1 := f10
  have hj1 := f11
  refine tm_aload_n dX12_rebind_43 rfl 3 rfl ?_
  refine tm_get (k := 47) (v := .ref (b + 1 + 25)) lay_12 dX12_rebind_44 (by decide) fl12_91 rfl ?_
  refine tm_iload_n dX12_rebind_47 rfl 5 rfl ?_
  refine tm_iconst dX12_rebind_48 ?_
  refine tm_iadd dX12_rebind_49 ?_
  refine tm_iconst dX12_rebind_50 ?_
  refine tm_zast (z := k0 + 1) (v := 1) dX12_rebind_51 (show mT[25]? = some (47, 2, 221) from rfl) (by omega) (by omega) (by decide) (by omega) ?_
  refine tm_iconst dX12_rebind_52 ?_
  refine tm_istore (L' := [(5, .int (iI 1)), (3, .int (iI (220 * r + k0))), (4, .int (iI (σ.2.1 4 (220 * r + k0)))), (0, .ref b), (1, .int (iI r)), (2, .int (iI k0))]) dX12_rebind_53 (by decide) rfl ?_
  refine tm_sub [0, 1, 2, 3, 4, 5] rfl (f_reb2 (d + 3) (σ0 := (sA 47 (k0 + 1) (1) σ13)) (r := r) (g := σ.2.1 4 (220 * r + k0)) (k0 := k0) (x0 := 220 * r + k0) (m := (σ.2.1 9 r)) (V := (rV σ r)) hr (R9.A (by omega)) (hit.fr (show Fr [] [47] [] σ (sA 47 (k0 + 1) (1) σ13) from ((Fr.rfl.trans (Fr.sub F8 (by decide) (by decide) (by decide))).A (by decide))) (by decide)) (hok.jmp.fr (show Fr [] [47] [] σ (sA 47 (k0 + 1) (1) σ13) from ((Fr.rfl.trans (Fr.sub F8 (by decide) (by decide) (by decide))).A (by decide))) (by decide)) (htg.fr (show Fr [] [47] [] σ (sA 47 (k0 + 1) (1) σ13) from ((Fr.rfl.trans (Fr.sub F8 (by decide) (by decide) (by decide))).A (by decide))) (by decide)) (by rw [((show Fr [] [47] [] σ (sA 47 (k0 + 1) (1) σ13) from ((Fr.rfl.trans (Fr.sub F8 (by decide) (by decide) (by decide))).A (by decide)))).2.1 9 (by decide)]) (by omega) (htd.fr (show Fr [] [47] [] σ (sA 47 (k0 + 1) (1) σ13) from ((Fr.rfl.trans (Fr.sub F8 (by decide) (by decide) (by decide))).A (by decide))) (by decide)) (rv_fr (show Fr [] [47] [] σ (sA 47 (k0 + 1) (1) σ13) from ((Fr.rfl.trans (Fr.sub F8 (by decide) (by decide) (by decide))).A (by decide))) (by decide)).symm hu (fun w22 σ23 F16 R17 f18 f19 f20 f21 => ?_) _ (1) (sA 47 (k0 + 1) (1) σ13) Fr.rfl (R9.A (by omega)) (by omega) (BO.A hbo1 (by omega)) (fun j a c e => by
    by_cases z : j = k0 + 1
    · rw [z]; exact RCG.z
    · rw [show _ = (0 : Int) from (ra_ne z (hj1 j (by omega) c))] at e; omega) (fun e => absurd e (by decide)) ra_eq rfl)
  show Tm _ _ 165 b σ23 [(5, .int (iI w22)), (3, .int (iI (220 * r + k0))), (4, .int (iI (σ.2.1 4 (220 * r + k0)))), (0, .ref b), (1, .int (iI r)), (2, .int (iI k0))] [] _
  have hbo2 := f18
  have hx2 : XO r σ σ23 := XO.fr (show Fr [] [47] [] σ σ23 from (((Fr.rfl.trans (Fr.sub F8 (by decide) (by decide) (by decide))).A (by decide)).trans (Fr.sub F16 (by decide) (by decide) (by decide)))) (by decide)
  have hrd : RDV σ23 (rV σ r) (σ.2.1 9 r) (k0 + 1) (fun j => wrT (rV σ r j) (rV σ r k0 1)) := by
      rw [show rV σ r k0 1 = σ.2.1 4 (220 * r + k0) by rw [rv_at hk.1 hk.2]; rfl]
      exact RSD.full f19 (rv_fr (show Fr [] [47] [] σ σ23 from (((Fr.rfl.trans (Fr.sub F8 (by decide) (by decide) (by decide))).A (by decide)).trans (Fr.sub F16 (by decide) (by decide) (by decide)))) (by decide)).symm (by rw [((show Fr [] [47] [] σ σ23 from (((Fr.rfl.trans (Fr.sub F8 (by decide) (by decide) (by decide))).A (by decide)).trans (Fr.sub F16 (by decide) (by decide) (by decide))))).2.1 9 (by decide)]) f20 f21 (htd.fr (show Fr [] [47] [] σ σ23 from (((Fr.rfl.trans (Fr.sub F8 (by decide) (by decide) (by decide))).A (by decide)).trans (Fr.sub F16 (by decide) (by decide) (by decide)))) (by decide)) hu
  refine tm_iload_n dX12_rebind_165 rfl 5 rfl ?_
  refine tm_iconst dX12_rebind_166 ?_
  refine tm_iadd dX12_rebind_167 ?_
  refine tm_istore (L' := [(6, .int (iI (k0 + 1))), (5, .int (iI w22)), (3, .int (iI (220 * r + k0))), (4, .int (iI (σ.2.1 4 (220 * r + k0)))), (0, .ref b), (1, .int (iI r)), (2, .int (iI k0))]) dX12_rebind_168 (by decide) rfl ?_
  refine tm_sub [0, 2, 3, 4, 5, 6] rfl (f_reb5 (d + 4) (σ0 := σ23) (r := r) (g := σ.2.1 4 (220 * r + k0)) (k0 := k0) (x0 := 220 * r + k0) (F := F) hr R17 (by rw [((show Fr [] [47] [] σ σ23 from (((Fr.rfl.trans (Fr.sub F8 (by decide) (by decide) (by decide))).A (by decide)).trans (Fr.sub F16 (by decide) (by decide) (by decide))))).2.1 9 (by decide)]; exact q1) (by rw [((show Fr [] [47] [] σ σ23 from (((Fr.rfl.trans (Fr.sub F8 (by decide) (by decide) (by decide))).A (by decide)).trans (Fr.sub F16 (by decide) (by decide) (by decide))))).2.1 9 (by decide)]; omega) (by rw [((show Fr [] [47] [] σ σ23 from (((Fr.rfl.trans (Fr.sub F8 (by decide) (by decide) (by decide))).A (by decide)).trans (Fr.sub F16 (by decide) (by decide) (by decide))))).2.1 3 (by decide)]; exact hk5) (by omega) (fun i32 σ33 F26 R27 f28 f29 f30 f31 => ?_) _ (k0 + 1) σ23 Fr.rfl R17 (by rw [((show Fr [] [47] [] σ σ23 from (((Fr.rfl.trans (Fr.sub F8 (by decide) (by decide) (by decide))).A (by decide)).trans (Fr.sub F16 (by decide) (by decide) (by decide))))).2.1 9 (by decide)]; omega) hbo2 (hok.fr (show Fr [] [47] [] σ σ23 from (((Fr.rfl.trans (Fr.sub F8 (by decide) (by decide) (by decide))).A (by decide)).trans (Fr.sub F16 (by decide) (by decide) (by decide)))) (by decide)) XO.rfl RB5.start rfl)
  show Tm _ _ 369 b σ33 [(6, .int (iI i32)), (3, .int (iI (220 * r + k0))), (4, .int (iI (σ.2.1 4 (220 * r + k0)))), (0, .ref b), (1, .int (iI r)), (2, .int (iI k0))] [] _
  have hbo3 := f28
  have hok3 := f29
  have hx3 := hx2.trans f30
  have hrbe := f31
  refine tm_iconst dX12_rebind_369 ?_
  refine tm_istore (L' := [(6, .int (iI 0)), (3, .int (iI (220 * r + k0))), (4, .int (iI (σ.2.1 4 (220 * r + k0)))), (0, .ref b), (1, .int (iI r)), (2, .int (iI k0))]) dX12_rebind_370 (by decide) rfl ?_
  refine tm_sub [0, 2, 3, 4] rfl (f_reb6 (d + 1) (σ0 := σ33) (r := r) (g := σ.2.1 4 (220 * r + k0)) (F := F) hr R27 (hit.fr (show Fr [] [6, 7, 8, 47] [] σ σ33 from ((((Fr.rfl.trans (Fr.sub F8 (by decide) (by decide) (by decide))).A (by decide)).trans (Fr.sub F16 (by decide) (by decide) (by decide))).trans (Fr.sub F26 (by decide) (by decide) (by decide)))) (by decide)) (hpar.fr (show Fr [] [6, 7, 8, 47] [] σ σ33 from ((((Fr.rfl.trans (Fr.sub F8 (by decide) (by decide) (by decide))).A (by decide)).trans (Fr.sub F16 (by decide) (by decide) (by decide))).trans (Fr.sub F26 (by decide) (by decide) (by decide)))) (by decide)) hbo3 (by omega) (fun k41 σ42 F36 R37 f38 f39 f40 => ?_) _ (0) σ33 Fr.rfl R27 (by rw [((show Fr [] [6, 7, 8, 47] [] σ σ33 from ((((Fr.rfl.trans (Fr.sub F8 (by decide) (by decide) (by decide))).A (by decide)).trans (Fr.sub F16 (by decide) (by decide) (by decide))).trans (Fr.sub F26 (by decide) (by decide) (by decide))))).2.1 9 (by decide)]; omega) hok3 XO.rfl RB6.start rfl)
  show Tm _ _ 458 b σ42 [(6, .int (iI k41)), (4, .int (iI (σ.2.1 4 (220 * r + k0)))), (0, .ref b), (1, .int (iI r))] [] _
  exact tm_vret rfl dX12_rebind_458 (⟨rfl, (((((Fr.rfl.trans (Fr.sub F8 (by decide) (by decide) (by decide))).A (by decide)).trans (Fr.sub F16 (by decide) (by decide) (by decide))).trans (Fr.sub F26 (by decide) (by decide) (by decide))).trans (Fr.sub F36 (by decide) (by decide) (by decide))), R37, f38, hx3.trans f39, hbo3.fr F36 (by decide), rb_fin (σc := σ23) (r := r) (rv_fr (show Fr [] [47] [] σ σ23 from (((Fr.rfl.trans (Fr.sub F8 (by decide) (by decide) (by decide))).A (by decide)).trans (Fr.sub F16 (by decide) (by decide) (by decide)))) (by decide)).symm (by rw [((show Fr [] [47] [] σ σ23 from (((Fr.rfl.trans (Fr.sub F8 (by decide) (by decide) (by decide))).A (by decide)).trans (Fr.sub F16 (by decide) (by decide) (by decide))))).2.1 9 (by decide)]) (by rw [((show Fr [] [6, 7, 8, 47] [] σ σ42 from (((((Fr.rfl.trans (Fr.sub F8 (by decide) (by decide) (by decide))).A (by decide)).trans (Fr.sub F16 (by decide) (by decide) (by decide))).trans (Fr.sub F26 (by decide) (by decide) (by decide))).trans (Fr.sub F36 (by decide) (by decide) (by decide))))).2.1 9 (by decide)]) hk (rv_at hk.1 hk.2).symm hrd hbo2 (by rw [← ((show Fr [] [47] [] σ σ23 from (((Fr.rfl.trans (Fr.sub F8 (by decide) (by decide) (by decide))).A (by decide)).trans (Fr.sub F16 (by decide) (by decide) (by decide))))).2.1 9 (by decide)]; exact hrbe) (by have e9 := f40; rw [((show Fr [] [6, 7, 8, 47] [] σ σ33 from ((((Fr.rfl.trans (Fr.sub F8 (by decide) (by decide) (by decide))).A (by decide)).trans (Fr.sub F16 (by decide) (by decide) (by decide))).trans (Fr.sub F26 (by decide) (by decide) (by decide))))).2.1 9 (by decide)] at e9; exact e9)⟩)
end
section
set_option maxHeartbeats 1000000 in
set_option maxRecDepth 20000 in
theorem f_drop1 (d : Nat) {b : Nat} {σ0 : MS} {r : Int} {F : Int} {V : Int → It} {post : Option Value → MS → Prop} (hr : 0 ≤ r ∧ r < 6) (hR0 : RG σ0) (hit : ITM σ0) (hok : OKS σ0 F r) (hbo : BO 47 σ0) (hV : V = rV σ0 r) (hrd : RDV σ0 V (σ0.2.1 9 r) 0 (fun _ => False)) (hx_93 : ∀ (w : Int) (t : Int) (k : Int) (σ : MS) , (Fr [] [3, 4, 5, 6, 7, 8] [] σ0 σ) → (RG σ) → (0 ≤ t ∧ t ≤ σ0.2.1 9 r ∧ 0 ≤ w ∧ w ≤ 220) → (DLP σ0 σ r F (σ0.2.1 9 r) t) → (dr1 V (σ0.2.1 9 r) (σ0.2.1 9 r).toNat = (t, w, oV σ r t)) → Tm (d + 2) m_X12_dropAll 93 b σ [(4, .int (iI k)), (3, .int (iI t)), (2, .int (iI w)), (0, .ref b), (1, .int (iI r))] [] post) : ∀ (n : Nat) (w : Int) (t : Int) (k : Int) (σ : MS) , (Fr [] [3, 4, 5, 6, 7, 8] [] σ0 σ) → (RG σ) → (0 ≤ t ∧ t ≤ k ∧ k ≤ σ0.2.1 9 r ∧ 0 ≤ w ∧ w ≤ k) → (DLP σ0 σ r F k t) → (dr1 V (σ0.2.1 9 r) k.toNat = (t, w, oV σ r t)) → (220 - k).toNat = n → Tm (d + 2) m_X12_dropAll 17 b σ [(4, .int (iI k)), (3, .int (iI t)), (2, .int (iI w)), (0, .ref b), (1, .int (iI r))] [] post := by
  intro n
  induction n using Nat.strongRecOn with
  | _ n ih =>
    intro w t k σ hF hR h0 hlp hd1 hm
    have q1 := hit r (by omega) (by omega)
    have q9 : σ.2.1 9 r = σ0.2.1 9 r := by rw [hF.2.1 9 (by decide)]
    refine tm_iload dX12_dropAll_17 0 rfl ?_
    refine tm_aload_n dX12_dropAll_19 rfl 3 rfl ?_
    refine tm_get (k := 9) (v := .ref (b + 1 + 7)) lay_12 dX12_dropAll_20 (by decide) fl12_32 rfl ?_
    refine tm_iload_n dX12_dropAll_23 rfl 4 rfl ?_
    refine tm_iald (z := r) (v := σ0.2.1 9 r) dX12_dropAll_24 (show mT[7]? = some (9, 0, 13) from rfl) (by omega) (by omega) (by decide) (ra_F hF (by decide) (rfl)) ?_
    have g1 := RG.a hR0 9 (r)
    refine tm_icmp_ge (tgt := 93) dX12_dropAll_25 (by decide) ⟨by omega, by omega⟩ ⟨by omega, by omega⟩ (fun h2 => ?_) (fun h2 => ?_)
    · exact tm_sub [0, 1, 2, 3, 4] rfl (hx_93 (w) (t) (k) σ (Fr.rfl.trans (Fr.sub hF (by decide) (by decide) (by decide))) hR (by omega) (by rw [show σ0.2.1 9 r = k by omega]; exact hlp) (by have e9 := hd1; rw [show k = σ0.2.1 9 r by omega] at e9; exact e9))
    · have hvk : rI σ (220 * r + k) = V k := by rw [hV, rv_in (by omega) (by omega)]; exact (hlp.2.1 k (by omega) (by omega)).ri
      have hv0 : V k 0 = σ.2.1 3 (220 * r + k) := by rw [← hvk]; rfl
      refine tm_aload_n dX12_dropAll_28 rfl 3 rfl ?_
      refine tm_get (k := 47) (v := .ref (b + 1 + 25)) lay_12 dX12_dropAll_29 (by decide) fl12_91 rfl ?_
      refine tm_iload dX12_dropAll_32 0 rfl ?_
      refine tm_zald (z := k) (v := σ0.2.1 47 k) dX12_dropAll_34 (show mT[25]? = some (47, 2, 221) from rfl) (by omega) (by omega) (by decide) (ra_F hF (by decide) (rfl)) ?_
      have g3 := RG.a hR0 47 (k)
      have := hbo (k)
      refine tm_if_eq (tgt := 61) dX12_dropAll_35 (by decide) ⟨by omega, by omega⟩ (fun h4 => ?_) (fun h4 => ?_)
      · refine tm_iload_n dX12_dropAll_61 rfl 2 rfl ?_
        refine tm_aload_n dX12_dropAll_62 rfl 3 rfl ?_
        refine tm_get (k := 3) (v := .ref (b + 1 + 1)) lay_12 dX12_dropAll_63 (by decide) fl12_13 rfl ?_
        refine tm_aload_n dX12_dropAll_66 rfl 3 rfl ?_
        refine tm_iload_n dX12_dropAll_67 rfl 4 rfl ?_
        refine tm_iload dX12_dropAll_68 0 rfl ?_
        refine tm_callV (M := m_X12_dropAll) (pc := 70) (ix := 203) (M' := m_X12_at) (As := [.int (iI r), .int (iI k)]) (rest := [.ref (b + 1 + 1), .int (iI w)]) dX12_dropAll_70 ok_X12_at im_X12_at se_X12_at ml12_203 np_X12_at rfl rfl (Nat.le_of_ble_eq_true rfl) (Nat.le_of_ble_eq_true rfl) rfl (c_X12_at (d) (σ := σ) (x := r) (k := k) ) (fun r5 σ6 hp => ?_)
        obtain ⟨v7, rfl, rfl, f8⟩ := hp
        subst f8
        show Tm _ _ 73 b σ [(4, .int (iI k)), (3, .int (iI t)), (2, .int (iI w)), (0, .ref b), (1, .int (iI r))] [.int (iI (220 * r + k)), .ref (b + 1 + 1), .int (iI w)] _
        refine tm_iald (z := 220 * r + k) (v := σ.2.1 3 (220 * r + k)) dX12_dropAll_73 (show mT[1]? = some (3, 0, 2860) from rfl) (by omega) (by omega) (by decide) (rfl) ?_
        have g9 := RG.a hR 3 (220 * r + k)
        refine tm_callS (M := m_X12_dropAll) (pc := 74) (ix := 401) (M' := m_X12_isAct) (As := [.int (iI (σ.2.1 3 (220 * r + k)))]) (rest := [.int (iI w)]) dX12_dropAll_74 ok_X12_isAct stt_X12_isAct ml12_401 np_X12_isAct rfl (Nat.le_of_ble_eq_true rfl) (Nat.le_of_ble_eq_true rfl) rfl (c_X12_isAct (d) (σ := σ) (x := σ.2.1 3 (220 * r + k)) (by omega)) (fun r10 σ11 hp => ?_)
        obtain ⟨v12, rfl, rfl, f13, f14⟩ := hp
        show Tm _ _ 77 b σ [(4, .int (iI k)), (3, .int (iI t)), (2, .int (iI w)), (0, .ref b), (1, .int (iI r))] [.int (iI v12), .int (iI w)] _
        refine tm_if_eq (tgt := 84) dX12_dropAll_77 (by decide) ⟨by omega, by omega⟩ (fun h15 => ?_) (fun h15 => ?_)
        · refine tm_iconst dX12_dropAll_84 ?_
          refine tm_iadd dX12_dropAll_85 ?_
          refine tm_istore_n (L' := [(2, .int (iI (w + 0))), (4, .int (iI k)), (3, .int (iI t)), (0, .ref b), (1, .int (iI r))]) dX12_dropAll_86 rfl (by decide) rfl ?_
          refine tm_iinc (q0 := 1) (L' := [(4, .int (iI (k + 1))), (2, .int (iI (w + 0))), (3, .int (iI t)), (0, .ref b), (1, .int (iI r))]) dX12_dropAll_87 rfl (by decide) rfl ?_
          refine tm_goto (tgt := 17) dX12_dropAll_90 (by decide) ?_
          exact tm_sub [0, 2, 1, 3, 4] rfl (ih _ (by omega) (w + 0) (t) (k + 1) σ (Fr.rfl.trans (Fr.sub hF (by decide) (by decide) (by decide))) hR (by omega) (hlp.skip (by omega)) (by rw [dr1_s (by omega) hd1, dI_n (fun z => absurd ((hrd k (by omega) (by omega)).mpr z) (by omega)), hv0]; first | rw [if_pos (by omega)] | rw [if_neg (by omega)]) rfl)
        · refine tm_iconst dX12_dropAll_80 ?_
          refine tm_goto (tgt := 85) dX12_dropAll_81 (by decide) ?_
          refine tm_iadd dX12_dropAll_85 ?_
          refine tm_istore_n (L' := [(2, .int (iI (w + 1))), (4, .int (iI k)), (3, .int (iI t)), (0, .ref b), (1, .int (iI r))]) dX12_dropAll_86 rfl (by decide) rfl ?_
          refine tm_iinc (q0 := 1) (L' := [(4, .int (iI (k + 1))), (2, .int (iI (w + 1))), (3, .int (iI t)), (0, .ref b), (1, .int (iI r))]) dX12_dropAll_87 rfl (by decide) rfl ?_
          refine tm_goto (tgt := 17) dX12_dropAll_90 (by decide) ?_
          exact tm_sub [0, 2, 1, 3, 4] rfl (ih _ (by omega) (w + 1) (t) (k + 1) σ (Fr.rfl.trans (Fr.sub hF (by decide) (by decide) (by decide))) hR (by omega) (hlp.skip (by omega)) (by rw [dr1_s (by omega) hd1, dI_n (fun z => absurd ((hrd k (by omega) (by omega)).mpr z) (by omega)), hv0]; first | rw [if_pos (by omega)] | rw [if_neg (by omega)]) rfl)
      · refine tm_aload_n dX12_dropAll_38 rfl 3 rfl ?_
        refine tm_aload_n dX12_dropAll_39 rfl 3 rfl ?_
        refine tm_iload_n dX12_dropAll_40 rfl 4 rfl ?_
        refine tm_iload dX12_dropAll_41 0 rfl ?_
        refine tm_callV (M := m_X12_dropAll) (pc := 43) (ix := 203) (M' := m_X12_at) (As := [.int (iI r), .int (iI k)]) (rest := [.ref b]) dX12_dropAll_43 ok_X12_at im_X12_at se_X12_at ml12_203 np_X12_at rfl rfl (Nat.le_of_ble_eq_true rfl) (Nat.le_of_ble_eq_true rfl) rfl (c_X12_at (d) (σ := σ) (x := r) (k := k) ) (fun r16 σ17 hp => ?_)
        obtain ⟨v18, rfl, rfl, f19⟩ := hp
        subst f19
        show Tm _ _ 46 b σ [(4, .int (iI k)), (3, .int (iI t)), (2, .int (iI w)), (0, .ref b), (1, .int (iI r))] [.int (iI (220 * r + k)), .ref b] _
        refine tm_aload_n dX12_dropAll_46 rfl 3 rfl ?_
        refine tm_iload_n dX12_dropAll_47 rfl 4 rfl ?_
        refine tm_iload_n dX12_dropAll_48 rfl 1 rfl ?_
        refine tm_callV (M := m_X12_dropAll) (pc := 49) (ix := 203) (M' := m_X12_at) (As := [.int (iI r), .int (iI t)]) (rest := [.int (iI (220 * r + k)), .ref b]) dX12_dropAll_49 ok_X12_at im_X12_at se_X12_at ml12_203 np_X12_at rfl rfl (Nat.le_of_ble_eq_true rfl) (Nat.le_of_ble_eq_true rfl) rfl (c_X12_at (d) (σ := σ) (x := r) (k := t) ) (fun r20 σ21 hp => ?_)
        obtain ⟨v22, rfl, rfl, f23⟩ := hp
        subst f23
        show Tm _ _ 52 b σ [(4, .int (iI k)), (3, .int (iI t)), (2, .int (iI w)), (0, .ref b), (1, .int (iI r))] [.int (iI (220 * r + t)), .int (iI (220 * r + k)), .ref b] _
        refine tm_callV (M := m_X12_dropAll) (pc := 52) (ix := 394) (M' := m_X12_copyItem) (As := [.int (iI (220 * r + k)), .int (iI (220 * r + t))]) (rest := []) dX12_dropAll_52 ok_X12_copyItem im_X12_copyItem se_X12_copyItem ml12_394 np_X12_copyItem rfl rfl (Nat.le_of_ble_eq_true rfl) (Nat.le_of_ble_eq_true rfl) rfl (c_X12_copyItem (d) (σ := σ) (f := 220 * r + k) (t := 220 * r + t) (by omega) (by omega)) (fun r24 σ25 hp => ?_)
        obtain ⟨rfl, f27⟩ := hp
        subst f27
        show Tm _ _ 55 b (fCopy (220 * r + k) (220 * r + t) σ) [(4, .int (iI k)), (3, .int (iI t)), (2, .int (iI w)), (0, .ref b), (1, .int (iI r))] [] _
        refine tm_iinc (q0 := 1) (L' := [(3, .int (iI (t + 1))), (4, .int (iI k)), (2, .int (iI w)), (0, .ref b), (1, .int (iI r))]) dX12_dropAll_55 rfl (by decide) rfl ?_
        refine tm_goto (tgt := 87) dX12_dropAll_58 (by decide) ?_
        refine tm_iinc (q0 := 1) (L' := [(4, .int (iI (k + 1))), (3, .int (iI (t + 1))), (2, .int (iI w)), (0, .ref b), (1, .int (iI r))]) dX12_dropAll_87 rfl (by decide) rfl ?_
        refine tm_goto (tgt := 17) dX12_dropAll_90 (by decide) ?_
        exact tm_sub [0, 1, 2, 3, 4] rfl (ih _ (by omega) (w) (t + 1) (k + 1) (fCopy (220 * r + k) (220 * r + t) σ) ((Fr.rfl.trans (Fr.sub hF (by decide) (by decide) (by decide))).trans (Fr.sub fCopy_fr (by decide) (by decide) (by decide))) (hR.copy) (by omega) (hlp.keep (by omega) (hok k (by omega) (by omega)) (by omega)) (by rw [dr1_s (by omega) hd1, dI_y ((hrd k (by omega) (by omega)).mp (by omega)), ov_copy (by omega), hvk]) rfl)
set_option maxHeartbeats 1000000 in
set_option maxRecDepth 20000 in
theorem f_drop3 (d : Nat) {b : Nat} {σ0 : MS} {r : Int} {F : Int} {n0 : Int} {V0 : Int → It} {w0 : Int} {post : Option Value → MS → Prop} (hr : 0 ≤ r ∧ r < 6) (hR0 : RG σ0) (hit : ITM σ0) (hpar : PAR σ0) (hu : UNQ V0 n0) (hx_199 : ∀ (w : Int) (ce : Int) (k : Int) (σ : MS) , (Fr [] [3, 4, 5, 6, 7, 8, 9, 46, 47, 59] [] σ0 σ) → (RG σ) → ((ce = 0 ∨ ce = 1) ∧ σ.2.1 9 r + ce = n0 ∧ 0 ≤ w ∧ w + n0 ≤ 440 + ce) → (OKS σ F r) → (CODE σ r) → (LEX σ r) → (LBM σ r) → (XO r σ0 σ) → (1 ≤ σ.2.1 9 r) → (∀ j, j ≠ r → σ.2.1 9 j = σ0.2.1 9 j) → (LAB σ) → (BO 59 σ) → (BO 47 σ) → ((ce = 0 → w = w0 ∧ rV σ r = V0 ∧ ∀ u, ¬ lastD V0 n0 u) ∧ (ce = 1 → w = w0 + 1 ∧ ∃ u, lastD V0 n0 u ∧ rV σ r = toV (rbV V0 n0 u) u)) → Tm (d + 7) m_X12_dropAll 199 b σ [(5, .int (iI k)), (4, .int (iI ce)), (2, .int (iI w)), (0, .ref b), (1, .int (iI r))] [] post) : ∀ (n : Nat) (w : Int) (ce : Int) (k : Int) (σ : MS) , (Fr [] [3, 4, 5, 6, 7, 8, 9, 46, 47, 59] [] σ0 σ) → (RG σ) → ((ce = 0 ∨ ce = 1) ∧ -1 ≤ k ∧ k < n0 ∧ n0 ≤ 220 ∧ σ.2.1 9 r + ce = n0 ∧ 0 ≤ w ∧ w + n0 ≤ 440 + ce) → (ce = 0 → TGT σ r) → (OKS σ F r) → (CODE σ r) → (LEX σ r) → (LBM σ r) → (XO r σ0 σ) → (1 ≤ σ.2.1 9 r) → (∀ j, j ≠ r → σ.2.1 9 j = σ0.2.1 9 j) → (LAB σ) → (BO 59 σ) → (BO 47 σ) → ((ce = 0 → w = w0 ∧ rV σ r = V0 ∧ LDV σ V0 n0 ∧ TGD σ r ∧ ∀ i, k < i → i < n0 → ¬ dead V0 n0 i) ∧ (ce = 1 → w = w0 + 1 ∧ ∃ u, lastD V0 n0 u ∧ rV σ r = toV (rbV V0 n0 u) u)) → (k + 1).toNat = n → Tm (d + 7) m_X12_dropAll 126 b σ [(5, .int (iI k)), (4, .int (iI ce)), (2, .int (iI w)), (0, .ref b), (1, .int (iI r))] [] post := by
  intro n
  induction n using Nat.strongRecOn with
  | _ n ih =>
    intro w ce k σ hF hR h0 htg hok hcd hlex hlm hxo hn h9 hl hbl hbo hdr hm
    have hit1 : ITM σ := fun j a c => by
          by_cases q : j = r
          · subst q; omega
          · rw [h9 j q]; exact hit j a c
    have hpar1 := hpar.fr hF (by decide)
    refine tm_iload dX12_dropAll_126 0 rfl ?_
    refine tm_if_lt (tgt := 199) dX12_dropAll_128 (by decide) ⟨by omega, by omega⟩ (fun h1 => ?_) (fun h1 => ?_)
    · exact tm_sub [0, 1, 2, 3, 4] rfl (hx_199 (w) (ce) (k) σ (Fr.rfl.trans (Fr.sub hF (by decide) (by decide) (by decide))) hR (by omega) hok hcd hlex hlm hxo hn h9 hl hbl hbo ⟨fun e => ⟨(hdr.1 e).1, (hdr.1 e).2.1, fun u z => (hdr.1 e).2.2.2.2 u (by have := z.1; omega) z.2.1 z.2.2.1⟩, hdr.2⟩)
    · refine tm_iload dX12_dropAll_131 1 rfl ?_
      refine tm_if_ne (tgt := 199) dX12_dropAll_133 (by decide) ⟨by omega, by omega⟩ (fun h2 => ?_) (fun h2 => ?_)
      · exact tm_sub [0, 1, 2, 3, 4] rfl (hx_199 (w) (ce) (k) σ (Fr.rfl.trans (Fr.sub hF (by decide) (by decide) (by decide))) hR (by omega) hok hcd hlex hlm hxo hn h9 hl hbl hbo ⟨fun e => ⟨(hdr.1 e).1, (hdr.1 e).2.1, fun u z => (hdr.1 e).2.2.2.2 u (by have := z.1; omega) z.2.1 z.2.2.1⟩, hdr.2⟩)
      · have hd0 := hdr.1 (by omega)
        refine tm_aload_n dX12_dropAll_136 rfl 3 rfl ?_
        refine tm_iload_n dX12_dropAll_137 rfl 4 rfl ?_
        refine tm_iload dX12_dropAll_138 0 rfl ?_
        refine tm_callV (M := m_X12_dropAll) (pc := 140) (ix := 203) (M' := m_X12_at) (As := [.int (iI r), .int (iI k)]) (rest := []) dX12_dropAll_140 ok_X12_at im_X12_at se_X12_at ml12_203 np_X12_at rfl rfl (Nat.le_of_ble_eq_true rfl) (Nat.le_of_ble_eq_true rfl) rfl (c_X12_at (d + 5) (σ := σ) (x := r) (k := k) ) (fun r3 σ4 hp => ?_)
        obtain ⟨v5, rfl, rfl, f6⟩ := hp
        subst f6
        show Tm _ _ 143 b σ [(5, .int (iI k)), (4, .int (iI ce)), (2, .int (iI w)), (0, .ref b), (1, .int (iI r))] [.int (iI (220 * r + k))] _
        refine tm_istore (L' := [(6, .int (iI (220 * r + k))), (5, .int (iI k)), (4, .int (iI ce)), (2, .int (iI w)), (0, .ref b), (1, .int (iI r))]) dX12_dropAll_143 (by decide) rfl ?_
        have hk1 := hok.kind (k := k) (by omega) (by omega)
        refine tm_aload_n dX12_dropAll_145 rfl 4 rfl ?_
        refine tm_get (k := 3) (v := .ref (b + 1 + 1)) lay_12 dX12_dropAll_146 (by decide) fl12_13 rfl ?_
        refine tm_iload dX12_dropAll_149 0 rfl ?_
        refine tm_iald (z := 220 * r + k) (v := σ.2.1 3 (220 * r + k)) dX12_dropAll_151 (show mT[1]? = some (3, 0, 2860) from rfl) (by omega) (by omega) (by decide) (rfl) ?_
        have g7 := RG.a hR 3 (220 * r + k)
        refine tm_iconst dX12_dropAll_152 ?_
        refine tm_icmp_gt (tgt := 193) dX12_dropAll_153 (by decide) ⟨by omega, by omega⟩ ⟨by decide, by decide⟩ (fun h8 => ?_) (fun h8 => ?_)
        · refine tm_iinc (q0 := 1) (L' := [(5, .int (iI (k + (-1)))), (6, .int (iI (220 * r + k))), (4, .int (iI ce)), (2, .int (iI w)), (0, .ref b), (1, .int (iI r))]) dX12_dropAll_193 rfl (by decide) rfl ?_
          refine tm_goto (tgt := 126) dX12_dropAll_196 (by decide) ?_
          exact tm_sub [0, 2, 3, 4, 5] rfl (ih _ (by omega) (w) (ce) (k + (-1)) σ (Fr.rfl.trans (Fr.sub hF (by decide) (by decide) (by decide))) hR (by omega) htg hok hcd hlex hlm hxo hn h9 hl hbl hbo ⟨fun e => ⟨hd0.1, hd0.2.1, hd0.2.2.1, hd0.2.2.2.1, fun i a b => by
          by_cases z : i = k
          · subst z; exact (dead_no hd0.2.1 (by omega) (by omega) (by omega))
          · exact hd0.2.2.2.2 i (by omega) b⟩, fun e => absurd e (by omega)⟩ rfl)
        · have hkd := hok.dest (k := k) (by omega) (by omega) (by omega)
          have htg1 := htg (by omega)
          refine tm_aload_n dX12_dropAll_156 rfl 4 rfl ?_
          refine tm_iload_n dX12_dropAll_157 rfl 5 rfl ?_
          refine tm_iload dX12_dropAll_158 1 rfl ?_
          refine tm_aload_n dX12_dropAll_160 rfl 4 rfl ?_
          refine tm_get (k := 4) (v := .ref (b + 1 + 2)) lay_12 dX12_dropAll_161 (by decide) fl12_17 rfl ?_
          refine tm_iload dX12_dropAll_164 0 rfl ?_
          refine tm_iald (z := 220 * r + k) (v := σ.2.1 4 (220 * r + k)) dX12_dropAll_166 (show mT[2]? = some (4, 0, 2860) from rfl) (by omega) (by omega) (by decide) (rfl) ?_
          have g9 := RG.a hR 4 (220 * r + k)
          refine tm_callV (M := m_X12_dropAll) (pc := 167) (ix := 433) (M' := m_X12_livesBehind) (As := [.int (iI r), .int (iI k), .int (iI (σ.2.1 4 (220 * r + k)))]) (rest := []) dX12_dropAll_167 ok_X12_livesBehind im_X12_livesBehind se_X12_livesBehind ml12_433 np_X12_livesBehind rfl rfl (Nat.le_of_ble_eq_true rfl) (Nat.le_of_ble_eq_true rfl) rfl (f_X12_livesBehind (d + 3) (σ := σ) (r := r) (k := k) (g := σ.2.1 4 (220 * r + k)) (by omega) hR hit1 hok.jmp hbl hl (by omega) (by omega)) (fun r10 σ11 hp => ?_)
          obtain ⟨v12, rfl, rfl, f13, f14⟩ := hp
          show Tm _ _ 170 b σ [(6, .int (iI (220 * r + k))), (5, .int (iI k)), (4, .int (iI ce)), (2, .int (iI w)), (0, .ref b), (1, .int (iI r))] [.int (iI v12)] _
          have hLB := f14
          refine tm_if_ne (tgt := 193) dX12_dropAll_170 (by decide) ⟨by omega, by omega⟩ (fun h15 => ?_) (fun h15 => ?_)
          · refine tm_iinc (q0 := 1) (L' := [(5, .int (iI (k + (-1)))), (6, .int (iI (220 * r + k))), (4, .int (iI ce)), (2, .int (iI w)), (0, .ref b), (1, .int (iI r))]) dX12_dropAll_193 rfl (by decide) rfl ?_
            refine tm_goto (tgt := 126) dX12_dropAll_196 (by decide) ?_
            exact tm_sub [0, 2, 3, 4, 5] rfl (ih _ (by omega) (w) (ce) (k + (-1)) σ (Fr.rfl.trans (Fr.sub hF (by decide) (by decide) (by decide))) hR (by omega) htg hok hcd hlex hlm hxo hn h9 hl hbl hbo ⟨fun e => ⟨hd0.1, hd0.2.1, hd0.2.2.1, hd0.2.2.2.1, fun i a b => by
          by_cases z : i = k
          · subst z; exact (fun z => absurd (hLB.mp (by omega)) ((ld_dead hd0.2.1 (by omega) hd0.2.2.1 (by omega) (by omega) (by omega)).mp z))
          · exact hd0.2.2.2.2 i (by omega) b⟩, fun e => absurd e (by omega)⟩ rfl)
          · have hdd := (ld_dead hd0.2.1 (by omega) hd0.2.2.1 (by omega) (by omega) (by omega)).mpr (fun z => absurd (hLB.mpr z) (by omega))
            have huk : UNQ (rV σ r) (σ.2.1 9 r) := by rw [hd0.2.1, show σ.2.1 9 r = n0 by omega]; exact hu
            refine tm_aload_n dX12_dropAll_173 rfl 4 rfl ?_
            refine tm_iload_n dX12_dropAll_174 rfl 5 rfl ?_
            refine tm_iload dX12_dropAll_175 1 rfl ?_
            refine tm_callV (M := m_X12_dropAll) (pc := 177) (ix := 478) (M' := m_X12_rebind) (As := [.int (iI r), .int (iI k)]) (rest := []) dX12_dropAll_177 ok_X12_rebind im_X12_rebind se_X12_rebind ml12_478 np_X12_rebind rfl rfl (Nat.le_of_ble_eq_true rfl) (Nat.le_of_ble_eq_true rfl) rfl (f_X12_rebind (d) (σ := σ) (r := r) (k0 := k) (F := F) (by omega) hR hit1 hpar1 hok hd0.2.2.2.1 hbo (by omega) (by omega) huk) (fun r16 σ17 hp => ?_)
            obtain ⟨rfl, f19, f20, f21, f22, f23, f24⟩ := hp
            show Tm _ _ 180 b σ17 [(6, .int (iI (220 * r + k))), (5, .int (iI k)), (4, .int (iI ce)), (2, .int (iI w)), (0, .ref b), (1, .int (iI r))] [] _
            have hrb := f24
            have f1 := f19
            have hok2 := f21
            have hxo2 := hxo.trans f22
            have hbo2 := f23
            have e9 : σ17.2.1 9 = σ.2.1 9 := f1.2.1 9 (by decide)
            have e3 : σ17.2.1 3 = σ.2.1 3 := f1.2.1 3 (by decide)
            refine tm_aload_n dX12_dropAll_180 rfl 4 rfl ?_
            refine tm_iload_n dX12_dropAll_181 rfl 5 rfl ?_
            refine tm_iload dX12_dropAll_182 1 rfl ?_
            refine tm_callV (M := m_X12_dropAll) (pc := 184) (ix := 481) (M' := m_X12_takeOut) (As := [.int (iI r), .int (iI k)]) (rest := []) dX12_dropAll_184 ok_X12_takeOut im_X12_takeOut se_X12_takeOut ml12_481 np_X12_takeOut rfl rfl (Nat.le_of_ble_eq_true rfl) (Nat.le_of_ble_eq_true rfl) rfl (c_X12_takeOut (d + 4) (σ := σ17) (r := r) (k := k) (by omega) f20 (hit1.fr f1 (by decide)) (by rw [e9]; omega)) (fun r25 σ26 hp => ?_)
            obtain ⟨rfl, f28, f29, f30, f31, f32, f33, f34⟩ := hp
            show Tm _ _ 187 b σ26 [(6, .int (iI (220 * r + k))), (5, .int (iI k)), (4, .int (iI ce)), (2, .int (iI w)), (0, .ref b), (1, .int (iI r))] [] _
            have hto := to_rv (σ := σ17) (r := r) (k := k) (by rw [e9]; omega) f31 f32 f33
            have f2 := f28
            have hfin := out_fin (k := k) (by rw [e9]; omega) (by rw [e3]; omega) hok2 (hcd.fr f1 (by decide) (by decide)) (hlex.fr f1 (by decide)) (hlm.fr f1 (by decide)) f2 f31 f32 f33
            have hxo3 := hxo2.trans f30
            have h93 : σ26.2.1 9 r = σ.2.1 9 r - 1 := by rw [f33, e9]
            have h94 : ∀ j, j ≠ r → σ26.2.1 9 j = σ0.2.1 9 j := fun j hj => by rw [f34 j hj, e9]; exact h9 j hj
            refine tm_iinc (q0 := 3) (L' := [(2, .int (iI (w + 1))), (6, .int (iI (220 * r + k))), (5, .int (iI k)), (4, .int (iI ce)), (0, .ref b), (1, .int (iI r))]) dX12_dropAll_187 rfl (by decide) rfl ?_
            refine tm_iconst dX12_dropAll_190 ?_
            refine tm_istore (L' := [(4, .int (iI 1)), (2, .int (iI (w + 1))), (6, .int (iI (220 * r + k))), (5, .int (iI k)), (0, .ref b), (1, .int (iI r))]) dX12_dropAll_191 (by decide) rfl ?_
            refine tm_iinc (q0 := 3) (L' := [(5, .int (iI (k + (-1)))), (4, .int (iI 1)), (2, .int (iI (w + 1))), (6, .int (iI (220 * r + k))), (0, .ref b), (1, .int (iI r))]) dX12_dropAll_193 rfl (by decide) rfl ?_
            refine tm_goto (tgt := 126) dX12_dropAll_196 (by decide) ?_
            exact tm_sub [0, 1, 2, 4, 5] rfl (ih _ (by omega) (w + 1) (1) (k + (-1)) σ26 (((Fr.rfl.trans (Fr.sub hF (by decide) (by decide) (by decide))).trans (Fr.sub f19 (by decide) (by decide) (by decide))).trans (Fr.sub f28 (by decide) (by decide) (by decide))) f29 (by omega) (fun q => absurd q (by decide)) hfin.2.2.2.2 hfin.1 hfin.2.2.1 hfin.2.2.2.1 hxo3 hfin.2.1 h94 ((hl.fr f1 (by decide)).fr f2 (by decide)) ((hbl.fr f1 (by decide)).fr f2 (by decide)) (hbo2.fr f2 (by decide)) ⟨fun e => absurd e (by decide), fun _ => ⟨by omega, k, ⟨by omega, by omega, hdd, hd0.2.2.2.2⟩, by rw [hto, hrb, hd0.2.1, show σ.2.1 9 r = n0 by omega]⟩⟩ rfl)
set_option maxHeartbeats 1000000 in
set_option maxRecDepth 20000 in
theorem f_drop2 (d : Nat) {b : Nat} {σ0 : MS} {r : Int} {F : Int} {V0 : Int → It} {n0 : Int} {w0 : Int} {post : Option Value → MS → Prop} (hr : 0 ≤ r ∧ r < 6) (hR0 : RG σ0) (hit : ITM σ0) (hpar : PAR σ0) (hx_202 : ∀ (w : Int) (ce : Int) (σ : MS) , (Fr [] [3, 4, 5, 6, 7, 8, 9, 46, 47, 59] [] σ0 σ) → (RG σ) → (0 ≤ w ∧ w ≤ 440 ∧ σ.2.1 9 r ≤ σ0.2.1 9 r) → (OKS σ F r) → (CODE σ r) → (LEX σ r) → (LBM σ r) → (XO r σ0 σ) → (1 ≤ σ.2.1 9 r) → (∀ j, j ≠ r → σ.2.1 9 j = σ0.2.1 9 j) → (LAB σ) → (BO 59 σ) → (BO 47 σ) → (∃ t : Nat, DRT t V0 n0 (rV σ r) (σ.2.1 9 r) ∧ (∀ u, ¬ lastD (rV σ r) (σ.2.1 9 r) u) ∧ w = w0 + t) → Tm (d + 7) m_X12_dropAll 202 b σ [(4, .int (iI ce)), (2, .int (iI w)), (0, .ref b), (1, .int (iI r))] [] post) : ∀ (n : Nat) (w : Int) (ce : Int) (σ : MS) , (Fr [] [3, 4, 5, 6, 7, 8, 9, 46, 47, 59] [] σ0 σ) → (RG σ) → ((ce = 0 ∨ ce = 1) ∧ σ.2.1 9 r ≤ σ0.2.1 9 r ∧ σ0.2.1 9 r ≤ 220 ∧ 0 ≤ w ∧ w + σ.2.1 9 r ≤ 440) → (OKS σ F r) → (CODE σ r) → (LEX σ r) → (LBM σ r) → (XO r σ0 σ) → (1 ≤ σ.2.1 9 r) → (∀ j, j ≠ r → σ.2.1 9 j = σ0.2.1 9 j) → (LAB σ) → (BO 59 σ) → (BO 47 σ) → ((∃ t : Nat, DRT t V0 n0 (rV σ r) (σ.2.1 9 r) ∧ w = w0 + t) ∧ UNQ (rV σ r) (σ.2.1 9 r) ∧ (ce = 0 → ∀ u, ¬ lastD (rV σ r) (σ.2.1 9 r) u)) → (2 * σ.2.1 9 r + ce).toNat = n → Tm (d + 7) m_X12_dropAll 103 b σ [(4, .int (iI ce)), (2, .int (iI w)), (0, .ref b), (1, .int (iI r))] [] post := by
  intro n
  induction n using Nat.strongRecOn with
  | _ n ih =>
    intro w ce σ hF hR h0 hok hcd hlex hlm hxo hn h9 hl hbl hbo hdt hm
    have hit1 : ITM σ := fun j a c => by
          by_cases q : j = r
          · subst q; omega
          · rw [h9 j q]; exact hit j a c
    have hpar1 := hpar.fr hF (by decide)
    refine tm_iload dX12_dropAll_103 0 rfl ?_
    refine tm_if_eq (tgt := 202) dX12_dropAll_105 (by decide) ⟨by omega, by omega⟩ (fun h1 => ?_) (fun h1 => ?_)
    · exact tm_sub [0, 1, 2, 3] rfl (hx_202 (w) (ce) σ (Fr.rfl.trans (Fr.sub hF (by decide) (by decide) (by decide))) hR (by omega) hok hcd hlex hlm hxo hn h9 hl hbl hbo (by obtain ⟨⟨t, t1, t2⟩, t3, t4⟩ := hdt; exact ⟨t, t1, t4 (by omega), t2⟩))
    · refine tm_aload_n dX12_dropAll_108 rfl 2 rfl ?_
      refine tm_iload_n dX12_dropAll_109 rfl 3 rfl ?_
      refine tm_callV (M := m_X12_dropAll) (pc := 110) (ix := 475) (M' := m_X12_findLives) (As := [.int (iI r)]) (rest := []) dX12_dropAll_110 ok_X12_findLives im_X12_findLives se_X12_findLives ml12_475 np_X12_findLives rfl rfl (Nat.le_of_ble_eq_true rfl) (Nat.le_of_ble_eq_true rfl) rfl (f_X12_findLives (d + 1) (σ := σ) (r := r) (F := F) (by omega) hR hit1 hpar1 hok hl hbl hlex hdt.2.1) (fun r2 σ3 hp => ?_)
      obtain ⟨rfl, f5, f6, f7, f8, f9, f10, f11, f12⟩ := hp
      show Tm _ _ 113 b σ3 [(4, .int (iI ce)), (2, .int (iI w)), (0, .ref b), (1, .int (iI r))] [] _
      have htd1 := f11
      have hld1 := f12
      have f1 := f5
      have hl1 := f7
      have hbl1 := f8
      have htg1 := f9
      have e9 : σ3.2.1 9 = σ.2.1 9 := f1.2.1 9 (by decide)
      refine tm_iconst dX12_dropAll_113 ?_
      refine tm_istore (L' := [(4, .int (iI 0)), (2, .int (iI w)), (0, .ref b), (1, .int (iI r))]) dX12_dropAll_114 (by decide) rfl ?_
      refine tm_aload_n dX12_dropAll_116 rfl 2 rfl ?_
      refine tm_get (k := 9) (v := .ref (b + 1 + 7)) lay_12 dX12_dropAll_117 (by decide) fl12_32 rfl ?_
      refine tm_iload_n dX12_dropAll_120 rfl 3 rfl ?_
      refine tm_iald (z := r) (v := σ.2.1 9 r) dX12_dropAll_121 (show mT[7]? = some (9, 0, 13) from rfl) (by omega) (by omega) (by decide) (ra_F f5 (by decide) (rfl)) ?_
      have g13 := RG.a hR 9 (r)
      refine tm_iconst dX12_dropAll_122 ?_
      refine tm_isub dX12_dropAll_123 ?_
      refine tm_istore (L' := [(5, .int (iI ((σ.2.1 9 r) - 1))), (4, .int (iI 0)), (2, .int (iI w)), (0, .ref b), (1, .int (iI r))]) dX12_dropAll_124 (by decide) rfl ?_
      refine tm_sub [0, 1, 2, 3, 4] rfl (f_drop3 (d) (σ0 := σ3) (r := r) (F := F) (n0 := (σ.2.1 9 r)) (V0 := (rV σ r)) (w0 := w) hr f6 (hit1.fr f1 (by decide)) (hpar1.fr f1 (by decide)) hdt.2.1 (fun w32 ce33 k34 σ35 F18 R19 f20 f21 f22 f23 f24 f25 f26 f27 f28 f29 f30 f31 => ?_) _ (w) (0) ((σ.2.1 9 r) - 1) σ3 Fr.rfl f6 (by rw [e9]; omega) (fun _ => htg1) (hok.fr f1 (by decide)) (hcd.fr f1 (by decide) (by decide)) (hlex.fr f1 (by decide)) (hlm.fr f1 (by decide)) XO.rfl (by rw [e9]; exact hn) (fun _ _ => rfl) hl1 hbl1 (hbo.fr f1 (by decide)) ⟨fun _ => ⟨rfl, rv_fr f1 (by decide), hld1, htd1, fun i a b => by omega⟩, fun e => absurd e (by decide)⟩ rfl)
      show Tm _ _ 199 b σ35 [(5, .int (iI k34)), (4, .int (iI ce33)), (2, .int (iI w32)), (0, .ref b), (1, .int (iI r))] [] _
      refine tm_goto (tgt := 103) dX12_dropAll_199 (by decide) ?_
      exact tm_sub [1, 2, 3, 4] rfl (ih _ (by omega) (w32) (ce33) σ35 (((Fr.rfl.trans (Fr.sub hF (by decide) (by decide) (by decide))).trans (Fr.sub f5 (by decide) (by decide) (by decide))).trans (Fr.sub F18 (by decide) (by decide) (by decide))) R19 (by omega) f21 f22 f23 f24 ((hxo.trans (XO.fr f1 (by decide))).trans f25) f26 (fun j hj => by rw [f27 j hj, e9]; exact h9 j hj) f28 f29 f30 (by
          have hE := f31
          have hh := f20
          obtain ⟨⟨t, t1, t2⟩, t3, t4⟩ := hdt
          by_cases z : ce33 = 0
          · have q := hE.1 z
            rw [q.2.1, show σ35.2.1 9 r = σ.2.1 9 r by omega]
            exact ⟨⟨t, t1, by omega⟩, t3, fun _ => q.2.2⟩
          · obtain ⟨q1, u, q2, q3⟩ := hE.2 (by omega)
            rw [q3, show σ35.2.1 9 r = σ.2.1 9 r - 1 by omega]
            exact ⟨⟨t + 1, ⟨_, _, u, t1, q2, rfl, rfl⟩, by omega⟩, t3.out, fun e => absurd e z⟩) rfl)
set_option maxHeartbeats 1000000 in
set_option maxRecDepth 20000 in
theorem f_X12_dropAll (d : Nat) {b : Nat} {σ : MS} {r : Int} {F : Int} (hr : 0 ≤ r ∧ r < 6) (hR : RG σ) (hit : ITM σ) (hpar : PAR σ) (hok : OKS σ F r) (hl : LAB σ) (hbl : BO 59 σ) (hbo : BO 47 σ) (hn : 1 ≤ σ.2.1 9 r) (hcd : CODE σ r) (hlex : LEX σ r) (hlm : LBM σ r) (hu : UNQ (rV σ r) (σ.2.1 9 r)) : Tm (d + 7) m_X12_dropAll 0 b σ [(0, .ref b), (1, .int (iI r))] [] (fun ro σ2 => ∃ v : Int, ro = some (.int (iI v)) ∧ (Fr [] [3, 4, 5, 6, 7, 8, 9, 46, 47, 59] [] σ σ2) ∧ (RG σ2) ∧ ((1 ≤ σ2.2.1 9 r ∧ σ2.2.1 9 r ≤ σ.2.1 9 r) ∧ ∀ j, j ≠ r → σ2.2.1 9 j = σ.2.1 9 j) ∧ (XO r σ σ2) ∧ (OKS σ2 F r) ∧ (CODE σ2 r) ∧ (LEX σ2 r) ∧ (LBM σ2 r) ∧ (LAB σ2) ∧ (BO 59 σ2) ∧ (BO 47 σ2) ∧ (DRX (rV σ r) (σ.2.1 9 r) (rV σ2 r) (σ2.2.1 9 r) v)) := by
  have q1 := hit r (by omega) (by omega)
  refine tm_iconst dX12_dropAll_0 ?_
  refine tm_istore_n (L' := [(2, .int (iI 0)), (0, .ref b), (1, .int (iI r))]) dX12_dropAll_1 rfl (by decide) rfl ?_
  refine tm_aload_n dX12_dropAll_2 rfl 1 rfl ?_
  refine tm_iload_n dX12_dropAll_3 rfl 2 rfl ?_
  refine tm_callV (M := m_X12_dropAll) (pc := 4) (ix := 420) (M' := m_X12_findLabels) (As := [.int (iI r)]) (rest := []) dX12_dropAll_4 ok_X12_findLabels im_X12_findLabels se_X12_findLabels ml12_420 np_X12_findLabels rfl rfl (Nat.le_of_ble_eq_true rfl) (Nat.le_of_ble_eq_true rfl) rfl (c_X12_findLabels (d + 4) (σ := σ) (r := r) (by omega) hR hit hok.jmp.lbr hl) (fun r1 σ2 hp => ?_)
  obtain ⟨rfl, f4, f5, f6, f7⟩ := hp
  show Tm _ _ 7 b σ2 [(2, .int (iI 0)), (0, .ref b), (1, .int (iI r))] [] _
  have f1 := f4
  have hl1 := f6
  have htd1 := LEX.tgd hlex f7 f1
  have e91 : σ2.2.1 9 r = σ.2.1 9 r := by rw [f1.2.1 9 (by decide)]
  refine tm_aload_n dX12_dropAll_7 rfl 1 rfl ?_
  refine tm_iload_n dX12_dropAll_8 rfl 2 rfl ?_
  refine tm_callV (M := m_X12_dropAll) (pc := 9) (ix := 472) (M' := m_X12_findReached) (As := [.int (iI r)]) (rest := []) dX12_dropAll_9 ok_X12_findReached im_X12_findReached se_X12_findReached ml12_472 np_X12_findReached rfl rfl (Nat.le_of_ble_eq_true rfl) (Nat.le_of_ble_eq_true rfl) rfl (f_X12_findReached (d + 3) (σ := σ2) (r := r) (by omega) f5 (hit.fr f1 (by decide)) (hok.jmp.fr f1 (by decide)) htd1 (hbo.fr f1 (by decide)) (by rw [rv_fr f1 (by decide), e91]; exact hu)) (fun r8 σ9 hp => ?_)
  obtain ⟨rfl, f11, f12, f13, f14, f15, f16, f17⟩ := hp
  show Tm _ _ 12 b σ9 [(2, .int (iI 0)), (0, .ref b), (1, .int (iI r))] [] _
  have f2 := f11
  have hbo2 := f13
  have h02 := f14
  have e99 : σ9.2.1 9 r = σ2.2.1 9 r := by rw [f2.2.1 9 (by decide)]
  have hmn2 : MNR σ9 r (σ9.2.1 9 r) := by rw [e99]; exact f15
  have hrd2 := f17
  have hcl2 : CLO σ9 r (σ9.2.1 9 r) := by rw [e99]; exact f16
  have htd2 := htd1.fr f2 (by decide)
  have hl2 := hl1.fr f2 (by decide)
  refine tm_iconst dX12_dropAll_12 ?_
  refine tm_istore_n (L' := [(3, .int (iI 0)), (2, .int (iI 0)), (0, .ref b), (1, .int (iI r))]) dX12_dropAll_13 rfl (by decide) rfl ?_
  refine tm_iconst dX12_dropAll_14 ?_
  refine tm_istore (L' := [(4, .int (iI 0)), (3, .int (iI 0)), (2, .int (iI 0)), (0, .ref b), (1, .int (iI r))]) dX12_dropAll_15 (by decide) rfl ?_
  refine tm_sub [0, 1, 2, 3, 4] rfl (f_drop1 (d + 5) (σ0 := σ9) (r := r) (F := F) (V := (rV σ r)) hr f12 (hit.fr (show Fr [] [46, 47] [] σ σ9 from ((Fr.rfl.trans (Fr.sub f4 (by decide) (by decide) (by decide))).trans (Fr.sub f11 (by decide) (by decide) (by decide)))) (by decide)) (hok.fr (show Fr [] [46, 47] [] σ σ9 from ((Fr.rfl.trans (Fr.sub f4 (by decide) (by decide) (by decide))).trans (Fr.sub f11 (by decide) (by decide) (by decide)))) (by decide)) hbo2 (rv_fr (show Fr [] [46, 47] [] σ σ9 from ((Fr.rfl.trans (Fr.sub f4 (by decide) (by decide) (by decide))).trans (Fr.sub f11 (by decide) (by decide) (by decide)))) (by decide)).symm (by rw [show _ = σ.2.1 9 r from congrFun (((show Fr [] [46, 47] [] σ σ9 from ((Fr.rfl.trans (Fr.sub f4 (by decide) (by decide) (by decide))).trans (Fr.sub f11 (by decide) (by decide) (by decide))))).2.1 9 (by decide)) r]; rw [rv_fr f1 (by decide), e91] at hrd2; exact hrd2) (fun w27 t28 k29 σ30 F22 R23 f24 f25 f26 => ?_) _ (0) (0) (0) σ9 Fr.rfl f12 (by rw [((show Fr [] [46, 47] [] σ σ9 from ((Fr.rfl.trans (Fr.sub f4 (by decide) (by decide) (by decide))).trans (Fr.sub f11 (by decide) (by decide) (by decide))))).2.1 9 (by decide)]; omega) DLP.start (by rw [ov_0]; rfl) rfl)
  show Tm _ _ 93 b σ30 [(4, .int (iI k29)), (3, .int (iI t28)), (2, .int (iI w27)), (0, .ref b), (1, .int (iI r))] [] _
  have f12 := (show Fr [] [46, 47] [] σ σ9 from ((Fr.rfl.trans (Fr.sub f4 (by decide) (by decide) (by decide))).trans (Fr.sub f11 (by decide) (by decide) (by decide))))
  have e9 : σ9.2.1 9 r = σ.2.1 9 r := by rw [f12.2.1 9 (by decide)]
  have e92 : σ30.2.1 9 = σ.2.1 9 := by rw [F22.2.1 9 (by decide), f12.2.1 9 (by decide)]
  have hfin := DLP.fin f25 ⟨rfl, by omega⟩ F22 (hcd.fr f12 (by decide) (by decide)) htd2 (hlm.fr f12 (by decide)) hbo2 h02 hmn2 hcl2
  have hxo1 := ((XO.fr (r := r) f12 (by decide)).trans f25.2.2.1).trans (XO.fr (r := r) (τ := sA 9 r t28 σ30) ((Fr.rfl (ss := []) (ks := [9]) (js := [])).A (by decide)) (by decide))
  have hl3 := (hl2.fr F22 (by decide))
  have hbo3 := hbo2.fr F22 (by decide)
  have hbl3 := (hbl.fr f12 (by decide)).fr F22 (by decide)
  have hD : dr1 (rV σ r) (σ.2.1 9 r) (σ.2.1 9 r).toNat = (t28, w27, oV σ30 r t28) := by have e8 := f26; rw [e9] at e8; exact e8
  have hD4 : rV (sA 9 r t28 σ30) r = oV σ30 r t28 := by rw [rv_ov, show (sA 9 r t28 σ30).2.1 9 r = t28 from ra_eq]; rfl
  have hDu := UNQ.dr1 hu (by omega)
  rw [hD] at hDu
  refine tm_aload_n dX12_dropAll_93 rfl 3 rfl ?_
  refine tm_get (k := 9) (v := .ref (b + 1 + 7)) lay_12 dX12_dropAll_94 (by decide) fl12_32 rfl ?_
  refine tm_iload_n dX12_dropAll_97 rfl 4 rfl ?_
  refine tm_iload_n dX12_dropAll_98 rfl 1 rfl ?_
  refine tm_iast (z := r) (v := t28) dX12_dropAll_99 (show mT[7]? = some (9, 0, 13) from rfl) (by omega) (by omega) (by decide) ?_
  refine tm_iconst dX12_dropAll_100 ?_
  refine tm_istore (L' := [(4, .int (iI 1)), (3, .int (iI t28)), (2, .int (iI w27)), (0, .ref b), (1, .int (iI r))]) dX12_dropAll_101 (by decide) rfl ?_
  refine tm_sub [0, 2, 3, 4] rfl (f_drop2 (d) (σ0 := (sA 9 (r) (t28) σ30)) (r := r) (F := F) (V0 := (rV (sA 9 (r) (t28) σ30) r)) (n0 := t28) (w0 := w27) hr (R23.A (by omega)) (fun j a c => by
    by_cases q : j = r
    · rw [q, show (sA 9 (r) (t28) σ30).2.1 9 r = t28 from ra_eq]; omega
    · rw [show (sA 9 (r) (t28) σ30).2.1 9 j = σ.2.1 9 j from ra_ne q (by rw [e92])]; exact hit j a c) (hpar.fr (show Fr [] [3, 4, 5, 6, 7, 8, 9, 46, 47] [] σ (sA 9 (r) (t28) σ30) from ((((Fr.rfl.trans (Fr.sub f4 (by decide) (by decide) (by decide))).trans (Fr.sub f11 (by decide) (by decide) (by decide))).trans (Fr.sub F22 (by decide) (by decide) (by decide))).A (by decide))) (by decide)) (fun w48 ce49 σ50 F34 R35 f36 f37 f38 f39 f40 f41 f42 f43 f44 f45 f46 f47 => ?_) _ (w27) (1) (sA 9 (r) (t28) σ30) Fr.rfl (R23.A (by omega)) (by rw [show (sA 9 (r) (t28) σ30).2.1 9 r = t28 from ra_eq]; omega) hfin.2.2.2.2 hfin.1 hfin.2.2.1 hfin.2.2.2.1 XO.rfl (by rw [show (sA 9 (r) (t28) σ30).2.1 9 r = t28 from ra_eq]; exact hfin.2.1) (fun _ _ => rfl) (hl3.fr ((Fr.rfl (ss := []) (ks := [9]) (js := [])).A (by decide)) (by decide)) (hbl3.fr ((Fr.rfl (ss := []) (ks := [9]) (js := [])).A (by decide)) (by decide)) (hbo3.fr ((Fr.rfl (ss := []) (ks := [9]) (js := [])).A (by decide)) (by decide)) (by rw [show (sA 9 (r) (t28) σ30).2.1 9 r = t28 from ra_eq]; exact ⟨⟨0, ⟨rfl, rfl⟩, by omega⟩, by rw [hD4]; exact hDu, fun e => absurd e (by decide)⟩) rfl)
  show Tm _ _ 202 b σ50 [(4, .int (iI ce49)), (2, .int (iI w48)), (0, .ref b), (1, .int (iI r))] [] _
  refine tm_iload_n dX12_dropAll_202 rfl 1 rfl ?_
  exact tm_iret rfl dX12_dropAll_203 (⟨_, rfl, (((((Fr.rfl.trans (Fr.sub f4 (by decide) (by decide) (by decide))).trans (Fr.sub f11 (by decide) (by decide) (by decide))).trans (Fr.sub F22 (by decide) (by decide) (by decide))).A (by decide)).trans (Fr.sub F34 (by decide) (by decide) (by decide))), R35, ⟨by have h1 := f36; have h2 := f42; rw [show (sA 9 (r) (t28) σ30).2.1 9 r = t28 from ra_eq] at h1; omega, fun j hj => by rw [f43 j hj]; exact ra_ne hj (by rw [e92])⟩, hxo1.trans f41, f37, f38, f39, f40, f44, f45, f46, by obtain ⟨t, t1, t2, t3⟩ := f47; refine ⟨t, ?_, t2, ?_⟩; rw [hD]; rw [hD4] at t1; exact t1; rw [hD]; exact t3⟩)
end
section
def actA (σ : MS) (r : Int) : Int → Prop := fun k => σ.2.1 3 (220 * r + k) ≤ 10
theorem cN_ext {P Q : Int → Prop} {a : Int} {n : Nat} (h : ∀ i, a ≤ i → i < a + n → (P i ↔ Q i)) : cN P a n = cN Q a n := by
  induction n with
  | zero => rfl
  | succ n ih =>
    show cN P a n + dI (P (a + n)) 1 0 = cN Q a n + dI (Q (a + n)) 1 0
    rw [ih (fun i x y => h i x (by omega)), dI_c (h (a + n) (by omega) (by omega))]
def RGB (σ : MS) (r B : Int) : Prop := RGN σ r B (σ.2.1 14 r) ∧ RGI σ r B (σ.2.1 9 r)
def LBB (σ : MS) (r B : Int) : Prop := ∀ j, 0 ≤ j → j < σ.2.1 9 r → (σ.2.1 3 (220 * r + j) = 8 ∨ σ.2.1 3 (220 * r + j) = 9 ∨ σ.2.1 3 (220 * r + j) = 13) → σ.2.1 4 (220 * r + j) < B
def rgV (V : Int → It) (n : Int) (H : Int → Prop) (B : Int) : Prop := (∀ g, H g → g < B) ∧ ∀ k, 0 ≤ k → k < n → ∀ g, wrT (V k) g ∨ rdI (V k) g → g < B
def mxV (P : Int → Prop) (v : Int) : Prop := 0 ≤ v ∧ P v ∧ ∀ B, 0 ≤ B → P B → v ≤ B
theorem mxV.det {P : Int → Prop} {u v : Int} (h : mxV P u) (g : mxV P v) : u = v := by
  have := h.2.2 v g.1 g.2.1
  have := g.2.2 u h.1 h.2.1
  omega
def lbV (V : Int → It) (n B : Int) : Prop := ∀ k, 0 ≤ k → k < n → (V k 0 = 8 ∨ V k 0 = 9 ∨ V k 0 = 13) → V k 1 < B
theorem rgb_rv {σ : MS} {r F B : Int} (ho : OKS σ F r) (hp : PAR σ) : RGB σ r B ↔ rgV (rV σ r) (σ.2.1 9 r) (NMM σ r) B := by
  unfold RGB rgV
  constructor
  · rintro ⟨a, b⟩
    refine ⟨fun g ⟨f, f0, f1, n, n0, n1, e⟩ => by rw [← e]; exact a f f0 f1 n n0 n1, fun k k0 k1 g q => ?_⟩
    rw [rv_in k0 k1] at q
    rcases q with q | q
    · rw [← q.2]; exact (b k k0 k1).1 q.1
    · obtain ⟨i, i0, i1, i2, i3⟩ := ((ho k k0 k1).lean (nArgs_4 (ho k k0 k1) hp).2).mpr q
      rw [← i3]; exact (b k k0 k1).2 i i0 i1 i2
  · rintro ⟨a, b⟩
    refine ⟨fun f f0 f1 n n0 n1 => a _ ⟨f, f0, f1, n, n0, n1, rfl⟩, fun k k0 k1 => ⟨fun q => b k k0 k1 _ (Or.inl ?_), fun i i0 i1 i2 => b k k0 k1 _ (Or.inr ?_)⟩⟩
    · rw [rv_in k0 k1]; exact ⟨q, rfl⟩
    · rw [rv_in k0 k1]
      exact ((ho k k0 k1).lean (nArgs_4 (ho k k0 k1) hp).2).mp ⟨i, i0, i1, i2, rfl⟩
theorem lbb_rv {σ : MS} {r B : Int} : LBB σ r B ↔ lbV (rV σ r) (σ.2.1 9 r) B := by
  unfold LBB lbV
  constructor
  · intro h k a b
    rw [rv_in a b]
    exact h k a b
  · intro h k a b
    have := h k a b
    rw [rv_in a b] at this
    exact this
end
section
set_option maxHeartbeats 1000000 in
set_option maxRecDepth 20000 in
theorem f_acts (d : Nat) {b : Nat} {σ : MS} {r : Int} {post : Option Value → MS → Prop} (hr : 0 ≤ r ∧ r < 12) (hR : RG σ) (hit : ITM σ) (hx_45 : ∀ (n1 : Int) (k : Int) , (0 ≤ n1 ∧ n1 ≤ 220) → (n1 = cN (actA σ r) 0 (σ.2.1 9 r - 0).toNat) → Tm (d + 3) m_X12_acts 45 b σ [(3, .int (iI k)), (2, .int (iI n1)), (0, .ref b), (1, .int (iI r))] [] post) : ∀ (n : Nat) (n1 : Int) (k : Int) , (0 ≤ n1 ∧ n1 ≤ k ∧ k ≤ 220 ∧ k ≤ σ.2.1 9 r) → (n1 = cN (actA σ r) 0 (k - 0).toNat) → (220 - k).toNat = n → Tm (d + 3) m_X12_acts 4 b σ [(3, .int (iI k)), (2, .int (iI n1)), (0, .ref b), (1, .int (iI r))] [] post := by
  intro n
  induction n using Nat.strongRecOn with
  | _ n ih =>
    intro n1 k h0 hc hm
    refine tm_iload_n dX12_acts_4 rfl 0 rfl ?_
    refine tm_aload_n dX12_acts_5 rfl 2 rfl ?_
    refine tm_get (k := 9) (v := .ref (b + 1 + 7)) lay_12 dX12_acts_6 (by decide) fl12_32 rfl ?_
    refine tm_iload_n dX12_acts_9 rfl 3 rfl ?_
    refine tm_iald (z := r) (v := σ.2.1 9 r) dX12_acts_10 (show mT[7]? = some (9, 0, 13) from rfl) (by omega) (by omega) (by decide) (rfl) ?_
    have g1 := RG.a hR 9 (r)
    have := hit (r) (by omega) (by omega)
    refine tm_icmp_ge (tgt := 45) dX12_acts_11 (by decide) ⟨by omega, by omega⟩ ⟨by omega, by omega⟩ (fun h2 => ?_) (fun h2 => ?_)
    · exact tm_sub [0, 1, 2, 3] rfl (hx_45 (n1) (k) (by omega) (by rw [show σ.2.1 9 r = k by omega]; exact hc))
    · refine tm_iload_n dX12_acts_14 rfl 1 rfl ?_
      refine tm_aload_n dX12_acts_15 rfl 2 rfl ?_
      refine tm_get (k := 3) (v := .ref (b + 1 + 1)) lay_12 dX12_acts_16 (by decide) fl12_13 rfl ?_
      refine tm_aload_n dX12_acts_19 rfl 2 rfl ?_
      refine tm_iload_n dX12_acts_20 rfl 3 rfl ?_
      refine tm_iload_n dX12_acts_21 rfl 0 rfl ?_
      refine tm_callV (M := m_X12_acts) (pc := 22) (ix := 203) (M' := m_X12_at) (As := [.int (iI r), .int (iI k)]) (rest := [.ref (b + 1 + 1), .int (iI n1)]) dX12_acts_22 ok_X12_at im_X12_at se_X12_at ml12_203 np_X12_at rfl rfl (Nat.le_of_ble_eq_true rfl) (Nat.le_of_ble_eq_true rfl) rfl (c_X12_at (d + 1) (σ := σ) (x := r) (k := k) ) (fun r3 σ4 hp => ?_)
      obtain ⟨v5, rfl, rfl, f6⟩ := hp
      subst f6
      show Tm _ _ 25 b σ [(3, .int (iI k)), (2, .int (iI n1)), (0, .ref b), (1, .int (iI r))] [.int (iI (220 * r + k)), .ref (b + 1 + 1), .int (iI n1)] _
      refine tm_iald (z := 220 * r + k) (v := σ.2.1 3 (220 * r + k)) dX12_acts_25 (show mT[1]? = some (3, 0, 2860) from rfl) (by omega) (by omega) (by decide) (rfl) ?_
      have g7 := RG.a hR 3 (220 * r + k)
      refine tm_callS (M := m_X12_acts) (pc := 26) (ix := 401) (M' := m_X12_isAct) (As := [.int (iI (σ.2.1 3 (220 * r + k)))]) (rest := [.int (iI n1)]) dX12_acts_26 ok_X12_isAct stt_X12_isAct ml12_401 np_X12_isAct rfl (Nat.le_of_ble_eq_true rfl) (Nat.le_of_ble_eq_true rfl) rfl (c_X12_isAct (d + 1) (σ := σ) (x := σ.2.1 3 (220 * r + k)) (by omega)) (fun r8 σ9 hp => ?_)
      obtain ⟨v10, rfl, rfl, f11, f12⟩ := hp
      show Tm _ _ 29 b σ [(3, .int (iI k)), (2, .int (iI n1)), (0, .ref b), (1, .int (iI r))] [.int (iI v10), .int (iI n1)] _
      refine tm_if_eq (tgt := 36) dX12_acts_29 (by decide) ⟨by omega, by omega⟩ (fun h13 => ?_) (fun h13 => ?_)
      · refine tm_iconst dX12_acts_36 ?_
        refine tm_iadd dX12_acts_37 ?_
        refine tm_istore_n (L' := [(2, .int (iI (n1 + 0))), (3, .int (iI k)), (0, .ref b), (1, .int (iI r))]) dX12_acts_38 rfl (by decide) rfl ?_
        refine tm_iinc (q0 := 1) (L' := [(3, .int (iI (k + 1))), (2, .int (iI (n1 + 0))), (0, .ref b), (1, .int (iI r))]) dX12_acts_39 rfl (by decide) rfl ?_
        refine tm_goto (tgt := 4) dX12_acts_42 (by decide) ?_
        exact tm_sub [0, 1, 2, 3] rfl (ih _ (by omega) (n1 + 0) (k + 1) (by omega) (by rw [cN_s (by omega)]; first | (rw [dI_y (show actA σ r k from f12.mp (by omega))]; omega) | (rw [dI_n (show ¬ actA σ r k from fun z => by have e9 := f12.mpr z; omega)]; omega)) rfl)
      · refine tm_iconst dX12_acts_32 ?_
        refine tm_goto (tgt := 37) dX12_acts_33 (by decide) ?_
        refine tm_iadd dX12_acts_37 ?_
        refine tm_istore_n (L' := [(2, .int (iI (n1 + 1))), (3, .int (iI k)), (0, .ref b), (1, .int (iI r))]) dX12_acts_38 rfl (by decide) rfl ?_
        refine tm_iinc (q0 := 1) (L' := [(3, .int (iI (k + 1))), (2, .int (iI (n1 + 1))), (0, .ref b), (1, .int (iI r))]) dX12_acts_39 rfl (by decide) rfl ?_
        refine tm_goto (tgt := 4) dX12_acts_42 (by decide) ?_
        exact tm_sub [0, 1, 2, 3] rfl (ih _ (by omega) (n1 + 1) (k + 1) (by omega) (by rw [cN_s (by omega)]; first | (rw [dI_y (show actA σ r k from f12.mp (by omega))]; omega) | (rw [dI_n (show ¬ actA σ r k from fun z => by have e9 := f12.mpr z; omega)]; omega)) rfl)
set_option maxHeartbeats 1000000 in
set_option maxRecDepth 20000 in
theorem f_X12_acts (d : Nat) {b : Nat} {σ : MS} {r : Int} (hr : 0 ≤ r ∧ r < 12) (hR : RG σ) (hit : ITM σ) : Tm (d + 3) m_X12_acts 0 b σ [(0, .ref b), (1, .int (iI r))] [] (fun ro σ2 => ∃ v : Int, ro = some (.int (iI v)) ∧ σ = σ2 ∧ (0 ≤ v ∧ v ≤ 220) ∧ (v = cN (actA σ r) 0 (σ.2.1 9 r - 0).toNat)) := by
  refine tm_iconst dX12_acts_0 ?_
  refine tm_istore_n (L' := [(2, .int (iI 0)), (0, .ref b), (1, .int (iI r))]) dX12_acts_1 rfl (by decide) rfl ?_
  refine tm_iconst dX12_acts_2 ?_
  refine tm_istore_n (L' := [(3, .int (iI 0)), (2, .int (iI 0)), (0, .ref b), (1, .int (iI r))]) dX12_acts_3 rfl (by decide) rfl ?_
  refine tm_sub [0, 1, 2, 3] rfl (f_acts (d) (σ := σ) (r := r) hr hR hit (fun n17 k8 f5 f6 => ?_) _ (0) (0) (by have := hit r (by omega) (by omega); omega) (by rw [show ((0 : Int) - 0).toNat = 0 from rfl]; rfl) rfl)
  show Tm _ _ 45 b σ [(3, .int (iI k8)), (2, .int (iI n17)), (0, .ref b), (1, .int (iI r))] [] _
  refine tm_iload_n dX12_acts_45 rfl 1 rfl ?_
  exact tm_iret rfl dX12_acts_46 (⟨_, rfl, rfl, by omega, f6⟩)
set_option maxHeartbeats 1000000 in
set_option maxRecDepth 20000 in
theorem f_regs2 (d : Nat) {b : Nat} {σ : MS} {r : Int} {f : Int} {post : Option Value → MS → Prop} (hr : 0 ≤ r ∧ r < 6) (hR : RG σ) (hof : OKF σ r) (hnam : NAM σ) (hf : 0 ≤ f ∧ f < σ.2.1 14 r) (hx_79 : ∀ (m : Int) (n1 : Int) , (0 ≤ m ∧ m ≤ 192) → (RGN σ r m (f + 1)) → (∀ B, 0 ≤ B → RGB σ r B → m ≤ B) → Tm (d + 1) m_X12_registers 79 b σ [(4, .int (iI n1)), (3, .int (iI f)), (2, .int (iI m)), (0, .ref b), (1, .int (iI r))] [] post) : ∀ (n : Nat) (m : Int) (n1 : Int) , (0 ≤ m ∧ m ≤ 192 ∧ 0 ≤ n1 ∧ n1 ≤ 12) → (RGN σ r m f) → (∀ j, 0 ≤ j → j < n1 → σ.2.1 18 (144 * r + 12 * f + j) < m) → (∀ B, 0 ≤ B → RGB σ r B → m ≤ B) → (12 - n1).toNat = n → Tm (d + 1) m_X12_registers 17 b σ [(4, .int (iI n1)), (3, .int (iI f)), (2, .int (iI m)), (0, .ref b), (1, .int (iI r))] [] post := by
  intro n
  induction n using Nat.strongRecOn with
  | _ n ih =>
    intro m n1 h0 hg hj hmn hm
    have q1 := hof.1
    have q2 := (hof.2 f (by omega) (by omega)).1
    have q3 := hnam _ q2.1 q2.2
    refine tm_iload dX12_registers_17 0 rfl ?_
    refine tm_aload_n dX12_registers_19 rfl 3 rfl ?_
    refine tm_get (k := 12) (v := .ref (b + 1 + 9)) lay_12 dX12_registers_20 (by decide) fl12_38 rfl ?_
    refine tm_aload_n dX12_registers_23 rfl 3 rfl ?_
    refine tm_get (k := 15) (v := .ref (b + 1 + 12)) lay_12 dX12_registers_24 (by decide) fl12_47 rfl ?_
    refine tm_bipush dX12_registers_27 (by decide) ?_
    refine tm_iload_n dX12_registers_29 rfl 4 rfl ?_
    refine tm_imul dX12_registers_30 ?_
    refine tm_iload_n dX12_registers_31 rfl 1 rfl ?_
    refine tm_iadd dX12_registers_32 ?_
    refine tm_iald (z := (12 * r) + f) (v := σ.2.1 15 ((12 * r) + f)) dX12_registers_33 (show mT[12]? = some (15, 0, 72) from rfl) (by omega) (by omega) (by decide) (rfl) ?_
    have g1 := RG.a hR 15 ((12 * r) + f)
    refine tm_iald (z := σ.2.1 15 ((12 * r) + f)) (v := σ.2.1 12 (σ.2.1 15 ((12 * r) + f))) dX12_registers_34 (show mT[9]? = some (12, 0, 6) from rfl) (by omega) (by omega) (by decide) (rfl) ?_
    have g2 := RG.a hR 12 (σ.2.1 15 ((12 * r) + f))
    refine tm_icmp_ge (tgt := 79) dX12_registers_35 (by decide) ⟨by omega, by omega⟩ ⟨by omega, by omega⟩ (fun h3 => ?_) (fun h3 => ?_)
    · exact tm_sub [0, 1, 2, 3, 4] rfl (hx_79 (m) (n1) (by omega) (fun g a c n e i => by
        by_cases q : g = f
        · subst q; exact hj n e (by omega)
        · exact hg g a (by omega) n e i) hmn)
    · have q4 := (hof.2 f (by omega) (by omega)).2 n1 (by omega) (by omega)
      refine tm_aload_n dX12_registers_38 rfl 3 rfl ?_
      refine tm_get (k := 18) (v := .ref (b + 1 + 15)) lay_12 dX12_registers_39 (by decide) fl12_56 rfl ?_
      refine tm_sipush dX12_registers_42 (by decide) ?_
      refine tm_iload_n dX12_registers_45 rfl 4 rfl ?_
      refine tm_imul dX12_registers_46 ?_
      refine tm_bipush dX12_registers_47 (by decide) ?_
      refine tm_iload_n dX12_registers_49 rfl 1 rfl ?_
      refine tm_imul dX12_registers_50 ?_
      refine tm_iadd dX12_registers_51 ?_
      refine tm_iload dX12_registers_52 0 rfl ?_
      refine tm_iadd dX12_registers_54 ?_
      refine tm_iald (z := ((144 * r) + (12 * f)) + n1) (v := σ.2.1 18 (((144 * r) + (12 * f)) + n1)) dX12_registers_55 (show mT[15]? = some (18, 0, 864) from rfl) (by omega) (by omega) (by decide) (rfl) ?_
      have g4 := RG.a hR 18 (((144 * r) + (12 * f)) + n1)
      refine tm_istore (L' := [(5, .int (iI (σ.2.1 18 (((144 * r) + (12 * f)) + n1)))), (4, .int (iI n1)), (3, .int (iI f)), (2, .int (iI m)), (0, .ref b), (1, .int (iI r))]) dX12_registers_56 (by decide) rfl ?_
      refine tm_iload dX12_registers_58 0 rfl ?_
      refine tm_iload_n dX12_registers_60 rfl 3 rfl ?_
      refine tm_icmp_lt (tgt := 71) dX12_registers_61 (by decide) ⟨by omega, by omega⟩ ⟨by omega, by omega⟩ (fun h5 => ?_) (fun h5 => ?_)
      · refine tm_iload_n dX12_registers_71 rfl 3 rfl ?_
        refine tm_istore_n (L' := [(2, .int (iI m)), (5, .int (iI (σ.2.1 18 (((144 * r) + (12 * f)) + n1)))), (4, .int (iI n1)), (3, .int (iI f)), (0, .ref b), (1, .int (iI r))]) dX12_registers_72 rfl (by decide) rfl ?_
        refine tm_iinc (q0 := 2) (L' := [(4, .int (iI (n1 + 1))), (2, .int (iI m)), (5, .int (iI (σ.2.1 18 (((144 * r) + (12 * f)) + n1)))), (3, .int (iI f)), (0, .ref b), (1, .int (iI r))]) dX12_registers_73 rfl (by decide) rfl ?_
        refine tm_goto (tgt := 17) dX12_registers_76 (by decide) ?_
        exact tm_sub [0, 3, 1, 4, 5] rfl (ih _ (by omega) (m) (n1 + 1) (by omega) (hg.up (by omega)) (fun j a c => by
          by_cases e : j = n1
          · subst e; omega
          · have := hj j a (by omega); omega) (fun B b0 hB => by have e1 := hmn B b0 hB; have e2 := hB.1 f (by omega) (by omega) n1 (by omega) (by omega); omega) rfl)
      · refine tm_iload dX12_registers_64 0 rfl ?_
        refine tm_iconst dX12_registers_66 ?_
        refine tm_iadd dX12_registers_67 ?_
        refine tm_goto (tgt := 72) dX12_registers_68 (by decide) ?_
        refine tm_istore_n (L' := [(2, .int (iI ((σ.2.1 18 (((144 * r) + (12 * f)) + n1)) + 1))), (5, .int (iI (σ.2.1 18 (((144 * r) + (12 * f)) + n1)))), (4, .int (iI n1)), (3, .int (iI f)), (0, .ref b), (1, .int (iI r))]) dX12_registers_72 rfl (by decide) rfl ?_
        refine tm_iinc (q0 := 2) (L' := [(4, .int (iI (n1 + 1))), (2, .int (iI ((σ.2.1 18 (((144 * r) + (12 * f)) + n1)) + 1))), (5, .int (iI (σ.2.1 18 (((144 * r) + (12 * f)) + n1)))), (3, .int (iI f)), (0, .ref b), (1, .int (iI r))]) dX12_registers_73 rfl (by decide) rfl ?_
        refine tm_goto (tgt := 17) dX12_registers_76 (by decide) ?_
        exact tm_sub [0, 3, 1, 4, 5] rfl (ih _ (by omega) ((σ.2.1 18 (((144 * r) + (12 * f)) + n1)) + 1) (n1 + 1) (by omega) (hg.up (by omega)) (fun j a c => by
          by_cases e : j = n1
          · subst e; omega
          · have := hj j a (by omega); omega) (fun B b0 hB => by have e1 := hmn B b0 hB; have e2 := hB.1 f (by omega) (by omega) n1 (by omega) (by omega); omega) rfl)
set_option maxHeartbeats 1000000 in
set_option maxRecDepth 20000 in
theorem f_regs1 (d : Nat) {b : Nat} {σ : MS} {r : Int} {post : Option Value → MS → Prop} (hr : 0 ≤ r ∧ r < 6) (hR : RG σ) (hof : OKF σ r) (hnam : NAM σ) (hx_85 : ∀ (m : Int) (f : Int) , (0 ≤ m ∧ m ≤ 192) → (RGN σ r m (σ.2.1 14 r)) → (∀ B, 0 ≤ B → RGB σ r B → m ≤ B) → Tm (d + 1) m_X12_registers 85 b σ [(3, .int (iI f)), (2, .int (iI m)), (0, .ref b), (1, .int (iI r))] [] post) : ∀ (n : Nat) (m : Int) (f : Int) , (0 ≤ m ∧ m ≤ 192 ∧ 0 ≤ f ∧ f ≤ σ.2.1 14 r) → (RGN σ r m f) → (∀ B, 0 ≤ B → RGB σ r B → m ≤ B) → (12 - f).toNat = n → Tm (d + 1) m_X12_registers 4 b σ [(3, .int (iI f)), (2, .int (iI m)), (0, .ref b), (1, .int (iI r))] [] post := by
  intro n
  induction n using Nat.strongRecOn with
  | _ n ih =>
    intro m f h0 hg hmn hm
    have q1 := hof.1
    refine tm_iload_n dX12_registers_4 rfl 0 rfl ?_
    refine tm_aload_n dX12_registers_5 rfl 2 rfl ?_
    refine tm_get (k := 14) (v := .ref (b + 1 + 11)) lay_12 dX12_registers_6 (by decide) fl12_44 rfl ?_
    refine tm_iload_n dX12_registers_9 rfl 3 rfl ?_
    refine tm_iald (z := r) (v := σ.2.1 14 r) dX12_registers_10 (show mT[11]? = some (14, 0, 6) from rfl) (by omega) (by omega) (by decide) (rfl) ?_
    have g1 := RG.a hR 14 (r)
    refine tm_icmp_ge (tgt := 85) dX12_registers_11 (by decide) ⟨by omega, by omega⟩ ⟨by omega, by omega⟩ (fun h2 => ?_) (fun h2 => ?_)
    · exact tm_sub [0, 1, 2, 3] rfl (hx_85 (m) (f) (by omega) (by rw [show σ.2.1 14 r = f by omega]; exact hg) hmn)
    · refine tm_iconst dX12_registers_14 ?_
      refine tm_istore (L' := [(4, .int (iI 0)), (3, .int (iI f)), (2, .int (iI m)), (0, .ref b), (1, .int (iI r))]) dX12_registers_15 (by decide) rfl ?_
      refine tm_sub [0, 1, 2, 3, 4] rfl (f_regs2 (d) (σ := σ) (r := r) (f := f) hr hR hof hnam (by omega) (fun m10 n111 f7 f8 f9 => ?_) _ (m) (0) (by omega) hg (fun j a c => by omega) hmn rfl)
      show Tm _ _ 79 b σ [(4, .int (iI n111)), (3, .int (iI f)), (2, .int (iI m10)), (0, .ref b), (1, .int (iI r))] [] _
      refine tm_iinc (q0 := 1) (L' := [(3, .int (iI (f + 1))), (4, .int (iI n111)), (2, .int (iI m10)), (0, .ref b), (1, .int (iI r))]) dX12_registers_79 rfl (by decide) rfl ?_
      refine tm_goto (tgt := 4) dX12_registers_82 (by decide) ?_
      exact tm_sub [0, 2, 3, 4] rfl (ih _ (by omega) (m10) (f + 1) (by omega) f8 f9 rfl)
set_option maxHeartbeats 1000000 in
set_option maxRecDepth 20000 in
theorem f_regs4 (d : Nat) {b : Nat} {σ : MS} {r : Int} {F : Int} {k : Int} {m0 : Int} {post : Option Value → MS → Prop} (hr : 0 ≤ r ∧ r < 12) (hR : RG σ) (hit : ITM σ) (hpar : PAR σ) (hok : OKS σ F r) (hk : 0 ≤ k ∧ k < σ.2.1 9 r) (hx_214 : ∀ (m : Int) (i : Int) , (0 ≤ m ∧ m ≤ 192 ∧ m0 ≤ m) → (∀ j, 0 ≤ j → j < nArgs σ (220 * r + k) → σ.2.1 7 (4 * (220 * r + k) + j) = 2 → σ.2.1 8 (4 * (220 * r + k) + j) < m) → (∀ B, 0 ≤ B → RGB σ r B → m ≤ B) → Tm (d + 4) m_X12_registers 214 b σ [(5, .int (iI i)), (4, .int (iI (220 * r + k))), (3, .int (iI k)), (2, .int (iI m)), (0, .ref b), (1, .int (iI r))] [] post) : ∀ (n : Nat) (m : Int) (i : Int) , (0 ≤ m ∧ m ≤ 192 ∧ m0 ≤ m ∧ 0 ≤ i ∧ i ≤ 4) → (∀ j, 0 ≤ j → j < i → σ.2.1 7 (4 * (220 * r + k) + j) = 2 → σ.2.1 8 (4 * (220 * r + k) + j) < m) → (∀ B, 0 ≤ B → RGB σ r B → m ≤ B) → (4 - i).toNat = n → Tm (d + 4) m_X12_registers 146 b σ [(5, .int (iI i)), (4, .int (iI (220 * r + k))), (3, .int (iI k)), (2, .int (iI m)), (0, .ref b), (1, .int (iI r))] [] post := by
  intro n
  induction n using Nat.strongRecOn with
  | _ n ih =>
    intro m i h0 hj hmn hm
    have q1 := hit r (by omega) (by omega)
    refine tm_iload dX12_registers_146 0 rfl ?_
    refine tm_aload_n dX12_registers_148 rfl 4 rfl ?_
    refine tm_iload dX12_registers_149 1 rfl ?_
    refine tm_callV (M := m_X12_registers) (pc := 151) (ix := 199) (M' := m_X12_args) (As := [.int (iI (220 * r + k))]) (rest := [.int (iI i)]) dX12_registers_151 ok_X12_args im_X12_args se_X12_args ml12_199 np_X12_args rfl rfl (Nat.le_of_ble_eq_true rfl) (Nat.le_of_ble_eq_true rfl) rfl (c_X12_args (d) (σ := σ) (x := 220 * r + k) (by omega) hR (hok.of (by omega) (by omega)) hpar) (fun r1 σ2 hp => ?_)
    obtain ⟨v3, rfl, rfl, f4, f5⟩ := hp
    show Tm _ _ 154 b σ [(5, .int (iI i)), (4, .int (iI (220 * r + k))), (3, .int (iI k)), (2, .int (iI m)), (0, .ref b), (1, .int (iI r))] [.int (iI v3), .int (iI i)] _
    refine tm_icmp_ge (tgt := 214) dX12_registers_154 (by decide) ⟨by omega, by omega⟩ ⟨by omega, by omega⟩ (fun h6 => ?_) (fun h6 => ?_)
    · exact tm_sub [0, 1, 2, 3, 4, 5] rfl (hx_214 (m) (i) (by omega) (fun j a c e => hj j a (by omega) e) hmn)
    · have q2 := hok.arg (k := k) (by omega) (by omega) (i := i) (by omega) (by omega)
      refine tm_aload_n dX12_registers_157 rfl 4 rfl ?_
      refine tm_get (k := 7) (v := .ref (b + 1 + 5)) lay_12 dX12_registers_158 (by decide) fl12_26 rfl ?_
      refine tm_iconst dX12_registers_161 ?_
      refine tm_iload dX12_registers_162 1 rfl ?_
      refine tm_imul dX12_registers_164 ?_
      refine tm_iload dX12_registers_165 0 rfl ?_
      refine tm_iadd dX12_registers_167 ?_
      refine tm_iald (z := (4 * (220 * r + k)) + i) (v := σ.2.1 7 ((4 * (220 * r + k)) + i)) dX12_registers_168 (show mT[5]? = some (7, 0, 11440) from rfl) (by omega) (by omega) (by decide) (rfl) ?_
      have g7 := RG.a hR 7 ((4 * (220 * r + k)) + i)
      refine tm_iconst dX12_registers_169 ?_
      refine tm_icmp_ne (tgt := 206) dX12_registers_170 (by decide) ⟨by omega, by omega⟩ ⟨by decide, by decide⟩ (fun h8 => ?_) (fun h8 => ?_)
      · refine tm_iload_n dX12_registers_206 rfl 3 rfl ?_
        refine tm_istore_n (L' := [(2, .int (iI m)), (5, .int (iI i)), (4, .int (iI (220 * r + k))), (3, .int (iI k)), (0, .ref b), (1, .int (iI r))]) dX12_registers_207 rfl (by decide) rfl ?_
        refine tm_iinc (q0 := 1) (L' := [(5, .int (iI (i + 1))), (2, .int (iI m)), (4, .int (iI (220 * r + k))), (3, .int (iI k)), (0, .ref b), (1, .int (iI r))]) dX12_registers_208 rfl (by decide) rfl ?_
        refine tm_goto (tgt := 146) dX12_registers_211 (by decide) ?_
        exact tm_sub [0, 2, 3, 1, 4, 5] rfl (ih _ (by omega) (m) (i + 1) (by omega) (fun j a c e => by
          by_cases q : j = i
          · subst q; omega
          · have := hj j a (by omega) e; omega) (fun B b0 hB => by have e1 := hmn B b0 hB; have e2 := (hB.2 k (by omega) (by omega)).2 i (by omega) (by omega); omega) rfl)
      · refine tm_aload_n dX12_registers_173 rfl 4 rfl ?_
        refine tm_get (k := 8) (v := .ref (b + 1 + 6)) lay_12 dX12_registers_174 (by decide) fl12_29 rfl ?_
        refine tm_iconst dX12_registers_177 ?_
        refine tm_iload dX12_registers_178 1 rfl ?_
        refine tm_imul dX12_registers_180 ?_
        refine tm_iload dX12_registers_181 0 rfl ?_
        refine tm_iadd dX12_registers_183 ?_
        refine tm_iald (z := (4 * (220 * r + k)) + i) (v := σ.2.1 8 ((4 * (220 * r + k)) + i)) dX12_registers_184 (show mT[6]? = some (8, 0, 11440) from rfl) (by omega) (by omega) (by decide) (rfl) ?_
        have g9 := RG.a hR 8 ((4 * (220 * r + k)) + i)
        refine tm_iload_n dX12_registers_185 rfl 3 rfl ?_
        refine tm_icmp_lt (tgt := 206) dX12_registers_186 (by decide) ⟨by omega, by omega⟩ ⟨by omega, by omega⟩ (fun h10 => ?_) (fun h10 => ?_)
        · refine tm_iload_n dX12_registers_206 rfl 3 rfl ?_
          refine tm_istore_n (L' := [(2, .int (iI m)), (5, .int (iI i)), (4, .int (iI (220 * r + k))), (3, .int (iI k)), (0, .ref b), (1, .int (iI r))]) dX12_registers_207 rfl (by decide) rfl ?_
          refine tm_iinc (q0 := 1) (L' := [(5, .int (iI (i + 1))), (2, .int (iI m)), (4, .int (iI (220 * r + k))), (3, .int (iI k)), (0, .ref b), (1, .int (iI r))]) dX12_registers_208 rfl (by decide) rfl ?_
          refine tm_goto (tgt := 146) dX12_registers_211 (by decide) ?_
          exact tm_sub [0, 2, 3, 1, 4, 5] rfl (ih _ (by omega) (m) (i + 1) (by omega) (fun j a c e => by
          by_cases q : j = i
          · subst q; omega
          · have := hj j a (by omega) e; omega) (fun B b0 hB => by have e1 := hmn B b0 hB; have e2 := (hB.2 k (by omega) (by omega)).2 i (by omega) (by omega); omega) rfl)
        · refine tm_aload_n dX12_registers_189 rfl 4 rfl ?_
          refine tm_get (k := 8) (v := .ref (b + 1 + 6)) lay_12 dX12_registers_190 (by decide) fl12_29 rfl ?_
          refine tm_iconst dX12_registers_193 ?_
          refine tm_iload dX12_registers_194 1 rfl ?_
          refine tm_imul dX12_registers_196 ?_
          refine tm_iload dX12_registers_197 0 rfl ?_
          refine tm_iadd dX12_registers_199 ?_
          refine tm_iald (z := (4 * (220 * r + k)) + i) (v := σ.2.1 8 ((4 * (220 * r + k)) + i)) dX12_registers_200 (show mT[6]? = some (8, 0, 11440) from rfl) (by omega) (by omega) (by decide) (rfl) ?_
          have g11 := RG.a hR 8 ((4 * (220 * r + k)) + i)
          refine tm_iconst dX12_registers_201 ?_
          refine tm_iadd dX12_registers_202 ?_
          refine tm_goto (tgt := 207) dX12_registers_203 (by decide) ?_
          refine tm_istore_n (L' := [(2, .int (iI ((σ.2.1 8 ((4 * (220 * r + k)) + i)) + 1))), (5, .int (iI i)), (4, .int (iI (220 * r + k))), (3, .int (iI k)), (0, .ref b), (1, .int (iI r))]) dX12_registers_207 rfl (by decide) rfl ?_
          refine tm_iinc (q0 := 1) (L' := [(5, .int (iI (i + 1))), (2, .int (iI ((σ.2.1 8 ((4 * (220 * r + k)) + i)) + 1))), (4, .int (iI (220 * r + k))), (3, .int (iI k)), (0, .ref b), (1, .int (iI r))]) dX12_registers_208 rfl (by decide) rfl ?_
          refine tm_goto (tgt := 146) dX12_registers_211 (by decide) ?_
          exact tm_sub [0, 2, 3, 1, 4, 5] rfl (ih _ (by omega) ((σ.2.1 8 ((4 * (220 * r + k)) + i)) + 1) (i + 1) (by omega) (fun j a c e => by
          by_cases q : j = i
          · subst q; omega
          · have := hj j a (by omega) e; omega) (fun B b0 hB => by have e1 := hmn B b0 hB; have e2 := (hB.2 k (by omega) (by omega)).2 i (by omega) (by omega); omega) rfl)
set_option maxHeartbeats 1000000 in
set_option maxRecDepth 20000 in
theorem f_regs3 (d : Nat) {b : Nat} {σ : MS} {r : Int} {F : Int} {m0 : Int} {post : Option Value → MS → Prop} (hr : 0 ≤ r ∧ r < 12) (hR : RG σ) (hit : ITM σ) (hpar : PAR σ) (hok : OKS σ F r) (hx_220 : ∀ (m : Int) (k : Int) , (0 ≤ m ∧ m ≤ 192 ∧ m0 ≤ m) → (RGI σ r m (σ.2.1 9 r)) → (∀ B, 0 ≤ B → RGB σ r B → m ≤ B) → Tm (d + 4) m_X12_registers 220 b σ [(3, .int (iI k)), (2, .int (iI m)), (0, .ref b), (1, .int (iI r))] [] post) : ∀ (n : Nat) (m : Int) (k : Int) , (0 ≤ m ∧ m ≤ 192 ∧ m0 ≤ m ∧ 0 ≤ k ∧ k ≤ σ.2.1 9 r) → (RGI σ r m k) → (∀ B, 0 ≤ B → RGB σ r B → m ≤ B) → (220 - k).toNat = n → Tm (d + 4) m_X12_registers 87 b σ [(3, .int (iI k)), (2, .int (iI m)), (0, .ref b), (1, .int (iI r))] [] post := by
  intro n
  induction n using Nat.strongRecOn with
  | _ n ih =>
    intro m k h0 hg hmn hm
    have q1 := hit r (by omega) (by omega)
    refine tm_iload_n dX12_registers_87 rfl 0 rfl ?_
    refine tm_aload_n dX12_registers_88 rfl 2 rfl ?_
    refine tm_get (k := 9) (v := .ref (b + 1 + 7)) lay_12 dX12_registers_89 (by decide) fl12_32 rfl ?_
    refine tm_iload_n dX12_registers_92 rfl 3 rfl ?_
    refine tm_iald (z := r) (v := σ.2.1 9 r) dX12_registers_93 (show mT[7]? = some (9, 0, 13) from rfl) (by omega) (by omega) (by decide) (rfl) ?_
    have g1 := RG.a hR 9 (r)
    refine tm_icmp_ge (tgt := 220) dX12_registers_94 (by decide) ⟨by omega, by omega⟩ ⟨by omega, by omega⟩ (fun h2 => ?_) (fun h2 => ?_)
    · exact tm_sub [0, 1, 2, 3] rfl (hx_220 (m) (k) (by omega) (by rw [show σ.2.1 9 r = k by omega]; exact hg) hmn)
    · refine tm_aload_n dX12_registers_97 rfl 2 rfl ?_
      refine tm_iload_n dX12_registers_98 rfl 3 rfl ?_
      refine tm_iload_n dX12_registers_99 rfl 0 rfl ?_
      refine tm_callV (M := m_X12_registers) (pc := 100) (ix := 203) (M' := m_X12_at) (As := [.int (iI r), .int (iI k)]) (rest := []) dX12_registers_100 ok_X12_at im_X12_at se_X12_at ml12_203 np_X12_at rfl rfl (Nat.le_of_ble_eq_true rfl) (Nat.le_of_ble_eq_true rfl) rfl (c_X12_at (d + 2) (σ := σ) (x := r) (k := k) ) (fun r3 σ4 hp => ?_)
      obtain ⟨v5, rfl, rfl, f6⟩ := hp
      subst f6
      show Tm _ _ 103 b σ [(3, .int (iI k)), (2, .int (iI m)), (0, .ref b), (1, .int (iI r))] [.int (iI (220 * r + k))] _
      refine tm_istore (L' := [(4, .int (iI (220 * r + k))), (3, .int (iI k)), (2, .int (iI m)), (0, .ref b), (1, .int (iI r))]) dX12_registers_103 (by decide) rfl ?_
      have q2 := hok.dest (k := k) (by omega) (by omega)
      refine tm_aload_n dX12_registers_105 rfl 3 rfl ?_
      refine tm_get (k := 3) (v := .ref (b + 1 + 1)) lay_12 dX12_registers_106 (by decide) fl12_13 rfl ?_
      refine tm_iload dX12_registers_109 0 rfl ?_
      refine tm_iald (z := 220 * r + k) (v := σ.2.1 3 (220 * r + k)) dX12_registers_111 (show mT[1]? = some (3, 0, 2860) from rfl) (by omega) (by omega) (by decide) (rfl) ?_
      have g7 := RG.a hR 3 (220 * r + k)
      refine tm_callS (M := m_X12_registers) (pc := 112) (ix := 192) (M' := m_X12_writes) (As := [.int (iI (σ.2.1 3 (220 * r + k)))]) (rest := []) dX12_registers_112 ok_X12_writes stt_X12_writes ml12_192 np_X12_writes rfl (Nat.le_of_ble_eq_true rfl) (Nat.le_of_ble_eq_true rfl) rfl (c_X12_writes (d + 2) (σ := σ) (x := σ.2.1 3 (220 * r + k)) (by omega)) (fun r8 σ9 hp => ?_)
      obtain ⟨v10, rfl, rfl, f11, f12⟩ := hp
      show Tm _ _ 115 b σ [(4, .int (iI (220 * r + k))), (3, .int (iI k)), (2, .int (iI m)), (0, .ref b), (1, .int (iI r))] [.int (iI v10)] _
      refine tm_if_eq (tgt := 141) dX12_registers_115 (by decide) ⟨by omega, by omega⟩ (fun h13 => ?_) (fun h13 => ?_)
      · refine tm_iload_n dX12_registers_141 rfl 2 rfl ?_
        refine tm_istore_n (L' := [(2, .int (iI m)), (4, .int (iI (220 * r + k))), (3, .int (iI k)), (0, .ref b), (1, .int (iI r))]) dX12_registers_142 rfl (by decide) rfl ?_
        refine tm_iconst dX12_registers_143 ?_
        refine tm_istore (L' := [(5, .int (iI 0)), (2, .int (iI m)), (4, .int (iI (220 * r + k))), (3, .int (iI k)), (0, .ref b), (1, .int (iI r))]) dX12_registers_144 (by decide) rfl ?_
        refine tm_sub [0, 2, 3, 1, 4, 5] rfl (f_regs4 (d) (σ := σ) (r := r) (k := k) (F := F) (m0 := m) hr hR hit hpar hok (by omega) (fun m21 i22 f18 f19 f20 => ?_) _ (m) (0) (by omega) (fun j a c => by omega) (fun B b0 hB => by have e1 := hmn B b0 hB; have e2 := (hB.2 k (by omega) (by omega)).1; omega) rfl)
        show Tm _ _ 214 b σ [(5, .int (iI i22)), (4, .int (iI (220 * r + k))), (3, .int (iI k)), (2, .int (iI m21)), (0, .ref b), (1, .int (iI r))] [] _
        refine tm_iinc (q0 := 2) (L' := [(3, .int (iI (k + 1))), (5, .int (iI i22)), (4, .int (iI (220 * r + k))), (2, .int (iI m21)), (0, .ref b), (1, .int (iI r))]) dX12_registers_214 rfl (by decide) rfl ?_
        refine tm_goto (tgt := 87) dX12_registers_217 (by decide) ?_
        exact tm_sub [0, 3, 4, 5] rfl (ih _ (by omega) (m21) (k + 1) (by omega) (fun j a c => by
          by_cases e : j = k
          · subst e; exact ⟨fun g => by omega, by assumption⟩
          · exact (hg.up (by omega)) j a (by omega)) f20 rfl)
      · refine tm_aload_n dX12_registers_118 rfl 3 rfl ?_
        refine tm_get (k := 4) (v := .ref (b + 1 + 2)) lay_12 dX12_registers_119 (by decide) fl12_17 rfl ?_
        refine tm_iload dX12_registers_122 0 rfl ?_
        refine tm_iald (z := 220 * r + k) (v := σ.2.1 4 (220 * r + k)) dX12_registers_124 (show mT[2]? = some (4, 0, 2860) from rfl) (by omega) (by omega) (by decide) (rfl) ?_
        have g23 := RG.a hR 4 (220 * r + k)
        refine tm_iload_n dX12_registers_125 rfl 2 rfl ?_
        refine tm_icmp_lt (tgt := 141) dX12_registers_126 (by decide) ⟨by omega, by omega⟩ ⟨by omega, by omega⟩ (fun h24 => ?_) (fun h24 => ?_)
        · refine tm_iload_n dX12_registers_141 rfl 2 rfl ?_
          refine tm_istore_n (L' := [(2, .int (iI m)), (4, .int (iI (220 * r + k))), (3, .int (iI k)), (0, .ref b), (1, .int (iI r))]) dX12_registers_142 rfl (by decide) rfl ?_
          refine tm_iconst dX12_registers_143 ?_
          refine tm_istore (L' := [(5, .int (iI 0)), (2, .int (iI m)), (4, .int (iI (220 * r + k))), (3, .int (iI k)), (0, .ref b), (1, .int (iI r))]) dX12_registers_144 (by decide) rfl ?_
          refine tm_sub [0, 2, 3, 1, 4, 5] rfl (f_regs4 (d) (σ := σ) (r := r) (k := k) (F := F) (m0 := m) hr hR hit hpar hok (by omega) (fun m32 i33 f29 f30 f31 => ?_) _ (m) (0) (by omega) (fun j a c => by omega) (fun B b0 hB => by have e1 := hmn B b0 hB; have e2 := (hB.2 k (by omega) (by omega)).1; omega) rfl)
          show Tm _ _ 214 b σ [(5, .int (iI i33)), (4, .int (iI (220 * r + k))), (3, .int (iI k)), (2, .int (iI m32)), (0, .ref b), (1, .int (iI r))] [] _
          refine tm_iinc (q0 := 2) (L' := [(3, .int (iI (k + 1))), (5, .int (iI i33)), (4, .int (iI (220 * r + k))), (2, .int (iI m32)), (0, .ref b), (1, .int (iI r))]) dX12_registers_214 rfl (by decide) rfl ?_
          refine tm_goto (tgt := 87) dX12_registers_217 (by decide) ?_
          exact tm_sub [0, 3, 4, 5] rfl (ih _ (by omega) (m32) (k + 1) (by omega) (fun j a c => by
          by_cases e : j = k
          · subst e; exact ⟨fun g => by omega, by assumption⟩
          · exact (hg.up (by omega)) j a (by omega)) f31 rfl)
        · refine tm_aload_n dX12_registers_129 rfl 3 rfl ?_
          refine tm_get (k := 4) (v := .ref (b + 1 + 2)) lay_12 dX12_registers_130 (by decide) fl12_17 rfl ?_
          refine tm_iload dX12_registers_133 0 rfl ?_
          refine tm_iald (z := 220 * r + k) (v := σ.2.1 4 (220 * r + k)) dX12_registers_135 (show mT[2]? = some (4, 0, 2860) from rfl) (by omega) (by omega) (by decide) (rfl) ?_
          have g34 := RG.a hR 4 (220 * r + k)
          refine tm_iconst dX12_registers_136 ?_
          refine tm_iadd dX12_registers_137 ?_
          refine tm_goto (tgt := 142) dX12_registers_138 (by decide) ?_
          refine tm_istore_n (L' := [(2, .int (iI ((σ.2.1 4 (220 * r + k)) + 1))), (4, .int (iI (220 * r + k))), (3, .int (iI k)), (0, .ref b), (1, .int (iI r))]) dX12_registers_142 rfl (by decide) rfl ?_
          refine tm_iconst dX12_registers_143 ?_
          refine tm_istore (L' := [(5, .int (iI 0)), (2, .int (iI ((σ.2.1 4 (220 * r + k)) + 1))), (4, .int (iI (220 * r + k))), (3, .int (iI k)), (0, .ref b), (1, .int (iI r))]) dX12_registers_144 (by decide) rfl ?_
          refine tm_sub [0, 2, 3, 1, 4, 5] rfl (f_regs4 (d) (σ := σ) (r := r) (k := k) (F := F) (m0 := (σ.2.1 4 (220 * r + k)) + 1) hr hR hit hpar hok (by omega) (fun m42 i43 f39 f40 f41 => ?_) _ ((σ.2.1 4 (220 * r + k)) + 1) (0) (by omega) (fun j a c => by omega) (fun B b0 hB => by have e1 := hmn B b0 hB; have e2 := (hB.2 k (by omega) (by omega)).1; omega) rfl)
          show Tm _ _ 214 b σ [(5, .int (iI i43)), (4, .int (iI (220 * r + k))), (3, .int (iI k)), (2, .int (iI m42)), (0, .ref b), (1, .int (iI r))] [] _
          refine tm_iinc (q0 := 2) (L' := [(3, .int (iI (k + 1))), (5, .int (iI i43)), (4, .int (iI (220 * r + k))), (2, .int (iI m42)), (0, .ref b), (1, .int (iI r))]) dX12_registers_214 rfl (by decide) rfl ?_
          refine tm_goto (tgt := 87) dX12_registers_217 (by decide) ?_
          exact tm_sub [0, 3, 4, 5] rfl (ih _ (by omega) (m42) (k + 1) (by omega) (fun j a c => by
          by_cases e : j = k
          · subst e; exact ⟨fun g => by omega, by assumption⟩
          · exact (hg.up (by omega)) j a (by omega)) f41 rfl)
set_option maxHeartbeats 1000000 in
set_option maxRecDepth 20000 in
theorem f_X12_registers (d : Nat) {b : Nat} {σ : MS} {r : Int} {F : Int} (hr : 0 ≤ r ∧ r < 6) (hR : RG σ) (hof : OKF σ r) (hnam : NAM σ) (hit : ITM σ) (hpar : PAR σ) (hok : OKS σ F r) : Tm (d + 4) m_X12_registers 0 b σ [(0, .ref b), (1, .int (iI r))] [] (fun ro σ2 => ∃ v : Int, ro = some (.int (iI v)) ∧ σ = σ2 ∧ (0 ≤ v ∧ v ≤ 192) ∧ (RGN σ r v (σ.2.1 14 r)) ∧ (RGI σ r v (σ.2.1 9 r)) ∧ (∀ B, 0 ≤ B → RGB σ r B → v ≤ B)) := by
  refine tm_iconst dX12_registers_0 ?_
  refine tm_istore_n (L' := [(2, .int (iI 0)), (0, .ref b), (1, .int (iI r))]) dX12_registers_1 rfl (by decide) rfl ?_
  refine tm_iconst dX12_registers_2 ?_
  refine tm_istore_n (L' := [(3, .int (iI 0)), (2, .int (iI 0)), (0, .ref b), (1, .int (iI r))]) dX12_registers_3 rfl (by decide) rfl ?_
  refine tm_sub [0, 1, 2, 3] rfl (f_regs1 (d + 3) (σ := σ) (r := r) hr hR hof hnam (fun m8 f9 f5 f6 f7 => ?_) _ (0) (0) (by have := hof.1; omega) (fun g a c => by omega) (fun B b0 _ => b0) rfl)
  show Tm _ _ 85 b σ [(3, .int (iI f9)), (2, .int (iI m8)), (0, .ref b), (1, .int (iI r))] [] _
  have hRN := f6
  refine tm_iconst dX12_registers_85 ?_
  refine tm_istore_n (L' := [(3, .int (iI 0)), (2, .int (iI m8)), (0, .ref b), (1, .int (iI r))]) dX12_registers_86 rfl (by decide) rfl ?_
  refine tm_sub [0, 1, 2, 3] rfl (f_regs3 (d) (σ := σ) (r := r) (F := F) (m0 := m8) (by omega) hR hit hpar hok (fun m17 k18 f14 f15 f16 => ?_) _ (m8) (0) (by have := hit r (by omega) (by omega); omega) (fun g a c => by omega) f7 rfl)
  show Tm _ _ 220 b σ [(3, .int (iI k18)), (2, .int (iI m17)), (0, .ref b), (1, .int (iI r))] [] _
  refine tm_iload_n dX12_registers_220 rfl 1 rfl ?_
  exact tm_iret rfl dX12_registers_221 (⟨_, rfl, rfl, by omega, RGN.up hRN (by omega), f15, f16⟩)
set_option maxHeartbeats 1000000 in
set_option maxRecDepth 20000 in
theorem f_labels (d : Nat) {b : Nat} {σ : MS} {r : Int} {post : Option Value → MS → Prop} (hr : 0 ≤ r ∧ r < 12) (hR : RG σ) (hit : ITM σ) (hjm : JMP σ r) (hlm : LBM σ r) (hF1 : 1 ≤ σ.2.1 14 r) (hx_101 : ∀ (m : Int) (k : Int) , (0 ≤ m ∧ m ≤ 4096 ∧ m + 1 ≤ 121 * σ.2.1 14 r) → (∀ j, 0 ≤ j → j < σ.2.1 9 r → (σ.2.1 3 (220 * r + j) = 8 ∨ σ.2.1 3 (220 * r + j) = 9 ∨ σ.2.1 3 (220 * r + j) = 13) → σ.2.1 4 (220 * r + j) < m) → (∀ B, 0 ≤ B → LBB σ r B → m ≤ B) → Tm (d + 2) m_X12_labels 101 b σ [(3, .int (iI k)), (2, .int (iI m)), (0, .ref b), (1, .int (iI r))] [] post) : ∀ (n : Nat) (m : Int) (k : Int) , (0 ≤ m ∧ m ≤ 4096 ∧ m + 1 ≤ 121 * σ.2.1 14 r ∧ 0 ≤ k ∧ k ≤ σ.2.1 9 r) → (∀ j, 0 ≤ j → j < k → (σ.2.1 3 (220 * r + j) = 8 ∨ σ.2.1 3 (220 * r + j) = 9 ∨ σ.2.1 3 (220 * r + j) = 13) → σ.2.1 4 (220 * r + j) < m) → (∀ B, 0 ≤ B → LBB σ r B → m ≤ B) → (220 - k).toNat = n → Tm (d + 2) m_X12_labels 4 b σ [(3, .int (iI k)), (2, .int (iI m)), (0, .ref b), (1, .int (iI r))] [] post := by
  intro n
  induction n using Nat.strongRecOn with
  | _ n ih =>
    intro m k h0 hg hmn hm
    have q1 := hit r (by omega) (by omega)
    refine tm_iload_n dX12_labels_4 rfl 0 rfl ?_
    refine tm_aload_n dX12_labels_5 rfl 2 rfl ?_
    refine tm_get (k := 9) (v := .ref (b + 1 + 7)) lay_12 dX12_labels_6 (by decide) fl12_32 rfl ?_
    refine tm_iload_n dX12_labels_9 rfl 3 rfl ?_
    refine tm_iald (z := r) (v := σ.2.1 9 r) dX12_labels_10 (show mT[7]? = some (9, 0, 13) from rfl) (by omega) (by omega) (by decide) (rfl) ?_
    have g1 := RG.a hR 9 (r)
    refine tm_icmp_ge (tgt := 101) dX12_labels_11 (by decide) ⟨by omega, by omega⟩ ⟨by omega, by omega⟩ (fun h2 => ?_) (fun h2 => ?_)
    · exact tm_sub [0, 1, 2, 3] rfl (hx_101 (m) (k) (by omega) (fun j a c e => hg j a (by omega) e) hmn)
    · refine tm_aload_n dX12_labels_14 rfl 2 rfl ?_
      refine tm_iload_n dX12_labels_15 rfl 3 rfl ?_
      refine tm_iload_n dX12_labels_16 rfl 0 rfl ?_
      refine tm_callV (M := m_X12_labels) (pc := 17) (ix := 203) (M' := m_X12_at) (As := [.int (iI r), .int (iI k)]) (rest := []) dX12_labels_17 ok_X12_at im_X12_at se_X12_at ml12_203 np_X12_at rfl rfl (Nat.le_of_ble_eq_true rfl) (Nat.le_of_ble_eq_true rfl) rfl (c_X12_at (d) (σ := σ) (x := r) (k := k) ) (fun r3 σ4 hp => ?_)
      obtain ⟨v5, rfl, rfl, f6⟩ := hp
      subst f6
      show Tm _ _ 20 b σ [(3, .int (iI k)), (2, .int (iI m)), (0, .ref b), (1, .int (iI r))] [.int (iI (220 * r + k))] _
      refine tm_istore (L' := [(4, .int (iI (220 * r + k))), (3, .int (iI k)), (2, .int (iI m)), (0, .ref b), (1, .int (iI r))]) dX12_labels_20 (by decide) rfl ?_
      have q2 := hjm k (by omega) (by omega)
      have q3 := hlm k (by omega) (by omega)
      refine tm_aload_n dX12_labels_22 rfl 3 rfl ?_
      refine tm_get (k := 3) (v := .ref (b + 1 + 1)) lay_12 dX12_labels_23 (by decide) fl12_13 rfl ?_
      refine tm_iload dX12_labels_26 0 rfl ?_
      refine tm_iald (z := 220 * r + k) (v := σ.2.1 3 (220 * r + k)) dX12_labels_28 (show mT[1]? = some (3, 0, 2860) from rfl) (by omega) (by omega) (by decide) (rfl) ?_
      have g7 := RG.a hR 3 (220 * r + k)
      refine tm_bipush dX12_labels_29 (by decide) ?_
      refine tm_icmp_eq (tgt := 58) dX12_labels_31 (by decide) ⟨by omega, by omega⟩ ⟨by decide, by decide⟩ (fun h8 => ?_) (fun h8 => ?_)
      · refine tm_iconst dX12_labels_58 ?_
        refine tm_goto (tgt := 63) dX12_labels_59 (by decide) ?_
        refine tm_istore (L' := [(5, .int (iI 1)), (4, .int (iI (220 * r + k))), (3, .int (iI k)), (2, .int (iI m)), (0, .ref b), (1, .int (iI r))]) dX12_labels_63 (by decide) rfl ?_
        refine tm_iload dX12_labels_65 0 rfl ?_
        refine tm_if_eq (tgt := 93) dX12_labels_67 (by decide) ⟨by decide, by decide⟩ (fun h => absurd h (by decide)) (fun _ => ?_)
        refine tm_aload_n dX12_labels_70 rfl 4 rfl ?_
        refine tm_get (k := 4) (v := .ref (b + 1 + 2)) lay_12 dX12_labels_71 (by decide) fl12_17 rfl ?_
        refine tm_iload dX12_labels_74 1 rfl ?_
        refine tm_iald (z := 220 * r + k) (v := σ.2.1 4 (220 * r + k)) dX12_labels_76 (show mT[2]? = some (4, 0, 2860) from rfl) (by omega) (by omega) (by decide) (rfl) ?_
        have g11 := RG.a hR 4 (220 * r + k)
        refine tm_iload_n dX12_labels_77 rfl 3 rfl ?_
        refine tm_icmp_lt (tgt := 93) dX12_labels_78 (by decide) ⟨by omega, by omega⟩ ⟨by omega, by omega⟩ (fun h12 => ?_) (fun h12 => ?_)
        · refine tm_iload_n dX12_labels_93 rfl 3 rfl ?_
          refine tm_istore_n (L' := [(2, .int (iI m)), (5, .int (iI 1)), (4, .int (iI (220 * r + k))), (3, .int (iI k)), (0, .ref b), (1, .int (iI r))]) dX12_labels_94 rfl (by decide) rfl ?_
          refine tm_iinc (q0 := 3) (L' := [(3, .int (iI (k + 1))), (2, .int (iI m)), (5, .int (iI 1)), (4, .int (iI (220 * r + k))), (0, .ref b), (1, .int (iI r))]) dX12_labels_95 rfl (by decide) rfl ?_
          refine tm_goto (tgt := 4) dX12_labels_98 (by decide) ?_
          exact tm_sub [0, 1, 4, 5] rfl (ih _ (by omega) (m) (k + 1) (by omega) (fun j a c e => by
          by_cases q : j = k
          · subst q; omega
          · have := hg j a (by omega) e; omega) (fun B b0 hB => by have e1 := hmn B b0 hB; have e2 := hB k (by omega) (by omega); omega) rfl)
        · refine tm_aload_n dX12_labels_81 rfl 4 rfl ?_
          refine tm_get (k := 4) (v := .ref (b + 1 + 2)) lay_12 dX12_labels_82 (by decide) fl12_17 rfl ?_
          refine tm_iload dX12_labels_85 1 rfl ?_
          refine tm_iald (z := 220 * r + k) (v := σ.2.1 4 (220 * r + k)) dX12_labels_87 (show mT[2]? = some (4, 0, 2860) from rfl) (by omega) (by omega) (by decide) (rfl) ?_
          have g13 := RG.a hR 4 (220 * r + k)
          refine tm_iconst dX12_labels_88 ?_
          refine tm_iadd dX12_labels_89 ?_
          refine tm_goto (tgt := 94) dX12_labels_90 (by decide) ?_
          refine tm_istore_n (L' := [(2, .int (iI ((σ.2.1 4 (220 * r + k)) + 1))), (5, .int (iI 1)), (4, .int (iI (220 * r + k))), (3, .int (iI k)), (0, .ref b), (1, .int (iI r))]) dX12_labels_94 rfl (by decide) rfl ?_
          refine tm_iinc (q0 := 3) (L' := [(3, .int (iI (k + 1))), (2, .int (iI ((σ.2.1 4 (220 * r + k)) + 1))), (5, .int (iI 1)), (4, .int (iI (220 * r + k))), (0, .ref b), (1, .int (iI r))]) dX12_labels_95 rfl (by decide) rfl ?_
          refine tm_goto (tgt := 4) dX12_labels_98 (by decide) ?_
          exact tm_sub [0, 1, 4, 5] rfl (ih _ (by omega) ((σ.2.1 4 (220 * r + k)) + 1) (k + 1) (by omega) (fun j a c e => by
          by_cases q : j = k
          · subst q; omega
          · have := hg j a (by omega) e; omega) (fun B b0 hB => by have e1 := hmn B b0 hB; have e2 := hB k (by omega) (by omega); omega) rfl)
      · refine tm_aload_n dX12_labels_34 rfl 3 rfl ?_
        refine tm_get (k := 3) (v := .ref (b + 1 + 1)) lay_12 dX12_labels_35 (by decide) fl12_13 rfl ?_
        refine tm_iload dX12_labels_38 0 rfl ?_
        refine tm_iald (z := 220 * r + k) (v := σ.2.1 3 (220 * r + k)) dX12_labels_40 (show mT[1]? = some (3, 0, 2860) from rfl) (by omega) (by omega) (by decide) (rfl) ?_
        have g14 := RG.a hR 3 (220 * r + k)
        refine tm_bipush dX12_labels_41 (by decide) ?_
        refine tm_icmp_eq (tgt := 58) dX12_labels_43 (by decide) ⟨by omega, by omega⟩ ⟨by decide, by decide⟩ (fun h15 => ?_) (fun h15 => ?_)
        · refine tm_iconst dX12_labels_58 ?_
          refine tm_goto (tgt := 63) dX12_labels_59 (by decide) ?_
          refine tm_istore (L' := [(5, .int (iI 1)), (4, .int (iI (220 * r + k))), (3, .int (iI k)), (2, .int (iI m)), (0, .ref b), (1, .int (iI r))]) dX12_labels_63 (by decide) rfl ?_
          refine tm_iload dX12_labels_65 0 rfl ?_
          refine tm_if_eq (tgt := 93) dX12_labels_67 (by decide) ⟨by decide, by decide⟩ (fun h => absurd h (by decide)) (fun _ => ?_)
          refine tm_aload_n dX12_labels_70 rfl 4 rfl ?_
          refine tm_get (k := 4) (v := .ref (b + 1 + 2)) lay_12 dX12_labels_71 (by decide) fl12_17 rfl ?_
          refine tm_iload dX12_labels_74 1 rfl ?_
          refine tm_iald (z := 220 * r + k) (v := σ.2.1 4 (220 * r + k)) dX12_labels_76 (show mT[2]? = some (4, 0, 2860) from rfl) (by omega) (by omega) (by decide) (rfl) ?_
          have g17 := RG.a hR 4 (220 * r + k)
          refine tm_iload_n dX12_labels_77 rfl 3 rfl ?_
          refine tm_icmp_lt (tgt := 93) dX12_labels_78 (by decide) ⟨by omega, by omega⟩ ⟨by omega, by omega⟩ (fun h18 => ?_) (fun h18 => ?_)
          · refine tm_iload_n dX12_labels_93 rfl 3 rfl ?_
            refine tm_istore_n (L' := [(2, .int (iI m)), (5, .int (iI 1)), (4, .int (iI (220 * r + k))), (3, .int (iI k)), (0, .ref b), (1, .int (iI r))]) dX12_labels_94 rfl (by decide) rfl ?_
            refine tm_iinc (q0 := 3) (L' := [(3, .int (iI (k + 1))), (2, .int (iI m)), (5, .int (iI 1)), (4, .int (iI (220 * r + k))), (0, .ref b), (1, .int (iI r))]) dX12_labels_95 rfl (by decide) rfl ?_
            refine tm_goto (tgt := 4) dX12_labels_98 (by decide) ?_
            exact tm_sub [0, 1, 4, 5] rfl (ih _ (by omega) (m) (k + 1) (by omega) (fun j a c e => by
          by_cases q : j = k
          · subst q; omega
          · have := hg j a (by omega) e; omega) (fun B b0 hB => by have e1 := hmn B b0 hB; have e2 := hB k (by omega) (by omega); omega) rfl)
          · refine tm_aload_n dX12_labels_81 rfl 4 rfl ?_
            refine tm_get (k := 4) (v := .ref (b + 1 + 2)) lay_12 dX12_labels_82 (by decide) fl12_17 rfl ?_
            refine tm_iload dX12_labels_85 1 rfl ?_
            refine tm_iald (z := 220 * r + k) (v := σ.2.1 4 (220 * r + k)) dX12_labels_87 (show mT[2]? = some (4, 0, 2860) from rfl) (by omega) (by omega) (by decide) (rfl) ?_
            have g19 := RG.a hR 4 (220 * r + k)
            refine tm_iconst dX12_labels_88 ?_
            refine tm_iadd dX12_labels_89 ?_
            refine tm_goto (tgt := 94) dX12_labels_90 (by decide) ?_
            refine tm_istore_n (L' := [(2, .int (iI ((σ.2.1 4 (220 * r + k)) + 1))), (5, .int (iI 1)), (4, .int (iI (220 * r + k))), (3, .int (iI k)), (0, .ref b), (1, .int (iI r))]) dX12_labels_94 rfl (by decide) rfl ?_
            refine tm_iinc (q0 := 3) (L' := [(3, .int (iI (k + 1))), (2, .int (iI ((σ.2.1 4 (220 * r + k)) + 1))), (5, .int (iI 1)), (4, .int (iI (220 * r + k))), (0, .ref b), (1, .int (iI r))]) dX12_labels_95 rfl (by decide) rfl ?_
            refine tm_goto (tgt := 4) dX12_labels_98 (by decide) ?_
            exact tm_sub [0, 1, 4, 5] rfl (ih _ (by omega) ((σ.2.1 4 (220 * r + k)) + 1) (k + 1) (by omega) (fun j a c e => by
          by_cases q : j = k
          · subst q; omega
          · have := hg j a (by omega) e; omega) (fun B b0 hB => by have e1 := hmn B b0 hB; have e2 := hB k (by omega) (by omega); omega) rfl)
        · refine tm_aload_n dX12_labels_46 rfl 3 rfl ?_
          refine tm_get (k := 3) (v := .ref (b + 1 + 1)) lay_12 dX12_labels_47 (by decide) fl12_13 rfl ?_
          refine tm_iload dX12_labels_50 0 rfl ?_
          refine tm_iald (z := 220 * r + k) (v := σ.2.1 3 (220 * r + k)) dX12_labels_52 (show mT[1]? = some (3, 0, 2860) from rfl) (by omega) (by omega) (by decide) (rfl) ?_
          have g20 := RG.a hR 3 (220 * r + k)
          refine tm_bipush dX12_labels_53 (by decide) ?_
          refine tm_icmp_ne (tgt := 62) dX12_labels_55 (by decide) ⟨by omega, by omega⟩ ⟨by decide, by decide⟩ (fun h21 => ?_) (fun h21 => ?_)
          · refine tm_iconst dX12_labels_62 ?_
            refine tm_istore (L' := [(5, .int (iI 0)), (4, .int (iI (220 * r + k))), (3, .int (iI k)), (2, .int (iI m)), (0, .ref b), (1, .int (iI r))]) dX12_labels_63 (by decide) rfl ?_
            refine tm_iload dX12_labels_65 0 rfl ?_
            refine tm_if_eq (tgt := 93) dX12_labels_67 (by decide) ⟨by decide, by decide⟩ (fun _ => ?_) (fun h => absurd h (by decide))
            refine tm_iload_n dX12_labels_93 rfl 3 rfl ?_
            refine tm_istore_n (L' := [(2, .int (iI m)), (5, .int (iI 0)), (4, .int (iI (220 * r + k))), (3, .int (iI k)), (0, .ref b), (1, .int (iI r))]) dX12_labels_94 rfl (by decide) rfl ?_
            refine tm_iinc (q0 := 3) (L' := [(3, .int (iI (k + 1))), (2, .int (iI m)), (5, .int (iI 0)), (4, .int (iI (220 * r + k))), (0, .ref b), (1, .int (iI r))]) dX12_labels_95 rfl (by decide) rfl ?_
            refine tm_goto (tgt := 4) dX12_labels_98 (by decide) ?_
            exact tm_sub [0, 1, 4, 5] rfl (ih _ (by omega) (m) (k + 1) (by omega) (fun j a c e => by
          by_cases q : j = k
          · subst q; omega
          · have := hg j a (by omega) e; omega) (fun B b0 hB => by have e1 := hmn B b0 hB; have e2 := hB k (by omega) (by omega); omega) rfl)
          · refine tm_iconst dX12_labels_58 ?_
            refine tm_goto (tgt := 63) dX12_labels_59 (by decide) ?_
            refine tm_istore (L' := [(5, .int (iI 1)), (4, .int (iI (220 * r + k))), (3, .int (iI k)), (2, .int (iI m)), (0, .ref b), (1, .int (iI r))]) dX12_labels_63 (by decide) rfl ?_
            refine tm_iload dX12_labels_65 0 rfl ?_
            refine tm_if_eq (tgt := 93) dX12_labels_67 (by decide) ⟨by decide, by decide⟩ (fun h => absurd h (by decide)) (fun _ => ?_)
            refine tm_aload_n dX12_labels_70 rfl 4 rfl ?_
            refine tm_get (k := 4) (v := .ref (b + 1 + 2)) lay_12 dX12_labels_71 (by decide) fl12_17 rfl ?_
            refine tm_iload dX12_labels_74 1 rfl ?_
            refine tm_iald (z := 220 * r + k) (v := σ.2.1 4 (220 * r + k)) dX12_labels_76 (show mT[2]? = some (4, 0, 2860) from rfl) (by omega) (by omega) (by decide) (rfl) ?_
            have g24 := RG.a hR 4 (220 * r + k)
            refine tm_iload_n dX12_labels_77 rfl 3 rfl ?_
            refine tm_icmp_lt (tgt := 93) dX12_labels_78 (by decide) ⟨by omega, by omega⟩ ⟨by omega, by omega⟩ (fun h32 => ?_) (fun h32 => ?_)
            · refine tm_iload_n dX12_labels_93 rfl 3 rfl ?_
              refine tm_istore_n (L' := [(2, .int (iI m)), (5, .int (iI 1)), (4, .int (iI (220 * r + k))), (3, .int (iI k)), (0, .ref b), (1, .int (iI r))]) dX12_labels_94 rfl (by decide) rfl ?_
              refine tm_iinc (q0 := 3) (L' := [(3, .int (iI (k + 1))), (2, .int (iI m)), (5, .int (iI 1)), (4, .int (iI (220 * r + k))), (0, .ref b), (1, .int (iI r))]) dX12_labels_95 rfl (by decide) rfl ?_
              refine tm_goto (tgt := 4) dX12_labels_98 (by decide) ?_
              exact tm_sub [0, 1, 4, 5] rfl (ih _ (by omega) (m) (k + 1) (by omega) (fun j a c e => by
          by_cases q : j = k
          · subst q; omega
          · have := hg j a (by omega) e; omega) (fun B b0 hB => by have e1 := hmn B b0 hB; have e2 := hB k (by omega) (by omega); omega) rfl)
            · refine tm_aload_n dX12_labels_81 rfl 4 rfl ?_
              refine tm_get (k := 4) (v := .ref (b + 1 + 2)) lay_12 dX12_labels_82 (by decide) fl12_17 rfl ?_
              refine tm_iload dX12_labels_85 1 rfl ?_
              refine tm_iald (z := 220 * r + k) (v := σ.2.1 4 (220 * r + k)) dX12_labels_87 (show mT[2]? = some (4, 0, 2860) from rfl) (by omega) (by omega) (by decide) (rfl) ?_
              have g33 := RG.a hR 4 (220 * r + k)
              refine tm_iconst dX12_labels_88 ?_
              refine tm_iadd dX12_labels_89 ?_
              refine tm_goto (tgt := 94) dX12_labels_90 (by decide) ?_
              refine tm_istore_n (L' := [(2, .int (iI ((σ.2.1 4 (220 * r + k)) + 1))), (5, .int (iI 1)), (4, .int (iI (220 * r + k))), (3, .int (iI k)), (0, .ref b), (1, .int (iI r))]) dX12_labels_94 rfl (by decide) rfl ?_
              refine tm_iinc (q0 := 3) (L' := [(3, .int (iI (k + 1))), (2, .int (iI ((σ.2.1 4 (220 * r + k)) + 1))), (5, .int (iI 1)), (4, .int (iI (220 * r + k))), (0, .ref b), (1, .int (iI r))]) dX12_labels_95 rfl (by decide) rfl ?_
              refine tm_goto (tgt := 4) dX12_labels_98 (by decide) ?_
              exact tm_sub [0, 1, 4, 5] rfl (ih _ (by omega) ((σ.2.1 4 (220 * r + k)) + 1) (k + 1) (by omega) (fun j a c e => by
          by_cases q : j = k
          · subst q; omega
          · have := hg j a (by omega) e; omega) (fun B b0 hB => by have e1 := hmn B b0 hB; have e2 := hB k (by omega) (by omega); omega) rfl)
set_option maxHeartbeats 1000000 in
set_option maxRecDepth 20000 in
theorem f_X12_labels (d : Nat) {b : Nat} {σ : MS} {r : Int} (hr : 0 ≤ r ∧ r < 12) (hR : RG σ) (hit : ITM σ) (hjm : JMP σ r) (hlm : LBM σ r) (hF1 : 1 ≤ σ.2.1 14 r) : Tm (d + 2) m_X12_labels 0 b σ [(0, .ref b), (1, .int (iI r))] [] (fun ro σ2 => ∃ v : Int, ro = some (.int (iI v)) ∧ σ = σ2 ∧ (0 ≤ v ∧ v ≤ 4096 ∧ v + 1 ≤ 121 * σ.2.1 14 r) ∧ (∀ j, 0 ≤ j → j < σ.2.1 9 r → (σ.2.1 3 (220 * r + j) = 8 ∨ σ.2.1 3 (220 * r + j) = 9 ∨ σ.2.1 3 (220 * r + j) = 13) → σ.2.1 4 (220 * r + j) < v) ∧ (∀ B, 0 ≤ B → LBB σ r B → v ≤ B)) := by
  refine tm_iconst dX12_labels_0 ?_
  refine tm_istore_n (L' := [(2, .int (iI 0)), (0, .ref b), (1, .int (iI r))]) dX12_labels_1 rfl (by decide) rfl ?_
  refine tm_iconst dX12_labels_2 ?_
  refine tm_istore_n (L' := [(3, .int (iI 0)), (2, .int (iI 0)), (0, .ref b), (1, .int (iI r))]) dX12_labels_3 rfl (by decide) rfl ?_
  refine tm_sub [0, 1, 2, 3] rfl (f_labels (d) (σ := σ) (r := r) hr hR hit hjm hlm (by omega) (fun m8 k9 f5 f6 f7 => ?_) _ (0) (0) (by have := hit r (by omega) (by omega); omega) (fun j a c => by omega) (fun B b0 _ => b0) rfl)
  show Tm _ _ 101 b σ [(3, .int (iI k9)), (2, .int (iI m8)), (0, .ref b), (1, .int (iI r))] [] _
  refine tm_iload_n dX12_labels_101 rfl 1 rfl ?_
  exact tm_iret rfl dX12_labels_102 (⟨_, rfl, rfl, by omega, f6, f7⟩)
end
section
def bgV (V : Int → It) (n : Int) (P : Int → Prop) (g : Int) : Prop := P g ∨ LVV V n 0 g
def odW (V : Int → It) (n : Int) (x y : Int) : Prop := ∃ k, 0 ≤ k ∧ k < n ∧ wrT (V k) x ∧ LVV V n (k + 1) y
def odV (V : Int → It) (n : Int) (P : Int → Prop) (x y : Int) : Prop := x ≠ y ∧ ((bgV V n P x ∧ bgV V n P y) ∨ odW V n x y ∨ odW V n y x)
theorem odV.sym {V : Int → It} {n x y : Int} {P : Int → Prop} (h : odV V n P x y) : odV V n P y x := ⟨fun e => h.1 e.symm, by
  rcases h.2 with q | q | q
  · exact Or.inl ⟨q.2, q.1⟩
  · exact Or.inr (Or.inr q)
  · exact Or.inr (Or.inl q)⟩
def nbV (od : Int → Int → Prop) (G : Int) (nb : Int → Int) : Prop := ∀ g, 0 ≤ g → g < G → 0 ≤ nb g ∧ (∀ b, 0 ≤ b → b < g → od g b → nb b ≠ nb g) ∧ ∀ m, 0 ≤ m → m < nb g → ∃ b, 0 ≤ b ∧ b < g ∧ od g b ∧ nb b = m
theorem nbV.det {od : Int → Int → Prop} {G : Int} {f h : Int → Int} (a : nbV od G f) (b : nbV od G h) : ∀ g, 0 ≤ g → g < G → f g = h g := by
  have key : ∀ t : Nat, ∀ g, 0 ≤ g → g < G → g < t → f g = h g := fun t => by
    induction t with
    | zero => intro g x y z; omega
    | succ t ih =>
      intro g x y z
      obtain ⟨a0, a1, a2⟩ := a g x y
      obtain ⟨b0, b1, b2⟩ := b g x y
      by_cases p : f g < h g
      · obtain ⟨c, c0, c1, c2, c3⟩ := b2 (f g) a0 p
        have := ih c c0 (by omega) (by omega)
        exact absurd (by omega) (a1 c c0 c1 c2)
      · by_cases q : h g < f g
        · obtain ⟨c, c0, c1, c2, c3⟩ := a2 (h g) b0 q
          have := ih c c0 (by omega) (by omega)
          exact absurd (by omega) (b1 c c0 c1 c2)
        · omega
  intro g x y
  exact key (g.toNat + 1) g x y (by omega)
theorem nbV.le {od : Int → Int → Prop} {G H : Int} {f : Int → Int} (a : nbV od G f) (h : H ≤ G) : nbV od H f := fun g x y => a g x (by omega)
theorem nbV.ne {od : Int → Int → Prop} {G : Int} {f : Int → Int} (a : nbV od G f) (hs : ∀ x y, od x y → od y x) {x y : Int} (x0 : 0 ≤ x) (x1 : x < G) (y0 : 0 ≤ y) (y1 : y < G) (h : od x y) (hn : x ≠ y) : f x ≠ f y := by
  by_cases q : x < y
  · exact (a y y0 y1).2.1 x x0 q (hs x y h)
  · exact fun e => (a x x0 x1).2.1 y y0 (by omega) h e.symm
def lsT (V : Int → It) (nb : Int → Int) (Si : Int → Prop) (i u : Int) : Prop := ((V i 0 ≤ 5 ∨ V i 0 = 10) ∧ u ≠ V i 1 ∧ (nb u = nb (V i 1) ∨ Si u)) ∨ (¬ (V i 0 ≤ 5 ∨ V i 0 = 10) ∧ Si u)
def lsV (V : Int → It) (n : Int) (nb : Int → Int) (bg : Int → Prop) (k u : Int) : Prop := ∀ S : Int → Int → Prop, (∀ u, ¬ bg u → S 0 u) → (∀ i t u, 0 ≤ i → i < n → RCG V n 0 (fun _ => False) i → EDv V n i t → lsT V nb (S i) i u → S t u) → S k u
theorem lsT.mono {V : Int → It} {nb : Int → Int} {A B : Int → Prop} {i u : Int} (h : lsT V nb A i u) (q : A u → B u) : lsT V nb B i u := by
  rcases h with ⟨a, b, c⟩ | ⟨a, b⟩
  · exact Or.inl ⟨a, b, c.elim Or.inl (fun z => Or.inr (q z))⟩
  · exact Or.inr ⟨a, q b⟩
theorem lsV.s {V : Int → It} {n : Int} {nb : Int → Int} {bg : Int → Prop} {i t u : Int} (h0 : 0 ≤ i) (h1 : i < n) (hr : RCG V n 0 (fun _ => False) i) (e : EDv V n i t) (h : lsT V nb (lsV V n nb bg i) i u) : lsV V n nb bg t u := fun S a b => b i t u h0 h1 hr e (h.mono (fun z => z S a b))
theorem lsV.z {V : Int → It} {n : Int} {nb : Int → Int} {bg : Int → Prop} {u : Int} (h : ¬ bg u) : lsV V n nb bg 0 u := fun _ a _ => a u h
theorem lsV.cong {V : Int → It} {n N : Int} {f h : Int → Int} {bg : Int → Prop} (e : ∀ g, 0 ≤ g → g < N → f g = h g) (hw : ∀ i, 0 ≤ i → i < n → (V i 0 ≤ 5 ∨ V i 0 = 10) → 0 ≤ V i 1 ∧ V i 1 < N) {k u : Int} (u0 : 0 ≤ u) (u1 : u < N) (q : lsV V n f bg k u) : lsV V n h bg k u := by
  refine q (fun i v => 0 ≤ v ∧ v < N → lsV V n h bg i v) (fun v z _ => lsV.z z) (fun i t v a b c d z w => ?_) ⟨u0, u1⟩
  refine lsV.s a b c d ?_
  rcases z with ⟨z1, z2, z3⟩ | ⟨z1, z2⟩
  · refine Or.inl ⟨z1, z2, ?_⟩
    rcases z3 with z3 | z3
    · have r := hw i a b z1
      rw [e v w.1 w.2, e _ r.1 r.2] at z3
      exact Or.inl z3
    · exact Or.inr (z3 w)
  · exact Or.inr ⟨z1, z2 w⟩
noncomputable def ubV (V : Int → It) (n : Int) (nb : Int → Int) (bg : Int → Prop) : Int → It := fun k => dI ((0 ≤ k ∧ k < n) ∧ V k 0 = 12 ∧ RCG V n 0 (fun _ => False) k ∧ ∃ u, rdI (V k) u ∧ lsV V n nb bg k u) (goI (V k) 13) (V k)
def rnI (nb : Int → Int) (i : It) : It := fun c => if c = 1 ∧ (i 0 ≤ 5 ∨ i 0 = 10) then nb (i 1) else if (c = 4 ∨ c = 6 ∨ c = 8 ∨ c = 10) ∧ i (c - 1) = 2 then nb (i c) else i c
noncomputable def shV (V : Int → It) (n : Int) (nb : Int → Int) (bg : Int → Prop) : Int → It := fun k => if 0 ≤ k ∧ k < n then rnI nb (ubV V n nb bg k) else zI
def OX (σ : MS) (Q : Int → Int → Prop) : Prop := ∀ x y, 0 ≤ x → x < 192 → 0 ≤ y → y < 192 → (σ.2.1 63 (192 * x + y) = 1 ↔ Q x y)
theorem OX.c {σ : MS} {Q R : Int → Int → Prop} (h : OX σ Q) (e : ∀ x y, 0 ≤ x → x < 192 → 0 ≤ y → y < 192 → (Q x y ↔ R x y)) : OX σ R := fun x y a b c d => (h x y a b c d).trans (e x y a b c d)
theorem OX.fr {ss ks js : List Nat} {σ τ : MS} {Q : Int → Int → Prop} (h : OX σ Q) (f : Fr ss ks js σ τ) (hk : 63 ∉ ks) : OX τ Q := fun x y a b c d => by rw [f.2.1 63 hk]; exact h x y a b c d
theorem OX.put {σ : MS} {Q : Int → Int → Prop} {u v : Int} (h : OX σ Q) (hu : 0 ≤ u ∧ u < 192) (hv : 0 ≤ v ∧ v < 192) : OX (sA 63 (192 * v + u) 1 (sA 63 (192 * u + v) 1 σ)) (fun x y => Q x y ∨ (x = u ∧ y = v) ∨ (x = v ∧ y = u)) := fun x y a b c d => by
  by_cases e : 192 * x + y = 192 * v + u
  · have e1 : x = v := by omega
    have e2 : y = u := by omega
    subst e1 e2
    exact ⟨fun _ => Or.inr (Or.inr ⟨rfl, rfl⟩), fun _ => ra_eq⟩
  · rw [show (sA 63 (192 * v + u) 1 (sA 63 (192 * u + v) 1 σ)).2.1 63 (192 * x + y) = (sA 63 (192 * u + v) 1 σ).2.1 63 (192 * x + y) from ra_ne e rfl]
    by_cases e3 : 192 * x + y = 192 * u + v
    · have e1 : x = u := by omega
      have e2 : y = v := by omega
      subst e1 e2
      exact ⟨fun _ => Or.inr (Or.inl ⟨rfl, rfl⟩), fun _ => ra_eq⟩
    · rw [show (sA 63 (192 * u + v) 1 σ).2.1 63 (192 * x + y) = σ.2.1 63 (192 * x + y) from ra_ne e3 rfl, h x y a b c d]
      refine ⟨Or.inl, fun z => ?_⟩
      rcases z with z | z | z
      · exact z
      · rw [z.1, z.2] at e3; exact absurd rfl e3
      · rw [z.1, z.2] at e; exact absurd rfl e
def OBq (BG : Int → Prop) (a c x y : Int) : Prop := x ≠ y ∧ BG x ∧ BG y ∧ ((x < a ∧ y < a) ∨ (x = a ∧ y < c) ∨ (y = a ∧ x < c))
theorem OBq.yes {BG : Int → Prop} {a c x y : Int} (ha : BG a) (hc : BG c) (h : c < a) : (OBq BG a c x y ∨ (x = a ∧ y = c) ∨ (x = c ∧ y = a)) ↔ OBq BG a (c + 1) x y := by
  unfold OBq
  constructor
  · rintro (⟨p, q, r, s⟩ | ⟨p, q⟩ | ⟨p, q⟩)
    · exact ⟨p, q, r, by omega⟩
    · subst p q; exact ⟨by omega, ha, hc, by omega⟩
    · subst p q; exact ⟨by omega, hc, ha, by omega⟩
  · rintro ⟨p, q, r, s⟩
    by_cases z : (x = a ∧ y = c) ∨ (x = c ∧ y = a)
    · exact Or.inr z
    · exact Or.inl ⟨p, q, r, by omega⟩
theorem OBq.no {BG : Int → Prop} {a c x y : Int} (hc : ¬ BG c) : OBq BG a c x y ↔ OBq BG a (c + 1) x y := by
  unfold OBq
  constructor
  · rintro ⟨p, q, r, s⟩
    exact ⟨p, q, r, by omega⟩
  · rintro ⟨p, q, r, s⟩
    have e1 : x ≠ c := fun e => hc (by rw [← e]; exact q)
    have e2 : y ≠ c := fun e => hc (by rw [← e]; exact r)
    exact ⟨p, q, r, by omega⟩
theorem OBq.up {BG : Int → Prop} {a c x y : Int} (h : c = a ∨ ¬ BG a) (x0 : 0 ≤ x) (y0 : 0 ≤ y) : OBq BG a c x y ↔ OBq BG (a + 1) 0 x y := by
  unfold OBq
  constructor
  · rintro ⟨p, q, r, s⟩
    rcases h with h | h
    · exact ⟨p, q, r, by omega⟩
    · have e1 : x ≠ a := fun e => h (by rw [← e]; exact q)
      have e2 : y ≠ a := fun e => h (by rw [← e]; exact r)
      exact ⟨p, q, r, by omega⟩
  · rintro ⟨p, q, r, s⟩
    rcases h with h | h
    · exact ⟨p, q, r, by omega⟩
    · have e1 : x ≠ a := fun e => h (by rw [← e]; exact q)
      have e2 : y ≠ a := fun e => h (by rw [← e]; exact r)
      exact ⟨p, q, r, by omega⟩
def odP (V : Int → It) (n k g x y : Int) : Prop := ∃ j, 0 ≤ j ∧ (j < k ∨ (j = k ∧ y < g)) ∧ wrT (V j) x ∧ LVV V n (j + 1) y
def OWq (BG : Int → Prop) (V : Int → It) (n k g x y : Int) : Prop := OBq BG 192 0 x y ∨ (x ≠ y ∧ (odP V n k g x y ∨ odP V n k g y x))
section OW
variable {BG : Int → Prop} {V : Int → It} {n k g x y e : Int}
theorem odP.up (h : odP V n k g x y) : odP V n k (g + 1) x y := by
  obtain ⟨j, a, b, c⟩ := h
  exact ⟨j, a, by omega, c⟩
theorem odP.dn (h : odP V n k (g + 1) x y) (hn : ¬ (y = g ∧ wrT (V k) x ∧ LVV V n (k + 1) g)) : odP V n k g x y := by
  obtain ⟨j, a, b, c, d⟩ := h
  by_cases z : j = k ∧ y = g
  · exact absurd ⟨z.2, by rw [← z.1]; exact c, by rw [← z.1, ← z.2]; exact d⟩ hn
  · exact ⟨j, a, by omega, c, d⟩
theorem OWq.yes (h0 : 0 ≤ k) (hw : wrT (V k) e) (hl : LVV V n (k + 1) g) (hn : e ≠ g) : (OWq BG V n k g x y ∨ (x = e ∧ y = g) ∨ (x = g ∧ y = e)) ↔ OWq BG V n k (g + 1) x y := by
  constructor
  · rintro ((z | ⟨z, q⟩) | ⟨p, q⟩ | ⟨p, q⟩)
    · exact Or.inl z
    · exact Or.inr ⟨z, q.elim (fun w => Or.inl w.up) (fun w => Or.inr w.up)⟩
    · subst p q; exact Or.inr ⟨hn, Or.inl ⟨k, h0, by omega, hw, hl⟩⟩
    · subst p q; exact Or.inr ⟨fun e => hn e.symm, Or.inr ⟨k, h0, by omega, hw, hl⟩⟩
  · rintro (z | ⟨z, q⟩)
    · exact Or.inl (Or.inl z)
    · by_cases w : (x = e ∧ y = g) ∨ (x = g ∧ y = e)
      · exact Or.inr w
      · refine Or.inl (Or.inr ⟨z, ?_⟩)
        rcases q with q | q
        · exact Or.inl (q.dn (fun u => w (Or.inl ⟨by have := u.2.1.2; have := hw.2; omega, u.1⟩)))
        · exact Or.inr (q.dn (fun u => w (Or.inr ⟨u.1, by have := u.2.1.2; have := hw.2; omega⟩)))
theorem OWq.no (hn : ¬ ∃ e, e ≠ g ∧ wrT (V k) e ∧ LVV V n (k + 1) g) : OWq BG V n k g x y ↔ OWq BG V n k (g + 1) x y := by
  constructor
  · rintro (z | ⟨z, q⟩)
    · exact Or.inl z
    · exact Or.inr ⟨z, q.elim (fun w => Or.inl w.up) (fun w => Or.inr w.up)⟩
  · rintro (z | ⟨z, q⟩)
    · exact Or.inl z
    · refine Or.inr ⟨z, ?_⟩
      rcases q with q | q
      · exact Or.inl (q.dn (fun u => hn ⟨x, by omega, u.2⟩))
      · exact Or.inr (q.dn (fun u => hn ⟨y, by omega, u.2⟩))
theorem odP.nx (h : g = 192 ∨ ¬ (V k 0 ≤ 5 ∨ V k 0 = 10)) (y1 : y < 192) (y0 : 0 ≤ y) (h0 : 0 ≤ k) : odP V n k g x y ↔ odP V n (k + 1) 0 x y := by
  constructor
  · rintro ⟨j, a, b, c, d⟩
    exact ⟨j, a, by omega, c, d⟩
  · rintro ⟨j, a, b, c, d⟩
    by_cases z : j = k
    · rcases h with h | h
      · exact ⟨j, a, by omega, c, d⟩
      · exact absurd (by rw [← z]; exact c.1) h
    · exact ⟨j, a, by omega, c, d⟩
theorem OWq.nx (h : g = 192 ∨ ¬ (V k 0 ≤ 5 ∨ V k 0 = 10)) (h0 : 0 ≤ k) (x0 : 0 ≤ x) (x1 : x < 192) (y0 : 0 ≤ y) (y1 : y < 192) : OWq BG V n k g x y ↔ OWq BG V n (k + 1) 0 x y := by
  unfold OWq
  rw [odP.nx h y1 y0 h0, odP.nx h x1 x0 h0]
theorem OWq.z (x0 : 0 ≤ x) (y0 : 0 ≤ y) : OBq BG 192 0 x y ↔ OWq BG V n 0 0 x y := by
  constructor
  · exact Or.inl
  · rintro (z | ⟨z, q⟩)
    · exact z
    · rcases q with ⟨j, a, b, _⟩ | ⟨j, a, b, _⟩
      · omega
      · omega
theorem OWq.all {P : Int → Prop} (hb : ∀ g, 0 ≤ g → g < 192 → (BG g ↔ bgV V n P g)) (x0 : 0 ≤ x) (x1 : x < 192) (y0 : 0 ≤ y) (y1 : y < 192) : OWq BG V n n 0 x y ↔ odV V n P x y := by
  unfold OWq odV OBq
  rw [hb x x0 x1, hb y y0 y1]
  constructor
  · rintro (⟨a, b, c, d⟩ | ⟨a, b⟩)
    · exact ⟨a, Or.inl ⟨b, c⟩⟩
    · refine ⟨a, Or.inr ?_⟩
      rcases b with ⟨j, p, q, r, s⟩ | ⟨j, p, q, r, s⟩
      · exact Or.inl ⟨j, p, by omega, r, s⟩
      · exact Or.inr ⟨j, p, by omega, r, s⟩
  · rintro ⟨a, b | b⟩
    · exact Or.inl ⟨a, b.1, b.2, by omega⟩
    · refine Or.inr ⟨a, ?_⟩
      rcases b with ⟨j, p, q, r, s⟩ | ⟨j, p, q, r, s⟩
      · exact Or.inl ⟨j, p, by omega, r, s⟩
      · exact Or.inr ⟨j, p, by omega, r, s⟩
end OW
theorem nbV.c {od oe : Int → Int → Prop} {G : Int} {f : Int → Int} (h : nbV od G f) (e : ∀ x y, 0 ≤ x → x < G → 0 ≤ y → y < G → (od x y ↔ oe x y)) : nbV oe G f := fun g a b => by
  obtain ⟨p, q, r⟩ := h g a b
  refine ⟨p, fun c x y z => q c x y ((e g c a b x (by omega)).mpr z), fun m x y => ?_⟩
  obtain ⟨c, c0, c1, c2, c3⟩ := r m x y
  exact ⟨c, c0, c1, (e g c a b c0 (by omega)).mp c2, c3⟩
theorem nbV.put {od : Int → Int → Prop} {σ : MS} {g m : Int} (h : nbV od g (σ.2.1 64)) (h0 : 0 ≤ g ∧ 0 ≤ m) (hl : ∀ u, 0 ≤ u → u < m → ∃ b, 0 ≤ b ∧ b < g ∧ od g b ∧ σ.2.1 64 b = u) (hc : ∀ b, 0 ≤ b → b < g → ¬ (od g b ∧ σ.2.1 64 b = m)) : nbV od (g + 1) ((sA 64 g m σ).2.1 64) := fun u a b => by
  have lo : ∀ c, c < g → (sA 64 g m σ).2.1 64 c = σ.2.1 64 c := fun c q => ra_ne (by omega) rfl
  by_cases e : u = g
  · subst e
    rw [show (sA 64 u m σ).2.1 64 u = m from ra_eq]
    refine ⟨h0.2, fun c x y z => ?_, fun v x y => ?_⟩
    · rw [lo c y]; exact fun w => hc c x y ⟨z, w⟩
    · obtain ⟨c, c0, c1, c2, c3⟩ := hl v x y
      exact ⟨c, c0, c1, c2, by rw [lo c c1]; exact c3⟩
  · obtain ⟨p, q, r⟩ := h u a (by omega)
    rw [lo u (by omega)]
    refine ⟨p, fun c x y z => by rw [lo c (by omega)]; exact q c x y z, fun v x y => ?_⟩
    obtain ⟨c, c0, c1, c2, c3⟩ := r v x y
    exact ⟨c, c0, c1, c2, by rw [lo c (by omega)]; exact c3⟩
theorem sh_lb {σ : MS} {V : Int → It} {r k n g : Int} (hV : V = rV σ r) (hn : n = σ.2.1 9 r) (hl : LDV σ V n) (h0 : 0 ≤ k ∧ k < n) (hg : 0 ≤ g ∧ g < 192) (h5 : σ.2.1 3 (220 * r + k) ≤ 5 ∨ σ.2.1 3 (220 * r + k) = 10) : LB2 σ r k g ↔ LVV V n (k + 1) g := by
  rw [← hl (k + 1) g (by omega) (by omega) hg.1 hg.2]
  unfold LB2
  constructor
  · rintro (q | q)
    · exact q.2
    · have := q.1; omega
  · intro q
    exact Or.inl ⟨by omega, q⟩
end
