section
set_option maxHeartbeats 40000000 in
set_option maxRecDepth 20000 in
theorem f_comes (d : Nat) {b : Nat} {σ0 : MS} {r : Int} {to : Int} {C0 : Int} {post : Option Value → MS → Prop} (hr : 0 ≤ r ∧ r < 6) (hR0 : RG σ0) (hto : 0 ≤ to ∧ to ≤ 220) (hbo : BO 47 σ0) (hsc : SCA σ0) (hg0 : G14c σ0) (hx_304 : ∀ (w : Int) (n1 : Int) (σ : MS) , (Fr [] [49, 50, 51, 52, 53] [] σ0 σ) → (RG σ) → ((w = 0 ∨ w = 1) ∧ (σ0.2.1 47 to = 0 → w = 1)) → (SSA σ) → ((σ0.2.1 47 to = 1 → (cw (σ.2.1 49) (31824 * r) 31824 : Int) + w ≤ C0) ∧ (σ0.2.1 47 to = 0 → (cw (σ.2.1 49) (31824 * r) 31824 : Int) ≤ C0)) → (∀ y, (y < 31824 * r + 144 * to ∨ 31824 * r + 144 * to + 144 ≤ y) → σ.2.1 49 y = σ0.2.1 49 y) → (JNC σ0 σ r to w 144) → Tm (d + 1) m_X12_comes 304 b σ [(4, .int (iI n1)), (3, .int (iI w)), (0, .ref b), (1, .int (iI r)), (2, .int (iI to))] [] post) : ∀ (n : Nat) (w : Int) (n1 : Int) (σ : MS) , (Fr [] [49, 50, 51, 52, 53] [] σ0 σ) → (RG σ) → (0 ≤ n1 ∧ n1 ≤ 144 ∧ (w = 0 ∨ w = 1) ∧ (σ0.2.1 47 to = 0 → w = 1)) → (SSA σ) → ((σ0.2.1 47 to = 1 → (cw (σ.2.1 49) (31824 * r) 31824 : Int) + w ≤ C0) ∧ (σ0.2.1 47 to = 0 → (cw (σ.2.1 49) (31824 * r) 31824 : Int) ≤ C0)) → (σ0.2.1 47 to = 0 → ∀ n, n1 ≤ n → n < 144 → σ.2.1 49 (31824 * r + 144 * to + n) = 11) → (∀ y, (y < 31824 * r + 144 * to ∨ 31824 * r + 144 * to + 144 ≤ y) → σ.2.1 49 y = σ0.2.1 49 y) → (JNC σ0 σ r to w n1) → (144 - n1).toNat = n → Tm (d + 1) m_X12_comes 18 b σ [(4, .int (iI n1)), (3, .int (iI w)), (0, .ref b), (1, .int (iI r)), (2, .int (iI to))] [] post := by
  intro n
  induction n using Nat.strongRecOn with
  | _ n ih =>
    intro w n1 σ hF hR h0 hss hcw hun hre hjn hm
    refine tm_iload dX12_comes_18 0 rfl ?_
    refine tm_sipush dX12_comes_20 (by decide) ?_
    refine tm_icmp_ge (tgt := 304) dX12_comes_23 (by decide) ⟨by omega, by omega⟩ ⟨by decide, by decide⟩ (fun h1 => ?_) (fun h1 => ?_)
    · exact tm_sub [0, 1, 2, 3, 4] rfl (hx_304 (w) (n1) σ (Fr.rfl.trans (Fr.sub hF (by decide) (by decide) (by decide))) hR (by omega) hss hcw hre (by rw [show (144 : Int) = n1 by omega]; exact hjn))
    · have hu0 : σ0.2.1 47 to = 0 → σ.2.1 49 (31824 * r + 144 * to + n1) = 11 := fun e => hun e n1 (by omega) (by omega)
      have e47 : σ.2.1 47 to = σ0.2.1 47 to := by rw [hF.2.1 47 (by decide)]
      have c54 : σ.2.1 54 n1 = σ0.2.1 54 n1 := congrFun (hF.2.1 54 (by decide)) _
      have c55 : σ.2.1 55 n1 = σ0.2.1 55 n1 := congrFun (hF.2.1 55 (by decide)) _
      have c56 : σ.2.1 56 n1 = σ0.2.1 56 n1 := congrFun (hF.2.1 56 (by decide)) _
      have c57 : σ.2.1 57 n1 = σ0.2.1 57 n1 := congrFun (hF.2.1 57 (by decide)) _
      have c58 : σ.2.1 58 n1 = σ0.2.1 58 n1 := congrFun (hF.2.1 58 (by decide)) _
      refine tm_sipush dX12_comes_26 (by decide) ?_
      refine tm_iload_n dX12_comes_29 rfl 3 rfl ?_
      refine tm_imul dX12_comes_30 ?_
      refine tm_sipush dX12_comes_31 (by decide) ?_
      refine tm_iload_n dX12_comes_34 rfl 4 rfl ?_
      refine tm_imul dX12_comes_35 ?_
      refine tm_iadd dX12_comes_36 ?_
      refine tm_iload dX12_comes_37 0 rfl ?_
      refine tm_iadd dX12_comes_39 ?_
      refine tm_istore (L' := [(5, .int (iI (((31824 * r) + (144 * to)) + n1))), (4, .int (iI n1)), (3, .int (iI w)), (0, .ref b), (1, .int (iI r)), (2, .int (iI to))]) dX12_comes_40 (by decide) rfl ?_
      refine tm_aload_n dX12_comes_42 rfl 3 rfl ?_
      refine tm_get (k := 47) (v := .ref (b + 1 + 25)) lay_12 dX12_comes_43 (by decide) fl12_91 rfl ?_
      refine tm_iload_n dX12_comes_46 rfl 5 rfl ?_
      refine tm_zald (z := to) (v := σ0.2.1 47 to) dX12_comes_47 (show mT[25]? = some (47, 2, 221) from rfl) (by omega) (by omega) (by decide) (ra_F hF (by decide) (rfl)) ?_
      have g2 := RG.a hR0 47 (to)
      have := hbo (to)
      refine tm_if_eq (tgt := 140) dX12_comes_48 (by decide) ⟨by omega, by omega⟩ (fun h3 => ?_) (fun h3 => ?_)
      · refine tm_iconst dX12_comes_140 ?_
        refine tm_istore (L' := [(6, .int (iI 0)), (5, .int (iI (((31824 * r) + (144 * to)) + n1))), (4, .int (iI n1)), (3, .int (iI w)), (0, .ref b), (1, .int (iI r)), (2, .int (iI to))]) dX12_comes_141 (by decide) rfl ?_
        refine tm_iload dX12_comes_143 0 rfl ?_
        refine tm_if_ne (tgt := 298) dX12_comes_145 (by decide) ⟨by decide, by decide⟩ (fun h => absurd h (by decide)) (fun _ => ?_)
        refine tm_aload_n dX12_comes_148 rfl 4 rfl ?_
        refine tm_get (k := 47) (v := .ref (b + 1 + 25)) lay_12 dX12_comes_149 (by decide) fl12_91 rfl ?_
        refine tm_iload_n dX12_comes_152 rfl 6 rfl ?_
        refine tm_zald (z := to) (v := σ0.2.1 47 to) dX12_comes_153 (show mT[25]? = some (47, 2, 221) from rfl) (by omega) (by omega) (by decide) (ra_F hF (by decide) (rfl)) ?_
        have g5 := RG.a hR0 47 (to)
        have := hbo (to)
        refine tm_if_eq (tgt := 172) dX12_comes_154 (by decide) ⟨by omega, by omega⟩ (fun h6 => ?_) (fun h6 => ?_)
        · refine tm_sub [1, 2, 3, 4, 5, 6] rfl (b_comes (d) (σ0 := σ) (r := r) (to := to) (n1 := n1) (by omega) hR (by omega) (fun w13 σ14 F9 R10 f11 f12 => ?_) _ (w) σ Fr.rfl hR rfl rfl)
          show Tm _ _ 298 b σ14 [(5, .int (iI (31824 * r + 144 * to + n1))), (4, .int (iI n1)), (3, .int (iI w13)), (0, .ref b), (1, .int (iI r)), (2, .int (iI to))] [] _
          have hcs0 := f12
          rw [e47] at hcs0
          have hcs := hcs0
          have hcw2 := hcs.cw (lo := 31824 * r) (N := 31824) (by omega) (by omega) (by omega)
          refine tm_iinc (q0 := 1) (L' := [(4, .int (iI (n1 + 1))), (5, .int (iI (31824 * r + 144 * to + n1))), (3, .int (iI w13)), (0, .ref b), (1, .int (iI r)), (2, .int (iI to))]) dX12_comes_298 rfl (by decide) rfl ?_
          refine tm_goto (tgt := 18) dX12_comes_301 (by decide) ?_
          exact tm_sub [0, 2, 3, 4, 5] rfl (ih _ (by omega) (w13) (n1 + 1) σ14 ((Fr.rfl.trans (Fr.sub hF (by decide) (by decide) (by decide))).trans (Fr.sub F9 (by decide) (by decide) (by decide))) R10 (by omega) (by first | exact hss | exact hcs.ssa hss (hsc.fr hF (by decide))) (by omega) (fun e n a c => by first | exact hun e n (by omega) c | (rw [hcs.at (by omega)]; exact hun e n (by omega) c)) (fun y c => by first | exact hre y c | (rw [hcs.at (by omega)]; exact hre y c)) (hjn.cstw (by omega) (by omega) hcs0 (by omega) rfl (fun e => sDT_ne (by omega)) (cDT.fr hF (by decide)) hg0) rfl)
        · exact absurd h6 (by omega)
      · refine tm_aload_n dX12_comes_51 rfl 3 rfl ?_
        refine tm_get (k := 49) (v := .ref (b + 1 + 27)) lay_12 dX12_comes_52 (by decide) fl12_99 rfl ?_
        refine tm_iload dX12_comes_55 0 rfl ?_
        refine tm_iald (z := ((31824 * r) + (144 * to)) + n1) (v := σ.2.1 49 (((31824 * r) + (144 * to)) + n1)) dX12_comes_57 (show mT[27]? = some (49, 0, 190944) from rfl) (by omega) (by omega) (by decide) (rfl) ?_
        have g15 := RG.a hR 49 (((31824 * r) + (144 * to)) + n1)
        refine tm_aload_n dX12_comes_58 rfl 3 rfl ?_
        refine tm_get (k := 54) (v := .ref (b + 1 + 32)) lay_12 dX12_comes_59 (by decide) fl12_114 rfl ?_
        refine tm_iload dX12_comes_62 1 rfl ?_
        refine tm_iald (z := n1) (v := σ0.2.1 54 n1) dX12_comes_64 (show mT[32]? = some (54, 0, 144) from rfl) (by omega) (by omega) (by decide) (ra_F hF (by decide) (rfl)) ?_
        have g16 := RG.a hR0 54 (n1)
        refine tm_icmp_ne (tgt := 140) dX12_comes_65 (by decide) ⟨by omega, by omega⟩ ⟨by omega, by omega⟩ (fun h17 => ?_) (fun h17 => ?_)
        · refine tm_iconst dX12_comes_140 ?_
          refine tm_istore (L' := [(6, .int (iI 0)), (5, .int (iI (((31824 * r) + (144 * to)) + n1))), (4, .int (iI n1)), (3, .int (iI w)), (0, .ref b), (1, .int (iI r)), (2, .int (iI to))]) dX12_comes_141 (by decide) rfl ?_
          refine tm_iload dX12_comes_143 0 rfl ?_
          refine tm_if_ne (tgt := 298) dX12_comes_145 (by decide) ⟨by decide, by decide⟩ (fun h => absurd h (by decide)) (fun _ => ?_)
          refine tm_aload_n dX12_comes_148 rfl 4 rfl ?_
          refine tm_get (k := 47) (v := .ref (b + 1 + 25)) lay_12 dX12_comes_149 (by decide) fl12_91 rfl ?_
          refine tm_iload_n dX12_comes_152 rfl 6 rfl ?_
          refine tm_zald (z := to) (v := σ0.2.1 47 to) dX12_comes_153 (show mT[25]? = some (47, 2, 221) from rfl) (by omega) (by omega) (by decide) (ra_F hF (by decide) (rfl)) ?_
          have g19 := RG.a hR0 47 (to)
          have := hbo (to)
          refine tm_if_eq (tgt := 172) dX12_comes_154 (by decide) ⟨by omega, by omega⟩ (fun h20 => ?_) (fun h20 => ?_)
          · exact absurd h20 (by omega)
          · refine tm_aload_n dX12_comes_157 rfl 4 rfl ?_
            refine tm_get (k := 49) (v := .ref (b + 1 + 27)) lay_12 dX12_comes_158 (by decide) fl12_99 rfl ?_
            refine tm_iload dX12_comes_161 1 rfl ?_
            refine tm_iald (z := ((31824 * r) + (144 * to)) + n1) (v := σ.2.1 49 (((31824 * r) + (144 * to)) + n1)) dX12_comes_163 (show mT[27]? = some (49, 0, 190944) from rfl) (by omega) (by omega) (by decide) (rfl) ?_
            have g21 := RG.a hR 49 (((31824 * r) + (144 * to)) + n1)
            refine tm_bipush dX12_comes_164 (by decide) ?_
            refine tm_icmp_ne (tgt := 172) dX12_comes_166 (by decide) ⟨by omega, by omega⟩ ⟨by decide, by decide⟩ (fun h22 => ?_) (fun h22 => ?_)
            · refine tm_sub [1, 2, 3, 4, 5, 6] rfl (b_comes (d) (σ0 := σ) (r := r) (to := to) (n1 := n1) (by omega) hR (by omega) (fun w29 σ30 F25 R26 f27 f28 => ?_) _ (w) σ Fr.rfl hR rfl rfl)
              show Tm _ _ 298 b σ30 [(5, .int (iI (31824 * r + 144 * to + n1))), (4, .int (iI n1)), (3, .int (iI w29)), (0, .ref b), (1, .int (iI r)), (2, .int (iI to))] [] _
              have hcs0 := f28
              rw [e47] at hcs0
              have hcs := hcs0
              have hcw2 := hcs.cw (lo := 31824 * r) (N := 31824) (by omega) (by omega) (by omega)
              refine tm_iinc (q0 := 1) (L' := [(4, .int (iI (n1 + 1))), (5, .int (iI (31824 * r + 144 * to + n1))), (3, .int (iI w29)), (0, .ref b), (1, .int (iI r)), (2, .int (iI to))]) dX12_comes_298 rfl (by decide) rfl ?_
              refine tm_goto (tgt := 18) dX12_comes_301 (by decide) ?_
              exact tm_sub [0, 2, 3, 4, 5] rfl (ih _ (by omega) (w29) (n1 + 1) σ30 ((Fr.rfl.trans (Fr.sub hF (by decide) (by decide) (by decide))).trans (Fr.sub F25 (by decide) (by decide) (by decide))) R26 (by omega) (by first | exact hss | exact hcs.ssa hss (hsc.fr hF (by decide))) (by omega) (fun e n a c => by first | exact hun e n (by omega) c | (rw [hcs.at (by omega)]; exact hun e n (by omega) c)) (fun y c => by first | exact hre y c | (rw [hcs.at (by omega)]; exact hre y c)) (hjn.cstw (by omega) (by omega) hcs0 (by omega) rfl (fun e => sDT_ne (by omega)) (cDT.fr hF (by decide)) hg0) rfl)
            · refine tm_goto (tgt := 298) dX12_comes_169 (by decide) ?_
              refine tm_iinc (q0 := 2) (L' := [(4, .int (iI (n1 + 1))), (6, .int (iI 0)), (5, .int (iI (((31824 * r) + (144 * to)) + n1))), (3, .int (iI w)), (0, .ref b), (1, .int (iI r)), (2, .int (iI to))]) dX12_comes_298 rfl (by decide) rfl ?_
              refine tm_goto (tgt := 18) dX12_comes_301 (by decide) ?_
              exact tm_sub [0, 3, 4, 5, 6] rfl (ih _ (by omega) (w) (n1 + 1) σ (Fr.rfl.trans (Fr.sub hF (by decide) (by decide) (by decide))) hR (by omega) (by first | exact hss | exact hcs.ssa hss (hsc.fr hF (by decide))) (by omega) (fun e n a c => by first | exact hun e n (by omega) c | (rw [hcs.at (by omega)]; exact hun e n (by omega) c)) (fun y c => by first | exact hre y c | (rw [hcs.at (by omega)]; exact hre y c)) (hjn.skip (by omega) (by omega) (by first | exact Or.inr (by omega) | exact Or.inl (sDT_eq ⟨by omega, by omega, by omega, by omega, by omega⟩))) rfl)
        · refine tm_aload_n dX12_comes_68 rfl 3 rfl ?_
          refine tm_get (k := 50) (v := .ref (b + 1 + 28)) lay_12 dX12_comes_69 (by decide) fl12_102 rfl ?_
          refine tm_iload dX12_comes_72 0 rfl ?_
          refine tm_iald (z := ((31824 * r) + (144 * to)) + n1) (v := σ.2.1 50 (((31824 * r) + (144 * to)) + n1)) dX12_comes_74 (show mT[28]? = some (50, 0, 190944) from rfl) (by omega) (by omega) (by decide) (rfl) ?_
          have g31 := RG.a hR 50 (((31824 * r) + (144 * to)) + n1)
          refine tm_aload_n dX12_comes_75 rfl 3 rfl ?_
          refine tm_get (k := 55) (v := .ref (b + 1 + 33)) lay_12 dX12_comes_76 (by decide) fl12_117 rfl ?_
          refine tm_iload dX12_comes_79 1 rfl ?_
          refine tm_iald (z := n1) (v := σ0.2.1 55 n1) dX12_comes_81 (show mT[33]? = some (55, 0, 144) from rfl) (by omega) (by omega) (by decide) (ra_F hF (by decide) (rfl)) ?_
          have g32 := RG.a hR0 55 (n1)
          refine tm_icmp_ne (tgt := 140) dX12_comes_82 (by decide) ⟨by omega, by omega⟩ ⟨by omega, by omega⟩ (fun h33 => ?_) (fun h33 => ?_)
          · refine tm_iconst dX12_comes_140 ?_
            refine tm_istore (L' := [(6, .int (iI 0)), (5, .int (iI (((31824 * r) + (144 * to)) + n1))), (4, .int (iI n1)), (3, .int (iI w)), (0, .ref b), (1, .int (iI r)), (2, .int (iI to))]) dX12_comes_141 (by decide) rfl ?_
            refine tm_iload dX12_comes_143 0 rfl ?_
            refine tm_if_ne (tgt := 298) dX12_comes_145 (by decide) ⟨by decide, by decide⟩ (fun h => absurd h (by decide)) (fun _ => ?_)
            refine tm_aload_n dX12_comes_148 rfl 4 rfl ?_
            refine tm_get (k := 47) (v := .ref (b + 1 + 25)) lay_12 dX12_comes_149 (by decide) fl12_91 rfl ?_
            refine tm_iload_n dX12_comes_152 rfl 6 rfl ?_
            refine tm_zald (z := to) (v := σ0.2.1 47 to) dX12_comes_153 (show mT[25]? = some (47, 2, 221) from rfl) (by omega) (by omega) (by decide) (ra_F hF (by decide) (rfl)) ?_
            have g35 := RG.a hR0 47 (to)
            have := hbo (to)
            refine tm_if_eq (tgt := 172) dX12_comes_154 (by decide) ⟨by omega, by omega⟩ (fun h36 => ?_) (fun h36 => ?_)
            · exact absurd h36 (by omega)
            · refine tm_aload_n dX12_comes_157 rfl 4 rfl ?_
              refine tm_get (k := 49) (v := .ref (b + 1 + 27)) lay_12 dX12_comes_158 (by decide) fl12_99 rfl ?_
              refine tm_iload dX12_comes_161 1 rfl ?_
              refine tm_iald (z := ((31824 * r) + (144 * to)) + n1) (v := σ.2.1 49 (((31824 * r) + (144 * to)) + n1)) dX12_comes_163 (show mT[27]? = some (49, 0, 190944) from rfl) (by omega) (by omega) (by decide) (rfl) ?_
              have g37 := RG.a hR 49 (((31824 * r) + (144 * to)) + n1)
              refine tm_bipush dX12_comes_164 (by decide) ?_
              refine tm_icmp_ne (tgt := 172) dX12_comes_166 (by decide) ⟨by omega, by omega⟩ ⟨by decide, by decide⟩ (fun h38 => ?_) (fun h38 => ?_)
              · refine tm_sub [1, 2, 3, 4, 5, 6] rfl (b_comes (d) (σ0 := σ) (r := r) (to := to) (n1 := n1) (by omega) hR (by omega) (fun w45 σ46 F41 R42 f43 f44 => ?_) _ (w) σ Fr.rfl hR rfl rfl)
                show Tm _ _ 298 b σ46 [(5, .int (iI (31824 * r + 144 * to + n1))), (4, .int (iI n1)), (3, .int (iI w45)), (0, .ref b), (1, .int (iI r)), (2, .int (iI to))] [] _
                have hcs0 := f44
                rw [e47] at hcs0
                have hcs := hcs0
                have hcw2 := hcs.cw (lo := 31824 * r) (N := 31824) (by omega) (by omega) (by omega)
                refine tm_iinc (q0 := 1) (L' := [(4, .int (iI (n1 + 1))), (5, .int (iI (31824 * r + 144 * to + n1))), (3, .int (iI w45)), (0, .ref b), (1, .int (iI r)), (2, .int (iI to))]) dX12_comes_298 rfl (by decide) rfl ?_
                refine tm_goto (tgt := 18) dX12_comes_301 (by decide) ?_
                exact tm_sub [0, 2, 3, 4, 5] rfl (ih _ (by omega) (w45) (n1 + 1) σ46 ((Fr.rfl.trans (Fr.sub hF (by decide) (by decide) (by decide))).trans (Fr.sub F41 (by decide) (by decide) (by decide))) R42 (by omega) (by first | exact hss | exact hcs.ssa hss (hsc.fr hF (by decide))) (by omega) (fun e n a c => by first | exact hun e n (by omega) c | (rw [hcs.at (by omega)]; exact hun e n (by omega) c)) (fun y c => by first | exact hre y c | (rw [hcs.at (by omega)]; exact hre y c)) (hjn.cstw (by omega) (by omega) hcs0 (by omega) rfl (fun e => sDT_ne (by omega)) (cDT.fr hF (by decide)) hg0) rfl)
              · refine tm_goto (tgt := 298) dX12_comes_169 (by decide) ?_
                refine tm_iinc (q0 := 2) (L' := [(4, .int (iI (n1 + 1))), (6, .int (iI 0)), (5, .int (iI (((31824 * r) + (144 * to)) + n1))), (3, .int (iI w)), (0, .ref b), (1, .int (iI r)), (2, .int (iI to))]) dX12_comes_298 rfl (by decide) rfl ?_
                refine tm_goto (tgt := 18) dX12_comes_301 (by decide) ?_
                exact tm_sub [0, 3, 4, 5, 6] rfl (ih _ (by omega) (w) (n1 + 1) σ (Fr.rfl.trans (Fr.sub hF (by decide) (by decide) (by decide))) hR (by omega) (by first | exact hss | exact hcs.ssa hss (hsc.fr hF (by decide))) (by omega) (fun e n a c => by first | exact hun e n (by omega) c | (rw [hcs.at (by omega)]; exact hun e n (by omega) c)) (fun y c => by first | exact hre y c | (rw [hcs.at (by omega)]; exact hre y c)) (hjn.skip (by omega) (by omega) (by first | exact Or.inr (by omega) | exact Or.inl (sDT_eq ⟨by omega, by omega, by omega, by omega, by omega⟩))) rfl)
          · refine tm_aload_n dX12_comes_85 rfl 3 rfl ?_
            refine tm_get (k := 51) (v := .ref (b + 1 + 29)) lay_12 dX12_comes_86 (by decide) fl12_105 rfl ?_
            refine tm_iload dX12_comes_89 0 rfl ?_
            refine tm_iald (z := ((31824 * r) + (144 * to)) + n1) (v := σ.2.1 51 (((31824 * r) + (144 * to)) + n1)) dX12_comes_91 (show mT[29]? = some (51, 0, 190944) from rfl) (by omega) (by omega) (by decide) (rfl) ?_
            have g47 := RG.a hR 51 (((31824 * r) + (144 * to)) + n1)
            refine tm_aload_n dX12_comes_92 rfl 3 rfl ?_
            refine tm_get (k := 56) (v := .ref (b + 1 + 34)) lay_12 dX12_comes_93 (by decide) fl12_120 rfl ?_
            refine tm_iload dX12_comes_96 1 rfl ?_
            refine tm_iald (z := n1) (v := σ0.2.1 56 n1) dX12_comes_98 (show mT[34]? = some (56, 0, 144) from rfl) (by omega) (by omega) (by decide) (ra_F hF (by decide) (rfl)) ?_
            have g48 := RG.a hR0 56 (n1)
            refine tm_icmp_ne (tgt := 140) dX12_comes_99 (by decide) ⟨by omega, by omega⟩ ⟨by omega, by omega⟩ (fun h49 => ?_) (fun h49 => ?_)
            · refine tm_iconst dX12_comes_140 ?_
              refine tm_istore (L' := [(6, .int (iI 0)), (5, .int (iI (((31824 * r) + (144 * to)) + n1))), (4, .int (iI n1)), (3, .int (iI w)), (0, .ref b), (1, .int (iI r)), (2, .int (iI to))]) dX12_comes_141 (by decide) rfl ?_
              refine tm_iload dX12_comes_143 0 rfl ?_
              refine tm_if_ne (tgt := 298) dX12_comes_145 (by decide) ⟨by decide, by decide⟩ (fun h => absurd h (by decide)) (fun _ => ?_)
              refine tm_aload_n dX12_comes_148 rfl 4 rfl ?_
              refine tm_get (k := 47) (v := .ref (b + 1 + 25)) lay_12 dX12_comes_149 (by decide) fl12_91 rfl ?_
              refine tm_iload_n dX12_comes_152 rfl 6 rfl ?_
              refine tm_zald (z := to) (v := σ0.2.1 47 to) dX12_comes_153 (show mT[25]? = some (47, 2, 221) from rfl) (by omega) (by omega) (by decide) (ra_F hF (by decide) (rfl)) ?_
              have g51 := RG.a hR0 47 (to)
              have := hbo (to)
              refine tm_if_eq (tgt := 172) dX12_comes_154 (by decide) ⟨by omega, by omega⟩ (fun h52 => ?_) (fun h52 => ?_)
              · exact absurd h52 (by omega)
              · refine tm_aload_n dX12_comes_157 rfl 4 rfl ?_
                refine tm_get (k := 49) (v := .ref (b + 1 + 27)) lay_12 dX12_comes_158 (by decide) fl12_99 rfl ?_
                refine tm_iload dX12_comes_161 1 rfl ?_
                refine tm_iald (z := ((31824 * r) + (144 * to)) + n1) (v := σ.2.1 49 (((31824 * r) + (144 * to)) + n1)) dX12_comes_163 (show mT[27]? = some (49, 0, 190944) from rfl) (by omega) (by omega) (by decide) (rfl) ?_
                have g53 := RG.a hR 49 (((31824 * r) + (144 * to)) + n1)
                refine tm_bipush dX12_comes_164 (by decide) ?_
                refine tm_icmp_ne (tgt := 172) dX12_comes_166 (by decide) ⟨by omega, by omega⟩ ⟨by decide, by decide⟩ (fun h54 => ?_) (fun h54 => ?_)
                · refine tm_sub [1, 2, 3, 4, 5, 6] rfl (b_comes (d) (σ0 := σ) (r := r) (to := to) (n1 := n1) (by omega) hR (by omega) (fun w61 σ62 F57 R58 f59 f60 => ?_) _ (w) σ Fr.rfl hR rfl rfl)
                  show Tm _ _ 298 b σ62 [(5, .int (iI (31824 * r + 144 * to + n1))), (4, .int (iI n1)), (3, .int (iI w61)), (0, .ref b), (1, .int (iI r)), (2, .int (iI to))] [] _
                  have hcs0 := f60
                  rw [e47] at hcs0
                  have hcs := hcs0
                  have hcw2 := hcs.cw (lo := 31824 * r) (N := 31824) (by omega) (by omega) (by omega)
                  refine tm_iinc (q0 := 1) (L' := [(4, .int (iI (n1 + 1))), (5, .int (iI (31824 * r + 144 * to + n1))), (3, .int (iI w61)), (0, .ref b), (1, .int (iI r)), (2, .int (iI to))]) dX12_comes_298 rfl (by decide) rfl ?_
                  refine tm_goto (tgt := 18) dX12_comes_301 (by decide) ?_
                  exact tm_sub [0, 2, 3, 4, 5] rfl (ih _ (by omega) (w61) (n1 + 1) σ62 ((Fr.rfl.trans (Fr.sub hF (by decide) (by decide) (by decide))).trans (Fr.sub F57 (by decide) (by decide) (by decide))) R58 (by omega) (by first | exact hss | exact hcs.ssa hss (hsc.fr hF (by decide))) (by omega) (fun e n a c => by first | exact hun e n (by omega) c | (rw [hcs.at (by omega)]; exact hun e n (by omega) c)) (fun y c => by first | exact hre y c | (rw [hcs.at (by omega)]; exact hre y c)) (hjn.cstw (by omega) (by omega) hcs0 (by omega) rfl (fun e => sDT_ne (by omega)) (cDT.fr hF (by decide)) hg0) rfl)
                · refine tm_goto (tgt := 298) dX12_comes_169 (by decide) ?_
                  refine tm_iinc (q0 := 2) (L' := [(4, .int (iI (n1 + 1))), (6, .int (iI 0)), (5, .int (iI (((31824 * r) + (144 * to)) + n1))), (3, .int (iI w)), (0, .ref b), (1, .int (iI r)), (2, .int (iI to))]) dX12_comes_298 rfl (by decide) rfl ?_
                  refine tm_goto (tgt := 18) dX12_comes_301 (by decide) ?_
                  exact tm_sub [0, 3, 4, 5, 6] rfl (ih _ (by omega) (w) (n1 + 1) σ (Fr.rfl.trans (Fr.sub hF (by decide) (by decide) (by decide))) hR (by omega) (by first | exact hss | exact hcs.ssa hss (hsc.fr hF (by decide))) (by omega) (fun e n a c => by first | exact hun e n (by omega) c | (rw [hcs.at (by omega)]; exact hun e n (by omega) c)) (fun y c => by first | exact hre y c | (rw [hcs.at (by omega)]; exact hre y c)) (hjn.skip (by omega) (by omega) (by first | exact Or.inr (by omega) | exact Or.inl (sDT_eq ⟨by omega, by omega, by omega, by omega, by omega⟩))) rfl)
            · refine tm_aload_n dX12_comes_102 rfl 3 rfl ?_
              refine tm_get (k := 52) (v := .ref (b + 1 + 30)) lay_12 dX12_comes_103 (by decide) fl12_108 rfl ?_
              refine tm_iload dX12_comes_106 0 rfl ?_
              refine tm_iald (z := ((31824 * r) + (144 * to)) + n1) (v := σ.2.1 52 (((31824 * r) + (144 * to)) + n1)) dX12_comes_108 (show mT[30]? = some (52, 0, 190944) from rfl) (by omega) (by omega) (by decide) (rfl) ?_
              have g63 := RG.a hR 52 (((31824 * r) + (144 * to)) + n1)
              refine tm_aload_n dX12_comes_109 rfl 3 rfl ?_
              refine tm_get (k := 57) (v := .ref (b + 1 + 35)) lay_12 dX12_comes_110 (by decide) fl12_123 rfl ?_
              refine tm_iload dX12_comes_113 1 rfl ?_
              refine tm_iald (z := n1) (v := σ0.2.1 57 n1) dX12_comes_115 (show mT[35]? = some (57, 0, 144) from rfl) (by omega) (by omega) (by decide) (ra_F hF (by decide) (rfl)) ?_
              have g64 := RG.a hR0 57 (n1)
              refine tm_icmp_ne (tgt := 140) dX12_comes_116 (by decide) ⟨by omega, by omega⟩ ⟨by omega, by omega⟩ (fun h65 => ?_) (fun h65 => ?_)
              · refine tm_iconst dX12_comes_140 ?_
                refine tm_istore (L' := [(6, .int (iI 0)), (5, .int (iI (((31824 * r) + (144 * to)) + n1))), (4, .int (iI n1)), (3, .int (iI w)), (0, .ref b), (1, .int (iI r)), (2, .int (iI to))]) dX12_comes_141 (by decide) rfl ?_
                refine tm_iload dX12_comes_143 0 rfl ?_
                refine tm_if_ne (tgt := 298) dX12_comes_145 (by decide) ⟨by decide, by decide⟩ (fun h => absurd h (by decide)) (fun _ => ?_)
                refine tm_aload_n dX12_comes_148 rfl 4 rfl ?_
                refine tm_get (k := 47) (v := .ref (b + 1 + 25)) lay_12 dX12_comes_149 (by decide) fl12_91 rfl ?_
                refine tm_iload_n dX12_comes_152 rfl 6 rfl ?_
                refine tm_zald (z := to) (v := σ0.2.1 47 to) dX12_comes_153 (show mT[25]? = some (47, 2, 221) from rfl) (by omega) (by omega) (by decide) (ra_F hF (by decide) (rfl)) ?_
                have g67 := RG.a hR0 47 (to)
                have := hbo (to)
                refine tm_if_eq (tgt := 172) dX12_comes_154 (by decide) ⟨by omega, by omega⟩ (fun h68 => ?_) (fun h68 => ?_)
                · exact absurd h68 (by omega)
                · refine tm_aload_n dX12_comes_157 rfl 4 rfl ?_
                  refine tm_get (k := 49) (v := .ref (b + 1 + 27)) lay_12 dX12_comes_158 (by decide) fl12_99 rfl ?_
                  refine tm_iload dX12_comes_161 1 rfl ?_
                  refine tm_iald (z := ((31824 * r) + (144 * to)) + n1) (v := σ.2.1 49 (((31824 * r) + (144 * to)) + n1)) dX12_comes_163 (show mT[27]? = some (49, 0, 190944) from rfl) (by omega) (by omega) (by decide) (rfl) ?_
                  have g69 := RG.a hR 49 (((31824 * r) + (144 * to)) + n1)
                  refine tm_bipush dX12_comes_164 (by decide) ?_
                  refine tm_icmp_ne (tgt := 172) dX12_comes_166 (by decide) ⟨by omega, by omega⟩ ⟨by decide, by decide⟩ (fun h70 => ?_) (fun h70 => ?_)
                  · refine tm_sub [1, 2, 3, 4, 5, 6] rfl (b_comes (d) (σ0 := σ) (r := r) (to := to) (n1 := n1) (by omega) hR (by omega) (fun w77 σ78 F73 R74 f75 f76 => ?_) _ (w) σ Fr.rfl hR rfl rfl)
                    show Tm _ _ 298 b σ78 [(5, .int (iI (31824 * r + 144 * to + n1))), (4, .int (iI n1)), (3, .int (iI w77)), (0, .ref b), (1, .int (iI r)), (2, .int (iI to))] [] _
                    have hcs0 := f76
                    rw [e47] at hcs0
                    have hcs := hcs0
                    have hcw2 := hcs.cw (lo := 31824 * r) (N := 31824) (by omega) (by omega) (by omega)
                    refine tm_iinc (q0 := 1) (L' := [(4, .int (iI (n1 + 1))), (5, .int (iI (31824 * r + 144 * to + n1))), (3, .int (iI w77)), (0, .ref b), (1, .int (iI r)), (2, .int (iI to))]) dX12_comes_298 rfl (by decide) rfl ?_
                    refine tm_goto (tgt := 18) dX12_comes_301 (by decide) ?_
                    exact tm_sub [0, 2, 3, 4, 5] rfl (ih _ (by omega) (w77) (n1 + 1) σ78 ((Fr.rfl.trans (Fr.sub hF (by decide) (by decide) (by decide))).trans (Fr.sub F73 (by decide) (by decide) (by decide))) R74 (by omega) (by first | exact hss | exact hcs.ssa hss (hsc.fr hF (by decide))) (by omega) (fun e n a c => by first | exact hun e n (by omega) c | (rw [hcs.at (by omega)]; exact hun e n (by omega) c)) (fun y c => by first | exact hre y c | (rw [hcs.at (by omega)]; exact hre y c)) (hjn.cstw (by omega) (by omega) hcs0 (by omega) rfl (fun e => sDT_ne (by omega)) (cDT.fr hF (by decide)) hg0) rfl)
                  · refine tm_goto (tgt := 298) dX12_comes_169 (by decide) ?_
                    refine tm_iinc (q0 := 2) (L' := [(4, .int (iI (n1 + 1))), (6, .int (iI 0)), (5, .int (iI (((31824 * r) + (144 * to)) + n1))), (3, .int (iI w)), (0, .ref b), (1, .int (iI r)), (2, .int (iI to))]) dX12_comes_298 rfl (by decide) rfl ?_
                    refine tm_goto (tgt := 18) dX12_comes_301 (by decide) ?_
                    exact tm_sub [0, 3, 4, 5, 6] rfl (ih _ (by omega) (w) (n1 + 1) σ (Fr.rfl.trans (Fr.sub hF (by decide) (by decide) (by decide))) hR (by omega) (by first | exact hss | exact hcs.ssa hss (hsc.fr hF (by decide))) (by omega) (fun e n a c => by first | exact hun e n (by omega) c | (rw [hcs.at (by omega)]; exact hun e n (by omega) c)) (fun y c => by first | exact hre y c | (rw [hcs.at (by omega)]; exact hre y c)) (hjn.skip (by omega) (by omega) (by first | exact Or.inr (by omega) | exact Or.inl (sDT_eq ⟨by omega, by omega, by omega, by omega, by omega⟩))) rfl)
              · refine tm_aload_n dX12_comes_119 rfl 3 rfl ?_
                refine tm_get (k := 53) (v := .ref (b + 1 + 31)) lay_12 dX12_comes_120 (by decide) fl12_111 rfl ?_
                refine tm_iload dX12_comes_123 0 rfl ?_
                refine tm_iald (z := ((31824 * r) + (144 * to)) + n1) (v := σ.2.1 53 (((31824 * r) + (144 * to)) + n1)) dX12_comes_125 (show mT[31]? = some (53, 0, 190944) from rfl) (by omega) (by omega) (by decide) (rfl) ?_
                have g79 := RG.a hR 53 (((31824 * r) + (144 * to)) + n1)
                refine tm_aload_n dX12_comes_126 rfl 3 rfl ?_
                refine tm_get (k := 58) (v := .ref (b + 1 + 36)) lay_12 dX12_comes_127 (by decide) fl12_126 rfl ?_
                refine tm_iload dX12_comes_130 1 rfl ?_
                refine tm_iald (z := n1) (v := σ0.2.1 58 n1) dX12_comes_132 (show mT[36]? = some (58, 0, 144) from rfl) (by omega) (by omega) (by decide) (ra_F hF (by decide) (rfl)) ?_
                have g80 := RG.a hR0 58 (n1)
                refine tm_icmp_ne (tgt := 140) dX12_comes_133 (by decide) ⟨by omega, by omega⟩ ⟨by omega, by omega⟩ (fun h81 => ?_) (fun h81 => ?_)
                · refine tm_iconst dX12_comes_140 ?_
                  refine tm_istore (L' := [(6, .int (iI 0)), (5, .int (iI (((31824 * r) + (144 * to)) + n1))), (4, .int (iI n1)), (3, .int (iI w)), (0, .ref b), (1, .int (iI r)), (2, .int (iI to))]) dX12_comes_141 (by decide) rfl ?_
                  refine tm_iload dX12_comes_143 0 rfl ?_
                  refine tm_if_ne (tgt := 298) dX12_comes_145 (by decide) ⟨by decide, by decide⟩ (fun h => absurd h (by decide)) (fun _ => ?_)
                  refine tm_aload_n dX12_comes_148 rfl 4 rfl ?_
                  refine tm_get (k := 47) (v := .ref (b + 1 + 25)) lay_12 dX12_comes_149 (by decide) fl12_91 rfl ?_
                  refine tm_iload_n dX12_comes_152 rfl 6 rfl ?_
                  refine tm_zald (z := to) (v := σ0.2.1 47 to) dX12_comes_153 (show mT[25]? = some (47, 2, 221) from rfl) (by omega) (by omega) (by decide) (ra_F hF (by decide) (rfl)) ?_
                  have g83 := RG.a hR0 47 (to)
                  have := hbo (to)
                  refine tm_if_eq (tgt := 172) dX12_comes_154 (by decide) ⟨by omega, by omega⟩ (fun h84 => ?_) (fun h84 => ?_)
                  · exact absurd h84 (by omega)
                  · refine tm_aload_n dX12_comes_157 rfl 4 rfl ?_
                    refine tm_get (k := 49) (v := .ref (b + 1 + 27)) lay_12 dX12_comes_158 (by decide) fl12_99 rfl ?_
                    refine tm_iload dX12_comes_161 1 rfl ?_
                    refine tm_iald (z := ((31824 * r) + (144 * to)) + n1) (v := σ.2.1 49 (((31824 * r) + (144 * to)) + n1)) dX12_comes_163 (show mT[27]? = some (49, 0, 190944) from rfl) (by omega) (by omega) (by decide) (rfl) ?_
                    have g85 := RG.a hR 49 (((31824 * r) + (144 * to)) + n1)
                    refine tm_bipush dX12_comes_164 (by decide) ?_
                    refine tm_icmp_ne (tgt := 172) dX12_comes_166 (by decide) ⟨by omega, by omega⟩ ⟨by decide, by decide⟩ (fun h86 => ?_) (fun h86 => ?_)
                    · refine tm_sub [1, 2, 3, 4, 5, 6] rfl (b_comes (d) (σ0 := σ) (r := r) (to := to) (n1 := n1) (by omega) hR (by omega) (fun w93 σ94 F89 R90 f91 f92 => ?_) _ (w) σ Fr.rfl hR rfl rfl)
                      show Tm _ _ 298 b σ94 [(5, .int (iI (31824 * r + 144 * to + n1))), (4, .int (iI n1)), (3, .int (iI w93)), (0, .ref b), (1, .int (iI r)), (2, .int (iI to))] [] _
                      have hcs0 := f92
                      rw [e47] at hcs0
                      have hcs := hcs0
                      have hcw2 := hcs.cw (lo := 31824 * r) (N := 31824) (by omega) (by omega) (by omega)
                      refine tm_iinc (q0 := 1) (L' := [(4, .int (iI (n1 + 1))), (5, .int (iI (31824 * r + 144 * to + n1))), (3, .int (iI w93)), (0, .ref b), (1, .int (iI r)), (2, .int (iI to))]) dX12_comes_298 rfl (by decide) rfl ?_
                      refine tm_goto (tgt := 18) dX12_comes_301 (by decide) ?_
                      exact tm_sub [0, 2, 3, 4, 5] rfl (ih _ (by omega) (w93) (n1 + 1) σ94 ((Fr.rfl.trans (Fr.sub hF (by decide) (by decide) (by decide))).trans (Fr.sub F89 (by decide) (by decide) (by decide))) R90 (by omega) (by first | exact hss | exact hcs.ssa hss (hsc.fr hF (by decide))) (by omega) (fun e n a c => by first | exact hun e n (by omega) c | (rw [hcs.at (by omega)]; exact hun e n (by omega) c)) (fun y c => by first | exact hre y c | (rw [hcs.at (by omega)]; exact hre y c)) (hjn.cstw (by omega) (by omega) hcs0 (by omega) rfl (fun e => sDT_ne (by omega)) (cDT.fr hF (by decide)) hg0) rfl)
                    · refine tm_goto (tgt := 298) dX12_comes_169 (by decide) ?_
                      refine tm_iinc (q0 := 2) (L' := [(4, .int (iI (n1 + 1))), (6, .int (iI 0)), (5, .int (iI (((31824 * r) + (144 * to)) + n1))), (3, .int (iI w)), (0, .ref b), (1, .int (iI r)), (2, .int (iI to))]) dX12_comes_298 rfl (by decide) rfl ?_
                      refine tm_goto (tgt := 18) dX12_comes_301 (by decide) ?_
                      exact tm_sub [0, 3, 4, 5, 6] rfl (ih _ (by omega) (w) (n1 + 1) σ (Fr.rfl.trans (Fr.sub hF (by decide) (by decide) (by decide))) hR (by omega) (by first | exact hss | exact hcs.ssa hss (hsc.fr hF (by decide))) (by omega) (fun e n a c => by first | exact hun e n (by omega) c | (rw [hcs.at (by omega)]; exact hun e n (by omega) c)) (fun y c => by first | exact hre y c | (rw [hcs.at (by omega)]; exact hre y c)) (hjn.skip (by omega) (by omega) (by first | exact Or.inr (by omega) | exact Or.inl (sDT_eq ⟨by omega, by omega, by omega, by omega, by omega⟩))) rfl)
                · refine tm_iconst dX12_comes_136 ?_
                  refine tm_goto (tgt := 141) dX12_comes_137 (by decide) ?_
                  refine tm_istore (L' := [(6, .int (iI 1)), (5, .int (iI (((31824 * r) + (144 * to)) + n1))), (4, .int (iI n1)), (3, .int (iI w)), (0, .ref b), (1, .int (iI r)), (2, .int (iI to))]) dX12_comes_141 (by decide) rfl ?_
                  refine tm_iload dX12_comes_143 0 rfl ?_
                  refine tm_if_ne (tgt := 298) dX12_comes_145 (by decide) ⟨by decide, by decide⟩ (fun _ => ?_) (fun h => absurd h (by decide))
                  refine tm_iinc (q0 := 2) (L' := [(4, .int (iI (n1 + 1))), (6, .int (iI 1)), (5, .int (iI (((31824 * r) + (144 * to)) + n1))), (3, .int (iI w)), (0, .ref b), (1, .int (iI r)), (2, .int (iI to))]) dX12_comes_298 rfl (by decide) rfl ?_
                  refine tm_goto (tgt := 18) dX12_comes_301 (by decide) ?_
                  exact tm_sub [0, 3, 4, 5, 6] rfl (ih _ (by omega) (w) (n1 + 1) σ (Fr.rfl.trans (Fr.sub hF (by decide) (by decide) (by decide))) hR (by omega) (by first | exact hss | exact hcs.ssa hss (hsc.fr hF (by decide))) (by omega) (fun e n a c => by first | exact hun e n (by omega) c | (rw [hcs.at (by omega)]; exact hun e n (by omega) c)) (fun y c => by first | exact hre y c | (rw [hcs.at (by omega)]; exact hre y c)) (hjn.skip (by omega) (by omega) (by first | exact Or.inr (by omega) | exact Or.inl (sDT_eq ⟨by omega, by omega, by omega, by omega, by omega⟩))) rfl)
set_option maxHeartbeats 40000000 in
set_option maxRecDepth 20000 in
theorem f_X12_comes (d : Nat) {b : Nat} {σ : MS} {r : Int} {to : Int} {m : Int} (hr : 0 ≤ r ∧ r < 6) (hR : RG σ) (hbo : BO 47 σ) (hsc : SCA σ) (hss : SSA σ) (hto : 0 ≤ to ∧ to ≤ m ∧ m ≤ 220) (hun : UNR σ r m) (hg4 : G14s σ) (hg0 : G14c σ) : Tm (d + 1) m_X12_comes 0 b σ [(0, .ref b), (1, .int (iI r)), (2, .int (iI to))] [] (fun ro σ2 => ∃ v : Int, ro = some (.int (iI v)) ∧ ((v = 0 ∨ v = 1)) ∧ (Fr [] [47, 49, 50, 51, 52, 53] [] σ σ2) ∧ (RG σ2) ∧ (BO 47 σ2) ∧ (SSA σ2) ∧ (UNR σ2 r m) ∧ ((cz (σ2.2.1 47) 221 : Int) + (cw (σ2.2.1 49) (31824 * r) 31824 : Int) + v ≤ (cz (σ.2.1 47) 221 : Int) + (cw (σ.2.1 49) (31824 * r) 31824 : Int)) ∧ (σ2.2.1 47 to = 1) ∧ (∀ k, σ.2.1 47 k = 1 → σ2.2.1 47 k = 1) ∧ (CMX σ σ2 r to v)) := by
  refine tm_aload_n dX12_comes_0 rfl 0 rfl ?_
  refine tm_get (k := 47) (v := .ref (b + 1 + 25)) lay_12 dX12_comes_1 (by decide) fl12_91 rfl ?_
  refine tm_iload_n dX12_comes_4 rfl 2 rfl ?_
  refine tm_zald (z := to) (v := σ.2.1 47 to) dX12_comes_5 (show mT[25]? = some (47, 2, 221) from rfl) (by omega) (by omega) (by decide) (rfl) ?_
  have g1 := RG.a hR 47 (to)
  have := hbo (to)
  refine tm_if_ne (tgt := 13) dX12_comes_6 (by decide) ⟨by omega, by omega⟩ (fun h2 => ?_) (fun h2 => ?_)
  · refine tm_iconst dX12_comes_13 ?_
    refine tm_istore_n (L' := [(3, .int (iI 0)), (0, .ref b), (1, .int (iI r)), (2, .int (iI to))]) dX12_comes_14 rfl (by decide) rfl ?_
    refine tm_iconst dX12_comes_15 ?_
    refine tm_istore (L' := [(4, .int (iI 0)), (3, .int (iI 0)), (0, .ref b), (1, .int (iI r)), (2, .int (iI to))]) dX12_comes_16 (by decide) rfl ?_
    refine tm_sub [0, 1, 2, 3, 4] rfl (f_comes (d) (σ0 := σ) (r := r) (to := to) (C0 := (cw (σ.2.1 49) (31824 * r) 31824 : Int)) (by omega) hR (by omega) hbo hsc hg0 (fun w13 n114 σ15 F6 R7 f8 f9 f10 f11 f12 => ?_) _ (0) (0) σ Fr.rfl hR (by omega) hss (by omega) (fun e n a c => hun to (by omega) (by omega) e n a c) (fun y _ => rfl) (JNC.z hg4 (by omega)) rfl)
    show Tm _ _ 304 b σ15 [(4, .int (iI n114)), (3, .int (iI w13)), (0, .ref b), (1, .int (iI r)), (2, .int (iI to))] [] _
    refine tm_aload_n dX12_comes_304 rfl 2 rfl ?_
    refine tm_get (k := 47) (v := .ref (b + 1 + 25)) lay_12 dX12_comes_305 (by decide) fl12_91 rfl ?_
    refine tm_iload_n dX12_comes_308 rfl 4 rfl ?_
    refine tm_iconst dX12_comes_309 ?_
    refine tm_zast (z := to) (v := 1) dX12_comes_310 (show mT[25]? = some (47, 2, 221) from rfl) (by omega) (by omega) (by decide) (by omega) ?_
    refine tm_iload_n dX12_comes_311 rfl 1 rfl ?_
    exact tm_zret (v := w13) rfl (by omega) dX12_comes_312 (⟨_, rfl, by omega, ((Fr.rfl.trans (Fr.sub F6 (by decide) (by decide) (by decide))).A (by decide)), (R7.A (by omega)), BO.A (hbo.fr F6 (by decide)) (by omega), SSA.fr f9 ((Fr.rfl (ss := []) (ks := [47]) (js := [])).A (by decide)) (by decide), fun k a c e n g i => by
      by_cases q : k = to
      · subst q; exact absurd (e.symm.trans ra_eq) (by decide)
      · have e2 : σ.2.1 47 k = 0 := by rw [← F6.2.1 47 (by decide)]; exact (ra_ne q rfl).symm.trans e
        exact ra_o (by decide) ((f11 _ (by omega)).trans (hun k a c e2 n g i)), by
      have e9 : cw ((sA 47 to 1 σ15).2.1 49) (31824 * r) 31824 = cw (σ15.2.1 49) (31824 * r) 31824 := rfl
      have e8 := cz_fr (n := 221) F6 (k := 47) (by decide)
      have e7 : σ15.2.1 47 to = σ.2.1 47 to := by rw [F6.2.1 47 (by decide)]
      rcases hbo to with e | e
      · have := cz_sA (σ := σ15) (k := 47) (n := 221) (z := to) (v := 1) (by omega) (by omega) (by omega) (by decide)
        omega
      · have e6 : cz ((sA 47 to 1 σ15).2.1 47) 221 = cz (σ15.2.1 47) 221 := cz_ext _ (fun j a c => by
          by_cases q : j = to
          · subst q; rw [e7, e]; exact ra_eq
          · exact ra_ne q rfl)
        omega, ra_eq, fun k e => by
      by_cases q : k = to
      · subst q; exact ra_eq
      · exact ra_ne q (by rw [F6.2.1 47 (by decide)]; exact e), f12.cmx F6 (by decide)⟩)
  · refine tm_iconst dX12_comes_9 ?_
    refine tm_goto (tgt := 14) dX12_comes_10 (by decide) ?_
    refine tm_istore_n (L' := [(3, .int (iI 1)), (0, .ref b), (1, .int (iI r)), (2, .int (iI to))]) dX12_comes_14 rfl (by decide) rfl ?_
    refine tm_iconst dX12_comes_15 ?_
    refine tm_istore (L' := [(4, .int (iI 0)), (3, .int (iI 1)), (0, .ref b), (1, .int (iI r)), (2, .int (iI to))]) dX12_comes_16 (by decide) rfl ?_
    refine tm_sub [0, 1, 2, 3, 4] rfl (f_comes (d) (σ0 := σ) (r := r) (to := to) (C0 := (cw (σ.2.1 49) (31824 * r) 31824 : Int)) (by omega) hR (by omega) hbo hsc hg0 (fun w26 n127 σ28 F19 R20 f21 f22 f23 f24 f25 => ?_) _ (1) (0) σ Fr.rfl hR (by omega) hss (by omega) (fun e n a c => hun to (by omega) (by omega) e n a c) (fun y _ => rfl) (JNC.z hg4 (by omega)) rfl)
    show Tm _ _ 304 b σ28 [(4, .int (iI n127)), (3, .int (iI w26)), (0, .ref b), (1, .int (iI r)), (2, .int (iI to))] [] _
    refine tm_aload_n dX12_comes_304 rfl 2 rfl ?_
    refine tm_get (k := 47) (v := .ref (b + 1 + 25)) lay_12 dX12_comes_305 (by decide) fl12_91 rfl ?_
    refine tm_iload_n dX12_comes_308 rfl 4 rfl ?_
    refine tm_iconst dX12_comes_309 ?_
    refine tm_zast (z := to) (v := 1) dX12_comes_310 (show mT[25]? = some (47, 2, 221) from rfl) (by omega) (by omega) (by decide) (by omega) ?_
    refine tm_iload_n dX12_comes_311 rfl 1 rfl ?_
    exact tm_zret (v := w26) rfl (by omega) dX12_comes_312 (⟨_, rfl, by omega, ((Fr.rfl.trans (Fr.sub F19 (by decide) (by decide) (by decide))).A (by decide)), (R20.A (by omega)), BO.A (hbo.fr F19 (by decide)) (by omega), SSA.fr f22 ((Fr.rfl (ss := []) (ks := [47]) (js := [])).A (by decide)) (by decide), fun k a c e n g i => by
      by_cases q : k = to
      · subst q; exact absurd (e.symm.trans ra_eq) (by decide)
      · have e2 : σ.2.1 47 k = 0 := by rw [← F19.2.1 47 (by decide)]; exact (ra_ne q rfl).symm.trans e
        exact ra_o (by decide) ((f24 _ (by omega)).trans (hun k a c e2 n g i)), by
      have e9 : cw ((sA 47 to 1 σ28).2.1 49) (31824 * r) 31824 = cw (σ28.2.1 49) (31824 * r) 31824 := rfl
      have e8 := cz_fr (n := 221) F19 (k := 47) (by decide)
      have e7 : σ28.2.1 47 to = σ.2.1 47 to := by rw [F19.2.1 47 (by decide)]
      rcases hbo to with e | e
      · have := cz_sA (σ := σ28) (k := 47) (n := 221) (z := to) (v := 1) (by omega) (by omega) (by omega) (by decide)
        omega
      · have e6 : cz ((sA 47 to 1 σ28).2.1 47) 221 = cz (σ28.2.1 47) 221 := cz_ext _ (fun j a c => by
          by_cases q : j = to
          · subst q; rw [e7, e]; exact ra_eq
          · exact ra_ne q rfl)
        omega, ra_eq, fun k e => by
      by_cases q : k = to
      · subst q; exact ra_eq
      · exact ra_ne q (by rw [F19.2.1 47 (by decide)]; exact e), f25.cmx F19 (by decide)⟩)
end
