section
set_option maxHeartbeats 1000000 in
set_option maxRecDepth 20000 in
theorem f_me1 (d : Nat) {b : Nat} {σ0 : MS} {r : Int} {post : Option Value → MS → Prop} (hr : 0 ≤ r ∧ r < σ0.1 10) (hR0 : RG σ0) (hit : ITM σ0) (hpar : PAR σ0) (hnam : NAM σ0) (hun : ∀ q, 0 ≤ q → q < σ0.1 10 → UNQ (rV σ0 q) (σ0.2.1 9 q)) (hx_277 : ∀ (tl : Int) (k : Int) (σ : MS) , (Fr [62] [3, 4, 5, 6, 7, 8, 9, 14, 15, 16, 17, 18, 46, 59] [] σ0 σ) → (RG σ) → (GDA σ) → (LAB σ) → (BO 59 σ) → (∀ j, j ≠ r → σ.2.1 9 j = σ0.2.1 9 j) → (XR r σ0 σ) → (MEX σ0 σ r (σ.2.1 9 r) tl) → Tm (d + 7) m_X12_melt 277 b σ [(3, .int (iI k)), (2, .int (iI tl)), (0, .ref b), (1, .int (iI r))] [] post) : ∀ (n : Nat) (tl : Int) (k : Int) (σ : MS) , (Fr [62] [3, 4, 5, 6, 7, 8, 9, 14, 15, 16, 17, 18, 46, 59] [] σ0 σ) → (RG σ) → (0 ≤ k ∧ k ≤ σ.2.1 9 r) → (GDA σ) → (LAB σ) → (BO 59 σ) → (∀ j, j ≠ r → σ.2.1 9 j = σ0.2.1 9 j) → (XR r σ0 σ) → (MEX σ0 σ r k tl) → (σ.2.1 9 r - k).toNat = n → Tm (d + 7) m_X12_melt 4 b σ [(3, .int (iI k)), (2, .int (iI tl)), (0, .ref b), (1, .int (iI r))] [] post := by
  intro n
  induction n using Nat.strongRecOn with
  | _ n ih =>
    intro tl k σ hF hR h0 hgd hl hbl hx9 hxr hmx hm
    have e10 : σ.1 10 = σ0.1 10 := hF.1 10 (by decide)
    have hr6 := hgd.1
    have gr := hgd.2 r (by omega) (by omega)
    have gr9 := gr.1
    have gof := gr.2.1.1
    have hpar1 := hpar.fr hF (by decide)
    have hnam1 := hnam.fr hF (by decide)
    have hit1 : ITM σ := fun j a c => by
          by_cases q : j = r
          · rw [q]; omega
          · rw [hx9 j q]; exact hit j a c
    refine tm_iload_n dX12_melt_4 rfl 0 rfl ?_
    refine tm_aload_n dX12_melt_5 rfl 2 rfl ?_
    refine tm_get (k := 9) (v := .ref (b + 1 + 7)) lay_12 dX12_melt_6 (by decide) fl12_32 rfl ?_
    refine tm_iload_n dX12_melt_9 rfl 3 rfl ?_
    refine tm_iald (z := r) (v := σ.2.1 9 r) dX12_melt_10 (show mT[7]? = some (9, 0, 13) from rfl) (by omega) (by omega) (by decide) (rfl) ?_
    have g1 := RG.a hR 9 (r)
    refine tm_icmp_ge (tgt := 277) dX12_melt_11 (by decide) ⟨by omega, by omega⟩ ⟨by omega, by omega⟩ (fun h2 => ?_) (fun h2 => ?_)
    · exact tm_sub [0, 1, 2, 3] rfl (hx_277 (tl) (k) σ (Fr.rfl.trans (Fr.sub hF (by decide) (by decide) (by decide))) hR hgd hl hbl hx9 hxr (by have e9 := hmx; rw [show k = σ.2.1 9 r by omega] at e9; exact e9))
    · refine tm_aload_n dX12_melt_14 rfl 2 rfl ?_
      refine tm_iload_n dX12_melt_15 rfl 3 rfl ?_
      refine tm_iload_n dX12_melt_16 rfl 0 rfl ?_
      refine tm_callV (M := m_X12_melt) (pc := 17) (ix := 203) (M' := m_X12_at) (As := [.int (iI r), .int (iI k)]) (rest := []) dX12_melt_17 ok_X12_at im_X12_at se_X12_at ml12_203 np_X12_at rfl rfl (Nat.le_of_ble_eq_true rfl) (Nat.le_of_ble_eq_true rfl) rfl (c_X12_at (d + 5) (σ := σ) (x := r) (k := k) ) (fun r3 σ4 hp => ?_)
      obtain ⟨v5, rfl, rfl, f6⟩ := hp
      subst f6
      show Tm _ _ 20 b σ [(3, .int (iI k)), (2, .int (iI tl)), (0, .ref b), (1, .int (iI r))] [.int (iI (220 * r + k))] _
      refine tm_istore (L' := [(4, .int (iI (220 * r + k))), (3, .int (iI k)), (2, .int (iI tl)), (0, .ref b), (1, .int (iI r))]) dX12_melt_20 (by decide) rfl ?_
      refine tm_aload_n dX12_melt_22 rfl 3 rfl ?_
      refine tm_get (k := 5) (v := .ref (b + 1 + 3)) lay_12 dX12_melt_23 (by decide) fl12_20 rfl ?_
      refine tm_iload dX12_melt_26 0 rfl ?_
      refine tm_iald (z := 220 * r + k) (v := σ.2.1 5 (220 * r + k)) dX12_melt_28 (show mT[3]? = some (5, 0, 2860) from rfl) (by omega) (by omega) (by decide) (rfl) ?_
      have g7 := RG.a hR 5 (220 * r + k)
      refine tm_istore (L' := [(5, .int (iI (σ.2.1 5 (220 * r + k)))), (4, .int (iI (220 * r + k))), (3, .int (iI k)), (2, .int (iI tl)), (0, .ref b), (1, .int (iI r))]) dX12_melt_29 (by decide) rfl ?_
      refine tm_aload_n dX12_melt_31 rfl 4 rfl ?_
      refine tm_get (k := 3) (v := .ref (b + 1 + 1)) lay_12 dX12_melt_32 (by decide) fl12_13 rfl ?_
      refine tm_iload dX12_melt_35 1 rfl ?_
      refine tm_iald (z := 220 * r + k) (v := σ.2.1 3 (220 * r + k)) dX12_melt_37 (show mT[1]? = some (3, 0, 2860) from rfl) (by omega) (by omega) (by decide) (rfl) ?_
      have g8 := RG.a hR 3 (220 * r + k)
      refine tm_bipush dX12_melt_38 (by decide) ?_
      refine tm_icmp_ne (tgt := 69) dX12_melt_40 (by decide) ⟨by omega, by omega⟩ ⟨by decide, by decide⟩ (fun h10 => ?_) (fun h10 => ?_)
      · refine tm_iinc (q0 := 2) (L' := [(3, .int (iI (k + 1))), (5, .int (iI (σ.2.1 5 (220 * r + k)))), (4, .int (iI (220 * r + k))), (2, .int (iI tl)), (0, .ref b), (1, .int (iI r))]) dX12_melt_69 rfl (by decide) rfl ?_
        refine tm_goto (tgt := 4) dX12_melt_72 (by decide) ?_
        exact tm_sub [0, 3, 4, 5] rfl (ih _ (by first | omega | (rw [e9]; omega)) (tl) (k + 1) σ (Fr.rfl.trans (Fr.sub hF (by decide) (by decide) (by decide))) hR (by omega) hgd hl hbl hx9 hxr (hmx.no (by omega) (by first | exact nd_k (by omega) (by omega) | exact nd_q (by omega) (by omega) | exact hmx.nd (by omega) rfl (by omega) (by omega) (hF.2.1 11 (by decide)) (hF.2.1 12 (by decide)) (nc_h (hnx (by omega))) | exact hmx.nd (by omega) rfl (by omega) (by omega) (hF.2.1 11 (by decide)) (hF.2.1 12 (by decide)) (nc_a (by omega)))) rfl)
      · refine tm_iload dX12_melt_43 0 rfl ?_
        refine tm_iload_n dX12_melt_45 rfl 5 rfl ?_
        refine tm_icmp_eq (tgt := 69) dX12_melt_46 (by decide) ⟨by omega, by omega⟩ ⟨by omega, by omega⟩ (fun h11 => ?_) (fun h11 => ?_)
        · refine tm_iinc (q0 := 2) (L' := [(3, .int (iI (k + 1))), (5, .int (iI (σ.2.1 5 (220 * r + k)))), (4, .int (iI (220 * r + k))), (2, .int (iI tl)), (0, .ref b), (1, .int (iI r))]) dX12_melt_69 rfl (by decide) rfl ?_
          refine tm_goto (tgt := 4) dX12_melt_72 (by decide) ?_
          exact tm_sub [0, 3, 4, 5] rfl (ih _ (by first | omega | (rw [e9]; omega)) (tl) (k + 1) σ (Fr.rfl.trans (Fr.sub hF (by decide) (by decide) (by decide))) hR (by omega) hgd hl hbl hx9 hxr (hmx.no (by omega) (by first | exact nd_k (by omega) (by omega) | exact nd_q (by omega) (by omega) | exact hmx.nd (by omega) rfl (by omega) (by omega) (hF.2.1 11 (by decide)) (hF.2.1 12 (by decide)) (nc_h (hnx (by omega))) | exact hmx.nd (by omega) rfl (by omega) (by omega) (hF.2.1 11 (by decide)) (hF.2.1 12 (by decide)) (nc_a (by omega)))) rfl)
        · have hcl := gr.call (k := k) (by omega) (by omega)
          have gq := hgd.2 _ hcl.1 hcl.2
          have b9q0 := gq.1
          refine tm_aload_n dX12_melt_49 rfl 4 rfl ?_
          refine tm_iload dX12_melt_50 0 rfl ?_
          refine tm_callV (M := m_X12_melt) (pc := 52) (ix := 500) (M' := m_X12_hasCall) (As := [.int (iI (σ.2.1 5 (220 * r + k)))]) (rest := []) dX12_melt_52 ok_X12_hasCall im_X12_hasCall se_X12_hasCall ml12_500 np_X12_hasCall rfl rfl (Nat.le_of_ble_eq_true rfl) (Nat.le_of_ble_eq_true rfl) rfl (f_X12_hasCall (d + 3) (σ := σ) (r := σ.2.1 5 (220 * r + k)) (by omega) hR hit1) (fun r12 σ13 hp => ?_)
          obtain ⟨v14, rfl, rfl, f15, f16, f17⟩ := hp
          show Tm _ _ 55 b σ [(5, .int (iI (σ.2.1 5 (220 * r + k)))), (4, .int (iI (220 * r + k))), (3, .int (iI k)), (2, .int (iI tl)), (0, .ref b), (1, .int (iI r))] [.int (iI v14)] _
          have hnc := f16
          have hnx := f17
          refine tm_if_ne (tgt := 69) dX12_melt_55 (by decide) ⟨by omega, by omega⟩ (fun h18 => ?_) (fun h18 => ?_)
          · refine tm_iinc (q0 := 2) (L' := [(3, .int (iI (k + 1))), (5, .int (iI (σ.2.1 5 (220 * r + k)))), (4, .int (iI (220 * r + k))), (2, .int (iI tl)), (0, .ref b), (1, .int (iI r))]) dX12_melt_69 rfl (by decide) rfl ?_
            refine tm_goto (tgt := 4) dX12_melt_72 (by decide) ?_
            exact tm_sub [0, 3, 4, 5] rfl (ih _ (by first | omega | (rw [e9]; omega)) (tl) (k + 1) σ (Fr.rfl.trans (Fr.sub hF (by decide) (by decide) (by decide))) hR (by omega) hgd hl hbl hx9 hxr (hmx.no (by omega) (by first | exact nd_k (by omega) (by omega) | exact nd_q (by omega) (by omega) | exact hmx.nd (by omega) rfl (by omega) (by omega) (hF.2.1 11 (by decide)) (hF.2.1 12 (by decide)) (nc_h (hnx (by omega))) | exact hmx.nd (by omega) rfl (by omega) (by omega) (hF.2.1 11 (by decide)) (hF.2.1 12 (by decide)) (nc_a (by omega)))) rfl)
          · refine tm_aload_n dX12_melt_58 rfl 4 rfl ?_
            refine tm_iload dX12_melt_59 0 rfl ?_
            refine tm_callV (M := m_X12_melt) (pc := 61) (ix := 407) (M' := m_X12_acts) (As := [.int (iI (σ.2.1 5 (220 * r + k)))]) (rest := []) dX12_melt_61 ok_X12_acts im_X12_acts se_X12_acts ml12_407 np_X12_acts rfl rfl (Nat.le_of_ble_eq_true rfl) (Nat.le_of_ble_eq_true rfl) rfl (f_X12_acts (d + 3) (σ := σ) (r := σ.2.1 5 (220 * r + k)) (by omega) hR hit1) (fun r19 σ20 hp => ?_)
            obtain ⟨v21, rfl, rfl, f22, f23⟩ := hp
            show Tm _ _ 64 b σ [(5, .int (iI (σ.2.1 5 (220 * r + k)))), (4, .int (iI (220 * r + k))), (3, .int (iI k)), (2, .int (iI tl)), (0, .ref b), (1, .int (iI r))] [.int (iI v21)] _
            refine tm_bipush dX12_melt_64 (by decide) ?_
            refine tm_icmp_le (tgt := 75) dX12_melt_66 (by decide) ⟨by omega, by omega⟩ ⟨by decide, by decide⟩ (fun h24 => ?_) (fun h24 => ?_)
            · refine tm_aload_n dX12_melt_75 rfl 4 rfl ?_
              refine tm_iload dX12_melt_76 0 rfl ?_
              refine tm_callV (M := m_X12_melt) (pc := 78) (ix := 475) (M' := m_X12_findLives) (As := [.int (iI (σ.2.1 5 (220 * r + k)))]) (rest := []) dX12_melt_78 ok_X12_findLives im_X12_findLives se_X12_findLives ml12_475 np_X12_findLives rfl rfl (Nat.le_of_ble_eq_true rfl) (Nat.le_of_ble_eq_true rfl) rfl (f_X12_findLives (d + 1) (σ := σ) (r := σ.2.1 5 (220 * r + k)) (F := (σ.2.1 14 (σ.2.1 5 (220 * r + k)))) (by omega) hR hit1 hpar1 gq.2.2.1 hl hbl gq.2.2.2.2.1 (by have e9u := hmx.2 _ hcl.1 (by omega) (by omega); have hu9 := hun _ hcl.1 (by omega); rw [show σ0.2.1 9 (σ.2.1 5 (220 * r + k)) = σ.2.1 9 (σ.2.1 5 (220 * r + k)) from (congrArg RTS.n e9u).symm, show rV σ0 (σ.2.1 5 (220 * r + k)) = rV σ (σ.2.1 5 (220 * r + k)) from (congrArg RTS.V e9u).symm] at hu9; exact hu9)) (fun r25 σ26 hp => ?_)
              obtain ⟨rfl, f28, f29, f30, f31, f32, f33, f34, f35⟩ := hp
              show Tm _ _ 81 b σ26 [(5, .int (iI (σ.2.1 5 (220 * r + k)))), (4, .int (iI (220 * r + k))), (3, .int (iI k)), (2, .int (iI tl)), (0, .ref b), (1, .int (iI r))] [] _
              have f1 := f28
              have hl1 := f30
              have hbl1 := f31
              have hlv1 := f33
              have hgd1 := hgd.fr f1 (by decide) (by decide)
              have gr1 := gr.fr f1 (by decide) (by decide)
              have gq1 := gq.fr f1 (by decide) (by decide)
              have hit2 := hit1.fr f1 (by decide)
              have hpar2 := hpar1.fr f1 (by decide)
              have hnam2 := hnam1.fr f1 (by decide)
              have e9 : σ26.2.1 9 = σ.2.1 9 := f1.2.1 9 (by decide)
              have mpa := hpar2 (σ.2.1 5 (220 * r + k)) (by omega) (by omega)
              have mna := hnam2 (σ.2.1 5 (220 * r + k)) (by omega) (by omega)
              have b9q := gq1.1
              have b9r := gr1.1
              have b14q := gq1.2.1.1
              have b14r := gr1.2.1.1
              have hl0 := cnt_up (lcf_0 σ26 (σ.2.1 5 (220 * r + k))) (show 0 ≤ 192 by decide)
              have hr0 := cnt_up (rcf_0 σ26 (σ.2.1 5 (220 * r + k))) (show 0 ≤ (σ26.2.1 9 (σ.2.1 5 (220 * r + k))).toNat by omega)
              have hz1 : cnt (lcf σ26 (σ.2.1 5 (220 * r + k))) 0 = 0 := rfl
              have hz2 : cnt (rcf σ26 (σ.2.1 5 (220 * r + k))) 0 = 0 := rfl
              have hl9 := cnt_le (lcf_1 σ26 (σ.2.1 5 (220 * r + k))) 192
              have hr9 := cnt_le (rcf_1 σ26 (σ.2.1 5 (220 * r + k))) (σ26.2.1 9 (σ.2.1 5 (220 * r + k))).toNat
              have mpa0 := hpar (σ.2.1 5 (220 * r + k)) (by omega) (by omega)
              have mna0 := hnam (σ.2.1 5 (220 * r + k)) (by omega) (by omega)
              have e11q : σ26.2.1 11 (σ.2.1 5 (220 * r + k)) = σ0.2.1 11 (σ.2.1 5 (220 * r + k)) := by rw [f1.2.1 11 (by decide), hF.2.1 11 (by decide)]
              have e12q : σ26.2.1 12 (σ.2.1 5 (220 * r + k)) = σ0.2.1 12 (σ.2.1 5 (220 * r + k)) := by rw [f1.2.1 12 (by decide), hF.2.1 12 (by decide)]
              have e9r : σ26.2.1 9 r = σ.2.1 9 r := by rw [e9]
              have e9q : σ26.2.1 9 (σ.2.1 5 (220 * r + k)) = σ.2.1 9 (σ.2.1 5 (220 * r + k)) := by rw [e9]
              have e14r : σ26.2.1 14 r = σ.2.1 14 r := by rw [f1.2.1 14 (by decide)]
              have e14q : σ26.2.1 14 (σ.2.1 5 (220 * r + k)) = σ.2.1 14 (σ.2.1 5 (220 * r + k)) := by rw [f1.2.1 14 (by decide)]
              have hld1 := f35
              have hmx1 := hmx.fr f1 (by decide)
              have hld2 : LDV σ26 (rV σ26 (σ.2.1 5 (220 * r + k))) (σ26.2.1 9 (σ.2.1 5 (220 * r + k))) := by rw [rv_fr f1 (by decide), e9]; exact hld1
              have e11s : σ26.2.1 11 = σ0.2.1 11 := by rw [f1.2.1 11 (by decide), hF.2.1 11 (by decide)]
              have e12s : σ26.2.1 12 = σ0.2.1 12 := by rw [f1.2.1 12 (by decide), hF.2.1 12 (by decide)]
              have gw := gw_rs (σ := σ26) (q := σ.2.1 5 (220 * r + k)) gq1.2.2.2.1 gq1.2.1.1.1 gq1.2.2.2.2.2.2.2.2 (by omega) (by omega) hld2
              have e5c : σ26.2.1 5 (220 * r + k) = σ.2.1 5 (220 * r + k) := by rw [f1.2.1 5 (by decide)]
              have e3c : σ26.2.1 3 (220 * r + k) = σ.2.1 3 (220 * r + k) := by rw [f1.2.1 3 (by decide)]
              refine tm_aload_n dX12_melt_81 rfl 4 rfl ?_
              refine tm_get (k := 9) (v := .ref (b + 1 + 7)) lay_12 dX12_melt_82 (by decide) fl12_32 rfl ?_
              refine tm_iload_n dX12_melt_85 rfl 5 rfl ?_
              refine tm_iald (z := r) (v := σ.2.1 9 r) dX12_melt_86 (show mT[7]? = some (9, 0, 13) from rfl) (by omega) (by omega) (by decide) (ra_F f28 (by decide) (rfl)) ?_
              have g36 := RG.a hR 9 (r)
              refine tm_iconst dX12_melt_87 ?_
              refine tm_iadd dX12_melt_88 ?_
              refine tm_aload_n dX12_melt_89 rfl 4 rfl ?_
              refine tm_get (k := 11) (v := .ref (b + 1 + 8)) lay_12 dX12_melt_90 (by decide) fl12_35 rfl ?_
              refine tm_iload dX12_melt_93 0 rfl ?_
              refine tm_iald (z := σ.2.1 5 (220 * r + k)) (v := σ0.2.1 11 (σ.2.1 5 (220 * r + k))) dX12_melt_95 (show mT[8]? = some (11, 0, 6) from rfl) (by omega) (by omega) (by decide) (ra_F f28 (by decide) (ra_F hF (by decide) (rfl))) ?_
              have g37 := RG.a hR0 11 (σ.2.1 5 (220 * r + k))
              refine tm_iadd dX12_melt_96 ?_
              refine tm_aload_n dX12_melt_97 rfl 4 rfl ?_
              refine tm_get (k := 12) (v := .ref (b + 1 + 9)) lay_12 dX12_melt_98 (by decide) fl12_38 rfl ?_
              refine tm_iload dX12_melt_101 0 rfl ?_
              refine tm_iald (z := σ.2.1 5 (220 * r + k)) (v := σ0.2.1 12 (σ.2.1 5 (220 * r + k))) dX12_melt_103 (show mT[9]? = some (12, 0, 6) from rfl) (by omega) (by omega) (by decide) (ra_F f28 (by decide) (ra_F hF (by decide) (rfl))) ?_
              have g38 := RG.a hR0 12 (σ.2.1 5 (220 * r + k))
              refine tm_iadd dX12_melt_104 ?_
              refine tm_aload_n dX12_melt_105 rfl 4 rfl ?_
              refine tm_get (k := 9) (v := .ref (b + 1 + 7)) lay_12 dX12_melt_106 (by decide) fl12_32 rfl ?_
              refine tm_iload dX12_melt_109 0 rfl ?_
              refine tm_iald (z := σ.2.1 5 (220 * r + k)) (v := σ.2.1 9 (σ.2.1 5 (220 * r + k))) dX12_melt_111 (show mT[7]? = some (9, 0, 13) from rfl) (by omega) (by omega) (by decide) (ra_F f28 (by decide) (rfl)) ?_
              have g39 := RG.a hR 9 (σ.2.1 5 (220 * r + k))
              refine tm_iadd dX12_melt_112 ?_
              refine tm_istore (L' := [(6, .int (iI (((((σ.2.1 9 r) + 2) + (σ0.2.1 11 (σ.2.1 5 (220 * r + k)))) + (σ0.2.1 12 (σ.2.1 5 (220 * r + k)))) + (σ.2.1 9 (σ.2.1 5 (220 * r + k)))))), (5, .int (iI (σ.2.1 5 (220 * r + k)))), (4, .int (iI (220 * r + k))), (3, .int (iI k)), (2, .int (iI tl)), (0, .ref b), (1, .int (iI r))]) dX12_melt_113 (by decide) rfl ?_
              refine tm_iconst dX12_melt_115 ?_
              refine tm_istore (L' := [(7, .int (iI 0)), (6, .int (iI (((((σ.2.1 9 r) + 2) + (σ0.2.1 11 (σ.2.1 5 (220 * r + k)))) + (σ0.2.1 12 (σ.2.1 5 (220 * r + k)))) + (σ.2.1 9 (σ.2.1 5 (220 * r + k)))))), (5, .int (iI (σ.2.1 5 (220 * r + k)))), (4, .int (iI (220 * r + k))), (3, .int (iI k)), (2, .int (iI tl)), (0, .ref b), (1, .int (iI r))]) dX12_melt_116 (by decide) rfl ?_
              refine tm_sub [0, 1, 2, 3, 4, 5, 6, 7] rfl (l_me2 (d + 5) (σ := σ26) (r := r) (k := k) (q := σ.2.1 5 (220 * r + k)) (tl := tl) (W0 := ((((σ.2.1 9 r) + 2) + (σ0.2.1 11 (σ.2.1 5 (220 * r + k)))) + (σ0.2.1 12 (σ.2.1 5 (220 * r + k)))) + (σ.2.1 9 (σ.2.1 5 (220 * r + k)))) (by omega) f29 hpar2 hbl1 (fun w45 g46 f44 => ?_) _ (((((σ.2.1 9 r) + 2) + (σ0.2.1 11 (σ.2.1 5 (220 * r + k)))) + (σ0.2.1 12 (σ.2.1 5 (220 * r + k)))) + (σ.2.1 9 (σ.2.1 5 (220 * r + k)))) (0) (by omega) (by rw [show (0 : Int).toNat = 0 from rfl, hz1]; omega) rfl)
              show Tm _ _ 163 b σ26 [(6, .int (iI w45)), (5, .int (iI (σ.2.1 5 (220 * r + k)))), (4, .int (iI (220 * r + k))), (3, .int (iI k)), (2, .int (iI tl)), (0, .ref b), (1, .int (iI r))] [] _
              have hw2 := f44
              refine tm_iconst dX12_melt_163 ?_
              refine tm_istore (L' := [(7, .int (iI 0)), (6, .int (iI w45)), (5, .int (iI (σ.2.1 5 (220 * r + k)))), (4, .int (iI (220 * r + k))), (3, .int (iI k)), (2, .int (iI tl)), (0, .ref b), (1, .int (iI r))]) dX12_melt_164 (by decide) rfl ?_
              refine tm_sub [0, 1, 2, 3, 4, 5, 6, 7] rfl (l_me3 (d + 5) (σ := σ26) (r := r) (k := k) (q := σ.2.1 5 (220 * r + k)) (tl := tl) (W0 := w45) (by omega) f29 (by omega) (fun w52 i53 f51 => ?_) _ (w45) (0) (by omega) (by rw [show (0 : Int).toNat = 0 from rfl, hz2]; omega) rfl)
              show Tm _ _ 212 b σ26 [(6, .int (iI w52)), (5, .int (iI (σ.2.1 5 (220 * r + k)))), (4, .int (iI (220 * r + k))), (3, .int (iI k)), (2, .int (iI tl)), (0, .ref b), (1, .int (iI r))] [] _
              have hw3 := f51
              refine tm_iload dX12_melt_212 0 rfl ?_
              refine tm_sipush dX12_melt_214 (by decide) ?_
              refine tm_icmp_gt (tgt := 256) dX12_melt_217 (by decide) ⟨by omega, by omega⟩ ⟨by decide, by decide⟩ (fun h54 => ?_) (fun h54 => ?_)
              · refine tm_iinc (q0 := 3) (L' := [(3, .int (iI (k + 1))), (6, .int (iI w52)), (5, .int (iI (σ.2.1 5 (220 * r + k)))), (4, .int (iI (220 * r + k))), (2, .int (iI tl)), (0, .ref b), (1, .int (iI r))]) dX12_melt_256 rfl (by decide) rfl ?_
                refine tm_goto (tgt := 4) dX12_melt_259 (by decide) ?_
                exact tm_sub [0, 4, 5, 6] rfl (ih _ (by first | omega | (rw [e9]; omega)) (tl) (k + 1) σ26 ((Fr.rfl.trans (Fr.sub hF (by decide) (by decide) (by decide))).trans (Fr.sub f28 (by decide) (by decide) (by decide))) f29 (by rw [e9]; omega) hgd1 hl1 hbl1 (fun j hj => by rw [e9]; exact hx9 j hj) (hxr.trans (XO.xr (XO.fr f1 (by decide)))) (hmx1.no (by omega) (by first | exact hmx1.nd (by omega) e5c (by omega) (by omega) e11s e12s (fun z => by have z1 := z.2.2.1; rw [gw.1, gw.2] at z1; have z2 : σ26.2.1 9 r + 2 + σ26.2.1 11 (σ.2.1 5 (220 * r + k)) + σ26.2.1 12 (σ.2.1 5 (220 * r + k)) + σ26.2.1 9 (σ.2.1 5 (220 * r + k)) + cnt (lcf σ26 (σ.2.1 5 (220 * r + k))) 192 + cnt (rcf σ26 (σ.2.1 5 (220 * r + k))) (σ26.2.1 9 (σ.2.1 5 (220 * r + k))).toNat ≤ 200 := z1; omega) | exact hmx1.nd (by omega) e5c (by omega) (by omega) e11s e12s (fun z => by obtain ⟨a9, b9, ha9, hb9, hs9⟩ := z.2.2.2.1; have d1 := ha9.det hva; have d2 := hb9.det hvb; omega) | exact hmx1.nd (by omega) e5c (by omega) (by omega) e11s e12s (fun z => by have z1 := z.2.2.2.2; have z2 : σ26.2.1 14 r + σ26.2.1 14 (σ.2.1 5 (220 * r + k)) ≤ 12 := z1; omega))) rfl)
              · refine tm_aload_n dX12_melt_220 rfl 5 rfl ?_
                refine tm_iload_n dX12_melt_221 rfl 6 rfl ?_
                refine tm_callV (M := m_X12_melt) (pc := 222) (ix := 410) (M' := m_X12_registers) (As := [.int (iI r)]) (rest := []) dX12_melt_222 ok_X12_registers im_X12_registers se_X12_registers ml12_410 np_X12_registers rfl rfl (Nat.le_of_ble_eq_true rfl) (Nat.le_of_ble_eq_true rfl) rfl (f_X12_registers (d + 2) (σ := σ26) (r := r) (by omega) f29 gr1.2.1 hnam2 hit2 hpar2 gr1.2.2.1) (fun r55 σ56 hp => ?_)
                obtain ⟨v57, rfl, rfl, f58, f59, f60, f61⟩ := hp
                show Tm _ _ 225 b σ26 [(6, .int (iI w52)), (5, .int (iI (σ.2.1 5 (220 * r + k)))), (4, .int (iI (220 * r + k))), (3, .int (iI k)), (2, .int (iI tl)), (0, .ref b), (1, .int (iI r))] [.int (iI v57)] _
                have hRN1 := f59
                have hRI1 := f60
                have hma : mxV (RGB σ26 r) v57 := ⟨by omega, ⟨f59, f60⟩, f61⟩
                have hva := mx_rs hma gr1.2.2.1 hpar2
                refine tm_aload_n dX12_melt_225 rfl 5 rfl ?_
                refine tm_iload dX12_melt_226 1 rfl ?_
                refine tm_callV (M := m_X12_melt) (pc := 228) (ix := 410) (M' := m_X12_registers) (As := [.int (iI (σ.2.1 5 (220 * r + k)))]) (rest := [.int (iI v57)]) dX12_melt_228 ok_X12_registers im_X12_registers se_X12_registers ml12_410 np_X12_registers rfl rfl (Nat.le_of_ble_eq_true rfl) (Nat.le_of_ble_eq_true rfl) rfl (f_X12_registers (d + 2) (σ := σ26) (r := σ.2.1 5 (220 * r + k)) (by omega) f29 gq1.2.1 hnam2 hit2 hpar2 gq1.2.2.1) (fun r62 σ63 hp => ?_)
                obtain ⟨v64, rfl, rfl, f65, f66, f67, f68⟩ := hp
                show Tm _ _ 231 b σ26 [(6, .int (iI w52)), (5, .int (iI (σ.2.1 5 (220 * r + k)))), (4, .int (iI (220 * r + k))), (3, .int (iI k)), (2, .int (iI tl)), (0, .ref b), (1, .int (iI r))] [.int (iI v64), .int (iI v57)] _
                have hmb : mxV (RGB σ26 (σ.2.1 5 (220 * r + k))) v64 := ⟨by omega, ⟨f66, f67⟩, f68⟩
                have hvb := mx_rs hmb gq1.2.2.1 hpar2
                have hrn1 := f66
                have hri1 := f67
                have hri0 : RGI σ (σ.2.1 5 (220 * r + k)) v64 (σ.2.1 9 (σ.2.1 5 (220 * r + k))) := by have h := RGI_fr f1 f67; rw [e9] at h; exact h
                have hnc1 := hnc (by omega)
                rw [← f1.2.1 3 (by decide), ← f1.2.1 9 (by decide)] at hnc1
                refine tm_iadd dX12_melt_231 ?_
                refine tm_bipush dX12_melt_232 (by decide) ?_
                refine tm_icmp_gt (tgt := 256) dX12_melt_234 (by decide) ⟨by omega, by omega⟩ ⟨by decide, by decide⟩ (fun h69 => ?_) (fun h69 => ?_)
                · refine tm_iinc (q0 := 3) (L' := [(3, .int (iI (k + 1))), (6, .int (iI w52)), (5, .int (iI (σ.2.1 5 (220 * r + k)))), (4, .int (iI (220 * r + k))), (2, .int (iI tl)), (0, .ref b), (1, .int (iI r))]) dX12_melt_256 rfl (by decide) rfl ?_
                  refine tm_goto (tgt := 4) dX12_melt_259 (by decide) ?_
                  exact tm_sub [0, 4, 5, 6] rfl (ih _ (by first | omega | (rw [e9]; omega)) (tl) (k + 1) σ26 ((Fr.rfl.trans (Fr.sub hF (by decide) (by decide) (by decide))).trans (Fr.sub f28 (by decide) (by decide) (by decide))) f29 (by rw [e9]; omega) hgd1 hl1 hbl1 (fun j hj => by rw [e9]; exact hx9 j hj) (hxr.trans (XO.xr (XO.fr f1 (by decide)))) (hmx1.no (by omega) (by first | exact hmx1.nd (by omega) e5c (by omega) (by omega) e11s e12s (fun z => by have z1 := z.2.2.1; rw [gw.1, gw.2] at z1; have z2 : σ26.2.1 9 r + 2 + σ26.2.1 11 (σ.2.1 5 (220 * r + k)) + σ26.2.1 12 (σ.2.1 5 (220 * r + k)) + σ26.2.1 9 (σ.2.1 5 (220 * r + k)) + cnt (lcf σ26 (σ.2.1 5 (220 * r + k))) 192 + cnt (rcf σ26 (σ.2.1 5 (220 * r + k))) (σ26.2.1 9 (σ.2.1 5 (220 * r + k))).toNat ≤ 200 := z1; omega) | exact hmx1.nd (by omega) e5c (by omega) (by omega) e11s e12s (fun z => by obtain ⟨a9, b9, ha9, hb9, hs9⟩ := z.2.2.2.1; have d1 := ha9.det hva; have d2 := hb9.det hvb; omega) | exact hmx1.nd (by omega) e5c (by omega) (by omega) e11s e12s (fun z => by have z1 := z.2.2.2.2; have z2 : σ26.2.1 14 r + σ26.2.1 14 (σ.2.1 5 (220 * r + k)) ≤ 12 := z1; omega))) rfl)
                · refine tm_aload_n dX12_melt_237 rfl 5 rfl ?_
                  refine tm_get (k := 14) (v := .ref (b + 1 + 11)) lay_12 dX12_melt_238 (by decide) fl12_44 rfl ?_
                  refine tm_iload_n dX12_melt_241 rfl 6 rfl ?_
                  refine tm_iald (z := r) (v := σ.2.1 14 r) dX12_melt_242 (show mT[11]? = some (14, 0, 6) from rfl) (by omega) (by omega) (by decide) (ra_F f28 (by decide) (rfl)) ?_
                  have g70 := RG.a hR 14 (r)
                  refine tm_aload_n dX12_melt_243 rfl 5 rfl ?_
                  refine tm_get (k := 14) (v := .ref (b + 1 + 11)) lay_12 dX12_melt_244 (by decide) fl12_44 rfl ?_
                  refine tm_iload dX12_melt_247 1 rfl ?_
                  refine tm_iald (z := σ.2.1 5 (220 * r + k)) (v := σ.2.1 14 (σ.2.1 5 (220 * r + k))) dX12_melt_249 (show mT[11]? = some (14, 0, 6) from rfl) (by omega) (by omega) (by decide) (ra_F f28 (by decide) (rfl)) ?_
                  have g71 := RG.a hR 14 (σ.2.1 5 (220 * r + k))
                  refine tm_iadd dX12_melt_250 ?_
                  refine tm_bipush dX12_melt_251 (by decide) ?_
                  refine tm_icmp_le (tgt := 262) dX12_melt_253 (by decide) ⟨by omega, by omega⟩ ⟨by decide, by decide⟩ (fun h72 => ?_) (fun h72 => ?_)
                  · refine tm_aload_n dX12_melt_262 rfl 5 rfl ?_
                    refine tm_iload_n dX12_melt_263 rfl 6 rfl ?_
                    refine tm_iload_n dX12_melt_264 rfl 3 rfl ?_
                    refine tm_iload dX12_melt_265 1 rfl ?_
                    refine tm_callV (M := m_X12_melt) (pc := 267) (ix := 506) (M' := m_X12_meltOne) (As := [.int (iI r), .int (iI k), .int (iI (σ.2.1 5 (220 * r + k)))]) (rest := []) dX12_melt_267 ok_X12_meltOne im_X12_meltOne se_X12_meltOne ml12_506 np_X12_meltOne rfl rfl (Nat.le_of_ble_eq_true rfl) (Nat.le_of_ble_eq_true rfl) rfl (f_X12_meltOne (d) (σ := σ26) (r := r) (k := k) (q := σ.2.1 5 (220 * r + k)) f29 (by omega) hit2 hpar2 hnam2 (by omega) gr1.2.2.1 gq1.2.2.1 gr1.2.1 gq1.2.1 gq1.2.2.2.1 gr1.2.2.2.2.2.1 gq1.2.2.2.2.2.1 gr1.2.2.2.2.1 gq1.2.2.2.2.1 gr1.2.2.2.2.2.2.2.1 gq1.2.2.2.2.2.2.2.1 gr1.2.2.2.2.2.2.1 gq1.2.2.2.2.2.2.1 hnc1 (by rw [f1.2.1 3 (by decide)]; omega) hRN1 hRI1 hrn1 hri1 (by omega) (by omega) hbl1 (fun g a c e => (hlv1 0 g (by omega) (by omega) a c (by rw [Int.mul_zero, Int.zero_add]; exact e)).lt hri0) (by omega)) (fun r73 σ74 hp => ?_)
                    obtain ⟨v75, rfl, f76, f77, f78, f79, f80, f81, f82, f83, f84, f85, f86, f87, f88⟩ := hp
                    show Tm _ _ 270 b σ74 [(6, .int (iI w52)), (5, .int (iI (σ.2.1 5 (220 * r + k)))), (4, .int (iI (220 * r + k))), (3, .int (iI k)), (2, .int (iI tl)), (0, .ref b), (1, .int (iI r))] [.int (iI v75)] _
                    have f2 := f76
                    have xf := f85
                    have hv := f87
                    have h10 := f86
                    have e10 : σ74.1 10 = σ26.1 10 := f2.1 10 (by decide)
                    have e11 : σ74.2.1 11 = σ26.2.1 11 := f2.2.1 11 (by decide)
                    have e12 : σ74.2.1 12 = σ26.2.1 12 := f2.2.1 12 (by decide)
                    have grn : GDR σ74 r := ⟨⟨h10.1.2, h10.2⟩, f83, f81, by unfold FR0; rw [(xf.1 (12 * r + 0) (by omega)).1]; exact gr1.2.2.2.1, f79, f78, f84, f80, by rw [e11, e12]; exact gr1.2.2.2.2.2.2.2.2⟩
                    have hgd2 : GDA σ74 := GDA.of hgd1 (r := r) ⟨by omega, by rw [f1.1 10 (by decide)]; omega⟩ hnam2 f82 (fun j hj => (xf.2.2 j hj).2) (fun j hj => (xf.2.2 j hj).1) e11 e12 e10 (fun y hy => ⟨(xf.1 y (by omega)).1, (xf.1 y (by omega)).2.1⟩) (fun z hz => xf.2.1 z (by omega)) grn
                    have hl2 := hl1.fr f2 (by decide)
                    have hbl2 := hbl1.fr f2 (by decide)
                    have hxr2 := (hxr.trans (XO.xr (XO.fr f1 (by decide)))).trans f82
                    have h92 : ∀ j, j ≠ r → σ74.2.1 9 j = σ0.2.1 9 j := fun j hj => by rw [(xf.2.2 j hj).2, e9]; exact hx9 j hj
                    have hmc : mlC (rS σ26 r) (rS σ26 (σ.2.1 5 (220 * r + k))) (σ26.2.1 11 (σ.2.1 5 (220 * r + k))) (σ26.2.1 12 (σ.2.1 5 (220 * r + k))) (σ26.2.1 12) := ⟨fun j a b => by rw [rs_V, rv_at a b]; exact hnc1 j a b, by rw [← ac_rs]; rw [show actA σ26 (σ.2.1 5 (220 * r + k)) = actA σ (σ.2.1 5 (220 * r + k)) by unfold actA; rw [f1.2.1 3 (by decide)], e9]; omega, by rw [gw.1, gw.2]; show σ26.2.1 9 r + 2 + σ26.2.1 11 (σ.2.1 5 (220 * r + k)) + σ26.2.1 12 (σ.2.1 5 (220 * r + k)) + σ26.2.1 9 (σ.2.1 5 (220 * r + k)) + _ + _ ≤ 200; omega, ⟨_, _, hva, hvb, by omega⟩, by show σ26.2.1 14 r + σ26.2.1 14 (σ.2.1 5 (220 * r + k)) ≤ 12; omega⟩
                    have hrs := ml_rs (q := σ.2.1 5 (220 * r + k)) f88 (by omega) (by rw [rv_at (by omega) (by omega)]; exact e5c) h10.1.1 e12 (by omega) gq1.2.1 gr1.2.1 hnam2 gr1.2.2.1 hpar2 gq1.2.2.2.1 gq1.2.2.2.2.2.2.2.2 (by omega) hld2 (fun a z => by rw [z.det hma]; omega)
                    have hmx2 : MEX σ0 σ74 r v75 (tl + 1) := hmx1.go (q := σ.2.1 5 (220 * r + k)) (by omega) (by omega) e5c (by omega) (by omega) e11s e12s hmc hrs (fun j a b z => rs_xr f82 xf e12 (by omega) a (by omega) z (by have := hit2 j a (by omega); omega) (hgd1.2 j a (by rw [f1.1 10 (by decide)]; omega)).2.1 hnam2)
                    refine tm_istore_n (L' := [(3, .int (iI v75)), (6, .int (iI w52)), (5, .int (iI (σ.2.1 5 (220 * r + k)))), (4, .int (iI (220 * r + k))), (2, .int (iI tl)), (0, .ref b), (1, .int (iI r))]) dX12_melt_270 rfl (by decide) rfl ?_
                    refine tm_iinc (q0 := 4) (L' := [(2, .int (iI (tl + 1))), (3, .int (iI v75)), (6, .int (iI w52)), (5, .int (iI (σ.2.1 5 (220 * r + k)))), (4, .int (iI (220 * r + k))), (0, .ref b), (1, .int (iI r))]) dX12_melt_271 rfl (by decide) rfl ?_
                    refine tm_goto (tgt := 4) dX12_melt_274 (by decide) ?_
                    exact tm_sub [1, 0, 5, 6] rfl (ih _ (by first | omega | (rw [e9]; omega)) (tl + 1) (v75) σ74 (((Fr.rfl.trans (Fr.sub hF (by decide) (by decide) (by decide))).trans (Fr.sub f28 (by decide) (by decide) (by decide))).trans (Fr.sub f76 (by decide) (by decide) (by decide))) f77 (by omega) hgd2 hl2 hbl2 h92 hxr2 hmx2 rfl)
                  · refine tm_iinc (q0 := 3) (L' := [(3, .int (iI (k + 1))), (6, .int (iI w52)), (5, .int (iI (σ.2.1 5 (220 * r + k)))), (4, .int (iI (220 * r + k))), (2, .int (iI tl)), (0, .ref b), (1, .int (iI r))]) dX12_melt_256 rfl (by decide) rfl ?_
                    refine tm_goto (tgt := 4) dX12_melt_259 (by decide) ?_
                    exact tm_sub [0, 4, 5, 6] rfl (ih _ (by first | omega | (rw [e9]; omega)) (tl) (k + 1) σ26 ((Fr.rfl.trans (Fr.sub hF (by decide) (by decide) (by decide))).trans (Fr.sub f28 (by decide) (by decide) (by decide))) f29 (by rw [e9]; omega) hgd1 hl1 hbl1 (fun j hj => by rw [e9]; exact hx9 j hj) (hxr.trans (XO.xr (XO.fr f1 (by decide)))) (hmx1.no (by omega) (by first | exact hmx1.nd (by omega) e5c (by omega) (by omega) e11s e12s (fun z => by have z1 := z.2.2.1; rw [gw.1, gw.2] at z1; have z2 : σ26.2.1 9 r + 2 + σ26.2.1 11 (σ.2.1 5 (220 * r + k)) + σ26.2.1 12 (σ.2.1 5 (220 * r + k)) + σ26.2.1 9 (σ.2.1 5 (220 * r + k)) + cnt (lcf σ26 (σ.2.1 5 (220 * r + k))) 192 + cnt (rcf σ26 (σ.2.1 5 (220 * r + k))) (σ26.2.1 9 (σ.2.1 5 (220 * r + k))).toNat ≤ 200 := z1; omega) | exact hmx1.nd (by omega) e5c (by omega) (by omega) e11s e12s (fun z => by obtain ⟨a9, b9, ha9, hb9, hs9⟩ := z.2.2.2.1; have d1 := ha9.det hva; have d2 := hb9.det hvb; omega) | exact hmx1.nd (by omega) e5c (by omega) (by omega) e11s e12s (fun z => by have z1 := z.2.2.2.2; have z2 : σ26.2.1 14 r + σ26.2.1 14 (σ.2.1 5 (220 * r + k)) ≤ 12 := z1; omega))) rfl)
            · refine tm_iinc (q0 := 2) (L' := [(3, .int (iI (k + 1))), (5, .int (iI (σ.2.1 5 (220 * r + k)))), (4, .int (iI (220 * r + k))), (2, .int (iI tl)), (0, .ref b), (1, .int (iI r))]) dX12_melt_69 rfl (by decide) rfl ?_
              refine tm_goto (tgt := 4) dX12_melt_72 (by decide) ?_
              exact tm_sub [0, 3, 4, 5] rfl (ih _ (by first | omega | (rw [e9]; omega)) (tl) (k + 1) σ (Fr.rfl.trans (Fr.sub hF (by decide) (by decide) (by decide))) hR (by omega) hgd hl hbl hx9 hxr (hmx.no (by omega) (by first | exact nd_k (by omega) (by omega) | exact nd_q (by omega) (by omega) | exact hmx.nd (by omega) rfl (by omega) (by omega) (hF.2.1 11 (by decide)) (hF.2.1 12 (by decide)) (nc_h (hnx (by omega))) | exact hmx.nd (by omega) rfl (by omega) (by omega) (hF.2.1 11 (by decide)) (hF.2.1 12 (by decide)) (nc_a (by omega)))) rfl)
end
section
set_option maxHeartbeats 1000000 in
set_option maxRecDepth 20000 in
theorem f_X12_melt (d : Nat) {b : Nat} {σ : MS} {r : Int} (hr : 0 ≤ r ∧ r < σ.1 10) (hR : RG σ) (hit : ITM σ) (hpar : PAR σ) (hnam : NAM σ) (hgd : GDA σ) (hl : LAB σ) (hbl : BO 59 σ) (hun : ∀ q, 0 ≤ q → q < σ.1 10 → UNQ (rV σ q) (σ.2.1 9 q)) : Tm (d + 7) m_X12_melt 0 b σ [(0, .ref b), (1, .int (iI r))] [] (fun ro σ2 => ∃ v : Int, ro = some (.int (iI v)) ∧ (Fr [62] [3, 4, 5, 6, 7, 8, 9, 14, 15, 16, 17, 18, 46, 59] [] σ σ2) ∧ (RG σ2) ∧ (GDA σ2) ∧ (LAB σ2) ∧ (BO 59 σ2) ∧ (∀ j, j ≠ r → σ2.2.1 9 j = σ.2.1 9 j) ∧ (XR r σ σ2) ∧ (MEX σ σ2 r (σ2.2.1 9 r) v)) := by
  have gr := (hgd.2 r hr.1 hr.2).1
  refine tm_iconst dX12_melt_0 ?_
  refine tm_istore_n (L' := [(2, .int (iI 0)), (0, .ref b), (1, .int (iI r))]) dX12_melt_1 rfl (by decide) rfl ?_
  refine tm_iconst dX12_melt_2 ?_
  refine tm_istore_n (L' := [(3, .int (iI 0)), (2, .int (iI 0)), (0, .ref b), (1, .int (iI r))]) dX12_melt_3 rfl (by decide) rfl ?_
  refine tm_sub [0, 1, 2, 3] rfl (f_me1 (d) (σ0 := σ) (r := r) hr hR hit hpar hnam hun (fun tl12 k13 σ14 F4 R5 f6 f7 f8 f9 f10 f11 => ?_) _ (0) (0) σ Fr.rfl hR (by omega) hgd hl hbl (fun _ _ => rfl) XR.rfl MEX.start rfl)
  show Tm _ _ 277 b σ14 [(3, .int (iI k13)), (2, .int (iI tl12)), (0, .ref b), (1, .int (iI r))] [] _
  refine tm_iload_n dX12_melt_277 rfl 1 rfl ?_
  exact tm_iret rfl dX12_melt_278 (⟨_, rfl, (Fr.rfl.trans (Fr.sub F4 (by decide) (by decide) (by decide))), R5, f6, f7, f8, f9, f10, f11⟩)
end
