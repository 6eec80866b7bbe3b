theorem cst12_139 : Cond.constant RX12 139 (36864) ∈ pWW := pw7 (List.mem_of_getElem? (i := 6) rfl) rfl
theorem dX12_share_7 : decode cX12_share 7 = .ok (.iload_n 2, 1) := by decide +kernel
theorem dX12_share_8 : decode cX12_share 8 = .ok (.ldc 139, 2) := by decide +kernel
theorem dX12_share_10 : decode cX12_share 10 = .ok (.if_icmp .ge 16, 3) := by decide +kernel
theorem dX12_share_13 : decode cX12_share 13 = .ok (.aload_n 0, 1) := by decide +kernel
theorem dX12_share_14 : decode cX12_share 14 = .ok (.getfield 140, 3) := by decide +kernel
theorem dX12_share_17 : decode cX12_share 17 = .ok (.iload_n 2, 1) := by decide +kernel
theorem dX12_share_18 : decode cX12_share 18 = .ok (.iconst 0, 1) := by decide +kernel
theorem dX12_share_19 : decode cX12_share 19 = .ok (.bastore, 1) := by decide +kernel
theorem dX12_share_20 : decode cX12_share 20 = .ok (.iinc 2 1, 3) := by decide +kernel
theorem dX12_share_23 : decode cX12_share 23 = .ok (.goto (-16), 3) := by decide +kernel
set_option maxHeartbeats 4000000 in
set_option maxRecDepth 20000 in
theorem l_sh1 (d : Nat) {b : Nat} {σ0 : MS} {r : Int} {post : Option Value → MS → Prop} (hx_26 : ∀ (k : Int) (σ : MS) , (Fr [] [63] [] σ0 σ) → (RG σ) → (BO 63 σ) → Tm (d + 1) m_X12_share 26 b σ [(2, .int (iI k)), (0, .ref b), (1, .int (iI r))] [] post) : ∀ (n : Nat) (k : Int) (σ : MS) , (Fr [] [63] [] σ0 σ) → (RG σ) → (0 ≤ k ∧ k ≤ 36864) → (BO 63 σ) → (36864 - k).toNat = n → Tm (d + 1) m_X12_share 7 b σ [(2, .int (iI k)), (0, .ref b), (1, .int (iI r))] [] post := by
  intro n
  induction n using Nat.strongRecOn with
  | _ n ih =>
    intro k σ hF hR h0 hbd hm
    refine tm_iload_n dX12_share_7 rfl 0 rfl ?_
    refine tm_ldc (n := 36864) dX12_share_8 cst12_139 rfl ?_
    refine tm_icmp_ge (tgt := 26) dX12_share_10 (by decide) ⟨by omega, by omega⟩ ⟨by decide, by decide⟩ (fun h1 => ?_) (fun h1 => ?_)
    · exact tm_sub [0, 1, 2] rfl (hx_26 (k) σ (Fr.rfl.trans (Fr.sub hF (by decide) (by decide) (by decide))) hR hbd)
    · refine tm_aload_n dX12_share_13 rfl 1 rfl ?_
      refine tm_get (k := 63) (v := .ref (b + 1 + 40)) lay_12 dX12_share_14 (by decide) fl12_140 rfl ?_
      refine tm_iload_n dX12_share_17 rfl 0 rfl ?_
      refine tm_iconst dX12_share_18 ?_
      refine tm_zast (z := k) (v := 0) dX12_share_19 (show mT[40]? = some (63, 2, 36864) from rfl) (by omega) (by omega) (by decide) (by omega) ?_
      refine tm_iinc (q0 := 0) (L' := [(2, .int (iI (k + 1))), (0, .ref b), (1, .int (iI r))]) dX12_share_20 rfl (by decide) rfl ?_
      refine tm_goto (tgt := 7) dX12_share_23 (by decide) ?_
      exact tm_sub [0, 1, 2] rfl (ih _ (by omega) (k + 1) (sA 63 (k) (0) σ) ((Fr.rfl.trans (Fr.sub hF (by decide) (by decide) (by decide))).A (by decide)) (hR.A (by omega)) (by omega) (hbd.A (by omega)) rfl)
theorem ml12_524 : Cond.methodLink RX12 524 yX12_atOdds ∈ pWW := pw9 (List.mem_of_getElem? (i := 217) rfl) rfl
theorem dX12_share_37 : decode cX12_share 37 = .ok (.iload_n 3, 1) := by decide +kernel
theorem dX12_share_38 : decode cX12_share 38 = .ok (.iload_n 2, 1) := by decide +kernel
theorem dX12_share_39 : decode cX12_share 39 = .ok (.if_icmp .ge 33, 3) := by decide +kernel
theorem dX12_share_42 : decode cX12_share 42 = .ok (.aload_n 0, 1) := by decide +kernel
theorem dX12_share_43 : decode cX12_share 43 = .ok (.iload_n 1, 1) := by decide +kernel
theorem dX12_share_44 : decode cX12_share 44 = .ok (.iload_n 2, 1) := by decide +kernel
theorem dX12_share_45 : decode cX12_share 45 = .ok (.invokevirtual 521, 3) := by decide +kernel
theorem dX12_share_48 : decode cX12_share 48 = .ok (.ifCond .eq 24, 3) := by decide +kernel
theorem dX12_share_51 : decode cX12_share 51 = .ok (.aload_n 0, 1) := by decide +kernel
theorem dX12_share_52 : decode cX12_share 52 = .ok (.iload_n 1, 1) := by decide +kernel
theorem dX12_share_53 : decode cX12_share 53 = .ok (.iload_n 3, 1) := by decide +kernel
theorem dX12_share_54 : decode cX12_share 54 = .ok (.invokevirtual 521, 3) := by decide +kernel
theorem dX12_share_57 : decode cX12_share 57 = .ok (.ifCond .eq 9, 3) := by decide +kernel
theorem dX12_share_66 : decode cX12_share 66 = .ok (.iinc 3 1, 3) := by decide +kernel
theorem dX12_share_69 : decode cX12_share 69 = .ok (.goto (-32), 3) := by decide +kernel
theorem dX12_share_60 : decode cX12_share 60 = .ok (.aload_n 0, 1) := by decide +kernel
theorem dX12_share_61 : decode cX12_share 61 = .ok (.iload_n 2, 1) := by decide +kernel
theorem dX12_share_62 : decode cX12_share 62 = .ok (.iload_n 3, 1) := by decide +kernel
theorem dX12_share_63 : decode cX12_share 63 = .ok (.invokevirtual 524, 3) := by decide +kernel
set_option maxHeartbeats 4000000 in
set_option maxRecDepth 20000 in
theorem l_sh3 (d : Nat) {b : Nat} {σ0 : MS} {r : Int} {a1 : Int} {post : Option Value → MS → Prop} (hr : 0 ≤ r ∧ r < 6) (hR0 : RG σ0) (hpar : PAR σ0) (hbl : BO 59 σ0) (ha : 0 ≤ a1 ∧ a1 < 192) (hx_72 : ∀ (c1 : Int) (σ : MS) , (Fr [] [63] [] σ0 σ) → (RG σ) → (BO 63 σ) → Tm (d + 3) m_X12_share 72 b σ [(3, .int (iI c1)), (2, .int (iI a1)), (0, .ref b), (1, .int (iI r))] [] post) : ∀ (n : Nat) (c1 : Int) (σ : MS) , (Fr [] [63] [] σ0 σ) → (RG σ) → (0 ≤ c1 ∧ c1 ≤ a1) → (BO 63 σ) → (a1 - c1).toNat = n → Tm (d + 3) m_X12_share 37 b σ [(3, .int (iI c1)), (2, .int (iI a1)), (0, .ref b), (1, .int (iI r))] [] post := by
  intro n
  induction n using Nat.strongRecOn with
  | _ n ih =>
    intro c1 σ hF hR h0 hbd hm
    refine tm_iload_n dX12_share_37 rfl 0 rfl ?_
    refine tm_iload_n dX12_share_38 rfl 1 rfl ?_
    refine tm_icmp_ge (tgt := 72) dX12_share_39 (by decide) ⟨by omega, by omega⟩ ⟨by omega, by omega⟩ (fun h1 => ?_) (fun h1 => ?_)
    · exact tm_sub [0, 1, 2, 3] rfl (hx_72 (c1) σ (Fr.rfl.trans (Fr.sub hF (by decide) (by decide) (by decide))) hR hbd)
    · refine tm_aload_n dX12_share_42 rfl 2 rfl ?_
      refine tm_iload_n dX12_share_43 rfl 3 rfl ?_
      refine tm_iload_n dX12_share_44 rfl 1 rfl ?_
      refine tm_callV (M := m_X12_share) (pc := 45) (ix := 521) (M' := m_X12_isAtBegin) (As := [.int (iI r), .int (iI a1)]) (rest := []) dX12_share_45 ok_X12_isAtBegin im_X12_isAtBegin se_X12_isAtBegin ml12_521 np_X12_isAtBegin rfl rfl (Nat.le_of_ble_eq_true rfl) (Nat.le_of_ble_eq_true rfl) rfl (c_X12_isAtBegin (d) (σ := σ) (r := r) (g := a1) (by omega) hR (hpar.fr hF (by decide)) (hbl.fr hF (by decide)) (by omega)) (fun r2 σ3 hp => ?_)
      obtain ⟨v4, rfl, rfl, f5⟩ := hp
      show Tm _ _ 48 b σ [(3, .int (iI c1)), (2, .int (iI a1)), (0, .ref b), (1, .int (iI r))] [.int (iI v4)] _
      refine tm_if_eq (tgt := 72) dX12_share_48 (by decide) ⟨by omega, by omega⟩ (fun h6 => ?_) (fun h6 => ?_)
      · exact tm_sub [0, 1, 2, 3] rfl (hx_72 (c1) σ (Fr.rfl.trans (Fr.sub hF (by decide) (by decide) (by decide))) hR hbd)
      · refine tm_aload_n dX12_share_51 rfl 2 rfl ?_
        refine tm_iload_n dX12_share_52 rfl 3 rfl ?_
        refine tm_iload_n dX12_share_53 rfl 0 rfl ?_
        refine tm_callV (M := m_X12_share) (pc := 54) (ix := 521) (M' := m_X12_isAtBegin) (As := [.int (iI r), .int (iI c1)]) (rest := []) dX12_share_54 ok_X12_isAtBegin im_X12_isAtBegin se_X12_isAtBegin ml12_521 np_X12_isAtBegin rfl rfl (Nat.le_of_ble_eq_true rfl) (Nat.le_of_ble_eq_true rfl) rfl (c_X12_isAtBegin (d) (σ := σ) (r := r) (g := c1) (by omega) hR (hpar.fr hF (by decide)) (hbl.fr hF (by decide)) (by omega)) (fun r7 σ8 hp => ?_)
        obtain ⟨v9, rfl, rfl, f10⟩ := hp
        show Tm _ _ 57 b σ [(3, .int (iI c1)), (2, .int (iI a1)), (0, .ref b), (1, .int (iI r))] [.int (iI v9)] _
        refine tm_if_eq (tgt := 66) dX12_share_57 (by decide) ⟨by omega, by omega⟩ (fun h11 => ?_) (fun h11 => ?_)
        · refine tm_iinc (q0 := 0) (L' := [(3, .int (iI (c1 + 1))), (2, .int (iI a1)), (0, .ref b), (1, .int (iI r))]) dX12_share_66 rfl (by decide) rfl ?_
          refine tm_goto (tgt := 37) dX12_share_69 (by decide) ?_
          exact tm_sub [0, 1, 2, 3] rfl (ih _ (by omega) (c1 + 1) σ (Fr.rfl.trans (Fr.sub hF (by decide) (by decide) (by decide))) hR (by omega) hbd rfl)
        · refine tm_aload_n dX12_share_60 rfl 2 rfl ?_
          refine tm_iload_n dX12_share_61 rfl 1 rfl ?_
          refine tm_iload_n dX12_share_62 rfl 0 rfl ?_
          refine tm_callV (M := m_X12_share) (pc := 63) (ix := 524) (M' := m_X12_atOdds) (As := [.int (iI a1), .int (iI c1)]) (rest := []) dX12_share_63 ok_X12_atOdds im_X12_atOdds se_X12_atOdds ml12_524 np_X12_atOdds rfl rfl (Nat.le_of_ble_eq_true rfl) (Nat.le_of_ble_eq_true rfl) rfl (c_X12_atOdds (d + 1) (σ := σ) (x := a1) (y := c1) (by omega) (by omega) hR hbd) (fun r12 σ13 hp => ?_)
          obtain ⟨rfl, f15, f16, f17⟩ := hp
          show Tm _ _ 66 b σ13 [(3, .int (iI c1)), (2, .int (iI a1)), (0, .ref b), (1, .int (iI r))] [] _
          refine tm_iinc (q0 := 0) (L' := [(3, .int (iI (c1 + 1))), (2, .int (iI a1)), (0, .ref b), (1, .int (iI r))]) dX12_share_66 rfl (by decide) rfl ?_
          refine tm_goto (tgt := 37) dX12_share_69 (by decide) ?_
          exact tm_sub [0, 1, 2, 3] rfl (ih _ (by omega) (c1 + 1) σ13 ((Fr.rfl.trans (Fr.sub hF (by decide) (by decide) (by decide))).trans (Fr.sub f15 (by decide) (by decide) (by decide))) f16 (by omega) (by assumption) rfl)
theorem dX12_share_28 : decode cX12_share 28 = .ok (.iload_n 2, 1) := by decide +kernel
theorem dX12_share_29 : decode cX12_share 29 = .ok (.sipush 192, 3) := by decide +kernel
theorem dX12_share_32 : decode cX12_share 32 = .ok (.if_icmp .ge 46, 3) := by decide +kernel
theorem dX12_share_35 : decode cX12_share 35 = .ok (.iconst 0, 1) := by decide +kernel
theorem dX12_share_36 : decode cX12_share 36 = .ok (.istore_n 3, 1) := by decide +kernel
theorem dX12_share_72 : decode cX12_share 72 = .ok (.iinc 2 1, 3) := by decide +kernel
theorem dX12_share_75 : decode cX12_share 75 = .ok (.goto (-47), 3) := by decide +kernel
set_option maxHeartbeats 4000000 in
set_option maxRecDepth 20000 in
theorem l_sh2 (d : Nat) {b : Nat} {σ0 : MS} {r : Int} {post : Option Value → MS → Prop} (hr : 0 ≤ r ∧ r < 6) (hR0 : RG σ0) (hpar : PAR σ0) (hbl : BO 59 σ0) (hx_78 : ∀ (a1 : Int) (σ : MS) , (Fr [] [63] [] σ0 σ) → (RG σ) → (BO 63 σ) → Tm (d + 3) m_X12_share 78 b σ [(2, .int (iI a1)), (0, .ref b), (1, .int (iI r))] [] post) : ∀ (n : Nat) (a1 : Int) (σ : MS) , (Fr [] [63] [] σ0 σ) → (RG σ) → (0 ≤ a1 ∧ a1 ≤ 192) → (BO 63 σ) → (192 - a1).toNat = n → Tm (d + 3) m_X12_share 28 b σ [(2, .int (iI a1)), (0, .ref b), (1, .int (iI r))] [] post := by
  intro n
  induction n using Nat.strongRecOn with
  | _ n ih =>
    intro a1 σ hF hR h0 hbd hm
    refine tm_iload_n dX12_share_28 rfl 0 rfl ?_
    refine tm_sipush dX12_share_29 (by decide) ?_
    refine tm_icmp_ge (tgt := 78) dX12_share_32 (by decide) ⟨by omega, by omega⟩ ⟨by decide, by decide⟩ (fun h1 => ?_) (fun h1 => ?_)
    · exact tm_sub [0, 1, 2] rfl (hx_78 (a1) σ (Fr.rfl.trans (Fr.sub hF (by decide) (by decide) (by decide))) hR hbd)
    · refine tm_iconst dX12_share_35 ?_
      refine tm_istore_n (L' := [(3, .int (iI 0)), (2, .int (iI a1)), (0, .ref b), (1, .int (iI r))]) dX12_share_36 rfl (by decide) rfl ?_
      refine tm_sub [0, 1, 2, 3] rfl (l_sh3 (d) (σ0 := σ) (r := r) (a1 := a1) hr hR (hpar.fr hF (by decide)) (hbl.fr hF (by decide)) (by omega) (fun c17 σ8 F4 R5 f6 => ?_) _ (0) σ Fr.rfl hR (by omega) hbd rfl)
      show Tm _ _ 72 b σ8 [(3, .int (iI c17)), (2, .int (iI a1)), (0, .ref b), (1, .int (iI r))] [] _
      refine tm_iinc (q0 := 1) (L' := [(2, .int (iI (a1 + 1))), (3, .int (iI c17)), (0, .ref b), (1, .int (iI r))]) dX12_share_72 rfl (by decide) rfl ?_
      refine tm_goto (tgt := 28) dX12_share_75 (by decide) ?_
      exact tm_sub [0, 2, 3] rfl (ih _ (by omega) (a1 + 1) σ8 ((Fr.rfl.trans (Fr.sub hF (by decide) (by decide) (by decide))).trans (Fr.sub F4 (by decide) (by decide) (by decide))) R5 (by omega) (by assumption) rfl)
theorem dX12_share_100 : decode cX12_share 100 = .ok (.iload 4, 2) := by decide +kernel
theorem dX12_share_102 : decode cX12_share 102 = .ok (.sipush 192, 3) := by decide +kernel
theorem dX12_share_105 : decode cX12_share 105 = .ok (.if_icmp .ge 44, 3) := by decide +kernel
theorem dX12_share_108 : decode cX12_share 108 = .ok (.aload_n 0, 1) := by decide +kernel
theorem dX12_share_109 : decode cX12_share 109 = .ok (.getfield 13, 3) := by decide +kernel
theorem dX12_share_112 : decode cX12_share 112 = .ok (.iload_n 3, 1) := by decide +kernel
theorem dX12_share_113 : decode cX12_share 113 = .ok (.iaload, 1) := by decide +kernel
theorem dX12_share_114 : decode cX12_share 114 = .ok (.invokestatic 192, 3) := by decide +kernel
theorem dX12_share_117 : decode cX12_share 117 = .ok (.ifCond .eq 32, 3) := by decide +kernel
theorem dX12_share_120 : decode cX12_share 120 = .ok (.aload_n 0, 1) := by decide +kernel
theorem dX12_share_121 : decode cX12_share 121 = .ok (.iload_n 1, 1) := by decide +kernel
theorem dX12_share_122 : decode cX12_share 122 = .ok (.iload_n 2, 1) := by decide +kernel
theorem dX12_share_123 : decode cX12_share 123 = .ok (.iload 4, 2) := by decide +kernel
theorem dX12_share_125 : decode cX12_share 125 = .ok (.invokevirtual 433, 3) := by decide +kernel
theorem dX12_share_128 : decode cX12_share 128 = .ok (.ifCond .eq 15, 3) := by decide +kernel
theorem dX12_share_143 : decode cX12_share 143 = .ok (.iinc 4 1, 3) := by decide +kernel
theorem dX12_share_146 : decode cX12_share 146 = .ok (.goto (-46), 3) := by decide +kernel
theorem dX12_share_131 : decode cX12_share 131 = .ok (.aload_n 0, 1) := by decide +kernel
theorem dX12_share_132 : decode cX12_share 132 = .ok (.aload_n 0, 1) := by decide +kernel
theorem dX12_share_133 : decode cX12_share 133 = .ok (.getfield 17, 3) := by decide +kernel
theorem dX12_share_136 : decode cX12_share 136 = .ok (.iload_n 3, 1) := by decide +kernel
theorem dX12_share_137 : decode cX12_share 137 = .ok (.iaload, 1) := by decide +kernel
theorem dX12_share_138 : decode cX12_share 138 = .ok (.iload 4, 2) := by decide +kernel
theorem dX12_share_140 : decode cX12_share 140 = .ok (.invokevirtual 524, 3) := by decide +kernel
set_option maxHeartbeats 4000000 in
set_option maxRecDepth 20000 in
theorem l_sh5 (d : Nat) {b : Nat} {σ0 : MS} {r : Int} {F : Int} {k : Int} {post : Option Value → MS → Prop} (hr : 0 ≤ r ∧ r < 6) (hR0 : RG σ0) (hit : ITM σ0) (hok : OKS σ0 F r) (hbl : BO 59 σ0) (hl : LAB σ0) (hk : 0 ≤ k ∧ k < σ0.2.1 9 r) (hx_149 : ∀ (g : Int) (σ : MS) , (Fr [] [63] [] σ0 σ) → (RG σ) → (BO 63 σ) → Tm (d + 4) m_X12_share 149 b σ [(4, .int (iI g)), (3, .int (iI (220 * r + k))), (2, .int (iI k)), (0, .ref b), (1, .int (iI r))] [] post) : ∀ (n : Nat) (g : Int) (σ : MS) , (Fr [] [63] [] σ0 σ) → (RG σ) → (0 ≤ g ∧ g ≤ 192) → (BO 63 σ) → (192 - g).toNat = n → Tm (d + 4) m_X12_share 100 b σ [(4, .int (iI g)), (3, .int (iI (220 * r + k))), (2, .int (iI k)), (0, .ref b), (1, .int (iI r))] [] post := by
  intro n
  induction n using Nat.strongRecOn with
  | _ n ih =>
    intro g σ hF hR h0 hbd hm
    have hit1 := hit.fr hF (by decide)
    have hok1 := hok.fr hF (by decide)
    have q1 := hit r (by omega) (by omega)
    have q9 : σ.2.1 9 r = σ0.2.1 9 r := by rw [hF.2.1 9 (by decide)]
    refine tm_iload dX12_share_100 0 rfl ?_
    refine tm_sipush dX12_share_102 (by decide) ?_
    refine tm_icmp_ge (tgt := 149) dX12_share_105 (by decide) ⟨by omega, by omega⟩ ⟨by decide, by decide⟩ (fun h1 => ?_) (fun h1 => ?_)
    · exact tm_sub [0, 1, 2, 3, 4] rfl (hx_149 (g) σ (Fr.rfl.trans (Fr.sub hF (by decide) (by decide) (by decide))) hR hbd)
    · refine tm_aload_n dX12_share_108 rfl 3 rfl ?_
      refine tm_get (k := 3) (v := .ref (b + 1 + 1)) lay_12 dX12_share_109 (by decide) fl12_13 rfl ?_
      refine tm_iload_n dX12_share_112 rfl 1 rfl ?_
      refine tm_iald (z := 220 * r + k) (v := σ0.2.1 3 (220 * r + k)) dX12_share_113 (show mT[1]? = some (3, 0, 2860) from rfl) (by omega) (by omega) (by decide) (ra_F hF (by decide) (rfl)) ?_
      have g2 := RG.a hR0 3 (220 * r + k)
      refine tm_callS (M := m_X12_share) (pc := 114) (ix := 192) (M' := m_X12_writes) (As := [.int (iI (σ0.2.1 3 (220 * r + k)))]) (rest := []) dX12_share_114 ok_X12_writes stt_X12_writes ml12_192 np_X12_writes rfl (Nat.le_of_ble_eq_true rfl) (Nat.le_of_ble_eq_true rfl) rfl (c_X12_writes (d + 2) (σ := σ) (x := σ0.2.1 3 (220 * r + k)) (by omega)) (fun r3 σ4 hp => ?_)
      obtain ⟨v5, rfl, rfl, f6, f7⟩ := hp
      show Tm _ _ 117 b σ [(4, .int (iI g)), (3, .int (iI (220 * r + k))), (2, .int (iI k)), (0, .ref b), (1, .int (iI r))] [.int (iI v5)] _
      refine tm_if_eq (tgt := 149) dX12_share_117 (by decide) ⟨by omega, by omega⟩ (fun h8 => ?_) (fun h8 => ?_)
      · exact tm_sub [0, 1, 2, 3, 4] rfl (hx_149 (g) σ (Fr.rfl.trans (Fr.sub hF (by decide) (by decide) (by decide))) hR hbd)
      · have q2 := hok.dest (k := k) (by omega) (by omega) (by omega)
        refine tm_aload_n dX12_share_120 rfl 3 rfl ?_
        refine tm_iload_n dX12_share_121 rfl 4 rfl ?_
        refine tm_iload_n dX12_share_122 rfl 2 rfl ?_
        refine tm_iload dX12_share_123 0 rfl ?_
        refine tm_callV (M := m_X12_share) (pc := 125) (ix := 433) (M' := m_X12_livesBehind) (As := [.int (iI r), .int (iI k), .int (iI g)]) (rest := []) dX12_share_125 ok_X12_livesBehind im_X12_livesBehind se_X12_livesBehind ml12_433 np_X12_livesBehind rfl rfl (Nat.le_of_ble_eq_true rfl) (Nat.le_of_ble_eq_true rfl) rfl (c_X12_livesBehind (d) (σ := σ) (r := r) (k := k) (g := g) (by omega) hR hit1 hok1.jmp (hbl.fr hF (by decide)) (hl.fr hF (by decide)) (by omega) (by omega)) (fun r9 σ10 hp => ?_)
        obtain ⟨v11, rfl, rfl, f12⟩ := hp
        show Tm _ _ 128 b σ [(4, .int (iI g)), (3, .int (iI (220 * r + k))), (2, .int (iI k)), (0, .ref b), (1, .int (iI r))] [.int (iI v11)] _
        refine tm_if_eq (tgt := 143) dX12_share_128 (by decide) ⟨by omega, by omega⟩ (fun h13 => ?_) (fun h13 => ?_)
        · refine tm_iinc (q0 := 0) (L' := [(4, .int (iI (g + 1))), (3, .int (iI (220 * r + k))), (2, .int (iI k)), (0, .ref b), (1, .int (iI r))]) dX12_share_143 rfl (by decide) rfl ?_
          refine tm_goto (tgt := 100) dX12_share_146 (by decide) ?_
          exact tm_sub [0, 1, 2, 3, 4] rfl (ih _ (by omega) (g + 1) σ (Fr.rfl.trans (Fr.sub hF (by decide) (by decide) (by decide))) hR (by omega) hbd rfl)
        · refine tm_aload_n dX12_share_131 rfl 3 rfl ?_
          refine tm_aload_n dX12_share_132 rfl 3 rfl ?_
          refine tm_get (k := 4) (v := .ref (b + 1 + 2)) lay_12 dX12_share_133 (by decide) fl12_17 rfl ?_
          refine tm_iload_n dX12_share_136 rfl 1 rfl ?_
          refine tm_iald (z := 220 * r + k) (v := σ0.2.1 4 (220 * r + k)) dX12_share_137 (show mT[2]? = some (4, 0, 2860) from rfl) (by omega) (by omega) (by decide) (ra_F hF (by decide) (rfl)) ?_
          have g14 := RG.a hR0 4 (220 * r + k)
          refine tm_iload dX12_share_138 0 rfl ?_
          refine tm_callV (M := m_X12_share) (pc := 140) (ix := 524) (M' := m_X12_atOdds) (As := [.int (iI (σ0.2.1 4 (220 * r + k))), .int (iI g)]) (rest := []) dX12_share_140 ok_X12_atOdds im_X12_atOdds se_X12_atOdds ml12_524 np_X12_atOdds rfl rfl (Nat.le_of_ble_eq_true rfl) (Nat.le_of_ble_eq_true rfl) rfl (c_X12_atOdds (d + 2) (σ := σ) (x := σ0.2.1 4 (220 * r + k)) (y := g) (by omega) (by omega) hR hbd) (fun r15 σ16 hp => ?_)
          obtain ⟨rfl, f18, f19, f20⟩ := hp
          show Tm _ _ 143 b σ16 [(4, .int (iI g)), (3, .int (iI (220 * r + k))), (2, .int (iI k)), (0, .ref b), (1, .int (iI r))] [] _
          refine tm_iinc (q0 := 0) (L' := [(4, .int (iI (g + 1))), (3, .int (iI (220 * r + k))), (2, .int (iI k)), (0, .ref b), (1, .int (iI r))]) dX12_share_143 rfl (by decide) rfl ?_
          refine tm_goto (tgt := 100) dX12_share_146 (by decide) ?_
          exact tm_sub [0, 1, 2, 3, 4] rfl (ih _ (by omega) (g + 1) σ16 ((Fr.rfl.trans (Fr.sub hF (by decide) (by decide) (by decide))).trans (Fr.sub f18 (by decide) (by decide) (by decide))) f19 (by omega) (by assumption) rfl)
theorem dX12_share_80 : decode cX12_share 80 = .ok (.iload_n 2, 1) := by decide +kernel
theorem dX12_share_81 : decode cX12_share 81 = .ok (.aload_n 0, 1) := by decide +kernel
theorem dX12_share_82 : decode cX12_share 82 = .ok (.getfield 32, 3) := by decide +kernel
theorem dX12_share_85 : decode cX12_share 85 = .ok (.iload_n 1, 1) := by decide +kernel
theorem dX12_share_86 : decode cX12_share 86 = .ok (.iaload, 1) := by decide +kernel
theorem dX12_share_87 : decode cX12_share 87 = .ok (.if_icmp .ge 68, 3) := by decide +kernel
theorem dX12_share_90 : decode cX12_share 90 = .ok (.aload_n 0, 1) := by decide +kernel
theorem dX12_share_91 : decode cX12_share 91 = .ok (.iload_n 1, 1) := by decide +kernel
theorem dX12_share_92 : decode cX12_share 92 = .ok (.iload_n 2, 1) := by decide +kernel
theorem dX12_share_93 : decode cX12_share 93 = .ok (.invokevirtual 203, 3) := by decide +kernel
theorem dX12_share_96 : decode cX12_share 96 = .ok (.istore_n 3, 1) := by decide +kernel
theorem dX12_share_97 : decode cX12_share 97 = .ok (.iconst 0, 1) := by decide +kernel
theorem dX12_share_98 : decode cX12_share 98 = .ok (.istore 4, 2) := by decide +kernel
theorem dX12_share_149 : decode cX12_share 149 = .ok (.iinc 2 1, 3) := by decide +kernel
theorem dX12_share_152 : decode cX12_share 152 = .ok (.goto (-72), 3) := by decide +kernel
set_option maxHeartbeats 4000000 in
set_option maxRecDepth 20000 in
theorem l_sh4 (d : Nat) {b : Nat} {σ0 : MS} {r : Int} {F : Int} {post : Option Value → MS → Prop} (hr : 0 ≤ r ∧ r < 6) (hR0 : RG σ0) (hit : ITM σ0) (hok : OKS σ0 F r) (hbl : BO 59 σ0) (hl : LAB σ0) (hx_155 : ∀ (k : Int) (σ : MS) , (Fr [] [63] [] σ0 σ) → (RG σ) → (BO 63 σ) → Tm (d + 4) m_X12_share 155 b σ [(2, .int (iI k)), (0, .ref b), (1, .int (iI r))] [] post) : ∀ (n : Nat) (k : Int) (σ : MS) , (Fr [] [63] [] σ0 σ) → (RG σ) → (0 ≤ k ∧ k ≤ σ0.2.1 9 r) → (BO 63 σ) → (220 - k).toNat = n → Tm (d + 4) m_X12_share 80 b σ [(2, .int (iI k)), (0, .ref b), (1, .int (iI r))] [] post := by
  intro n
  induction n using Nat.strongRecOn with
  | _ n ih =>
    intro k σ hF hR h0 hbd hm
    have hit1 := hit.fr hF (by decide)
    have hok1 := hok.fr hF (by decide)
    have q1 := hit r (by omega) (by omega)
    have q9 : σ.2.1 9 r = σ0.2.1 9 r := by rw [hF.2.1 9 (by decide)]
    refine tm_iload_n dX12_share_80 rfl 0 rfl ?_
    refine tm_aload_n dX12_share_81 rfl 1 rfl ?_
    refine tm_get (k := 9) (v := .ref (b + 1 + 7)) lay_12 dX12_share_82 (by decide) fl12_32 rfl ?_
    refine tm_iload_n dX12_share_85 rfl 2 rfl ?_
    refine tm_iald (z := r) (v := σ0.2.1 9 r) dX12_share_86 (show mT[7]? = some (9, 0, 13) from rfl) (by omega) (by omega) (by decide) (ra_F hF (by decide) (rfl)) ?_
    have g1 := RG.a hR0 9 (r)
    refine tm_icmp_ge (tgt := 155) dX12_share_87 (by decide) ⟨by omega, by omega⟩ ⟨by omega, by omega⟩ (fun h2 => ?_) (fun h2 => ?_)
    · exact tm_sub [0, 1, 2] rfl (hx_155 (k) σ (Fr.rfl.trans (Fr.sub hF (by decide) (by decide) (by decide))) hR hbd)
    · refine tm_aload_n dX12_share_90 rfl 1 rfl ?_
      refine tm_iload_n dX12_share_91 rfl 2 rfl ?_
      refine tm_iload_n dX12_share_92 rfl 0 rfl ?_
      refine tm_callV (M := m_X12_share) (pc := 93) (ix := 203) (M' := m_X12_at) (As := [.int (iI r), .int (iI k)]) (rest := []) dX12_share_93 ok_X12_at im_X12_at se_X12_at ml12_203 np_X12_at rfl rfl (Nat.le_of_ble_eq_true rfl) (Nat.le_of_ble_eq_true rfl) rfl (c_X12_at (d + 2) (σ := σ) (x := r) (k := k) ) (fun r3 σ4 hp => ?_)
      obtain ⟨v5, rfl, rfl, f6⟩ := hp
      subst f6
      show Tm _ _ 96 b σ [(2, .int (iI k)), (0, .ref b), (1, .int (iI r))] [.int (iI (220 * r + k))] _
      refine tm_istore_n (L' := [(3, .int (iI (220 * r + k))), (2, .int (iI k)), (0, .ref b), (1, .int (iI r))]) dX12_share_96 rfl (by decide) rfl ?_
      refine tm_iconst dX12_share_97 ?_
      refine tm_istore (L' := [(4, .int (iI 0)), (3, .int (iI (220 * r + k))), (2, .int (iI k)), (0, .ref b), (1, .int (iI r))]) dX12_share_98 (by decide) rfl ?_
      refine tm_sub [0, 1, 2, 3, 4] rfl (l_sh5 (d) (σ0 := σ) (r := r) (k := k) (F := F) hr hR hit1 hok1 (hbl.fr hF (by decide)) (hl.fr hF (by decide)) (by omega) (fun g12 σ13 F9 R10 f11 => ?_) _ (0) σ Fr.rfl hR (by omega) hbd rfl)
      show Tm _ _ 149 b σ13 [(4, .int (iI g12)), (3, .int (iI (220 * r + k))), (2, .int (iI k)), (0, .ref b), (1, .int (iI r))] [] _
      refine tm_iinc (q0 := 2) (L' := [(2, .int (iI (k + 1))), (4, .int (iI g12)), (3, .int (iI (220 * r + k))), (0, .ref b), (1, .int (iI r))]) dX12_share_149 rfl (by decide) rfl ?_
      refine tm_goto (tgt := 80) dX12_share_152 (by decide) ?_
      exact tm_sub [0, 3, 4] rfl (ih _ (by omega) (k + 1) σ13 ((Fr.rfl.trans (Fr.sub hF (by decide) (by decide) (by decide))).trans (Fr.sub F9 (by decide) (by decide) (by decide))) R10 (by omega) (by assumption) rfl)
theorem dX12_share_169 : decode cX12_share 169 = .ok (.iload 4, 2) := by decide +kernel
theorem dX12_share_171 : decode cX12_share 171 = .ok (.iload_n 2, 1) := by decide +kernel
theorem dX12_share_172 : decode cX12_share 172 = .ok (.if_icmp .ge 45, 3) := by decide +kernel
theorem dX12_share_175 : decode cX12_share 175 = .ok (.aload_n 0, 1) := by decide +kernel
theorem dX12_share_176 : decode cX12_share 176 = .ok (.getfield 140, 3) := by decide +kernel
theorem dX12_share_179 : decode cX12_share 179 = .ok (.sipush 192, 3) := by decide +kernel
theorem dX12_share_182 : decode cX12_share 182 = .ok (.iload_n 2, 1) := by decide +kernel
theorem dX12_share_183 : decode cX12_share 183 = .ok (.imul, 1) := by decide +kernel
theorem dX12_share_184 : decode cX12_share 184 = .ok (.iload 4, 2) := by decide +kernel
theorem dX12_share_186 : decode cX12_share 186 = .ok (.iadd, 1) := by decide +kernel
theorem dX12_share_187 : decode cX12_share 187 = .ok (.baload, 1) := by decide +kernel
theorem dX12_share_188 : decode cX12_share 188 = .ok (.ifCond .eq 23, 3) := by decide +kernel
theorem dX12_share_211 : decode cX12_share 211 = .ok (.iinc 4 1, 3) := by decide +kernel
theorem dX12_share_214 : decode cX12_share 214 = .ok (.goto (-45), 3) := by decide +kernel
theorem dX12_share_191 : decode cX12_share 191 = .ok (.aload_n 0, 1) := by decide +kernel
theorem dX12_share_192 : decode cX12_share 192 = .ok (.getfield 143, 3) := by decide +kernel
theorem dX12_share_195 : decode cX12_share 195 = .ok (.iload 4, 2) := by decide +kernel
theorem dX12_share_197 : decode cX12_share 197 = .ok (.iaload, 1) := by decide +kernel
theorem dX12_share_198 : decode cX12_share 198 = .ok (.iload_n 3, 1) := by decide +kernel
theorem dX12_share_199 : decode cX12_share 199 = .ok (.if_icmp .ne 12, 3) := by decide +kernel
theorem dX12_share_202 : decode cX12_share 202 = .ok (.iinc 3 1, 3) := by decide +kernel
theorem dX12_share_205 : decode cX12_share 205 = .ok (.iconst 0, 1) := by decide +kernel
theorem dX12_share_206 : decode cX12_share 206 = .ok (.istore 4, 2) := by decide +kernel
theorem dX12_share_208 : decode cX12_share 208 = .ok (.goto (-39), 3) := by decide +kernel
set_option maxHeartbeats 4000000 in
set_option maxRecDepth 20000 in
theorem l_sh7 (d : Nat) {b : Nat} {σ : MS} {r : Int} {g : Int} {post : Option Value → MS → Prop} (hR : RG σ) (hbd : BO 63 σ) (hnl : NUL σ) (hg : 0 ≤ g ∧ g < 192) (hx_217 : ∀ (n1 : Int) (c1 : Int) , (0 ≤ n1 ∧ n1 ≤ g) → Tm (d + 1) m_X12_share 217 b σ [(4, .int (iI c1)), (3, .int (iI n1)), (2, .int (iI g)), (0, .ref b), (1, .int (iI r))] [] post) : ∀ (n : Nat) (n1 : Int) (c1 : Int) , (0 ≤ n1 ∧ n1 ≤ g ∧ 0 ≤ c1 ∧ c1 ≤ g) → ((192 - n1) * 200 + (g - c1)).toNat = n → Tm (d + 1) m_X12_share 169 b σ [(4, .int (iI c1)), (3, .int (iI n1)), (2, .int (iI g)), (0, .ref b), (1, .int (iI r))] [] post := by
  intro n
  induction n using Nat.strongRecOn with
  | _ n ih =>
    intro n1 c1 h0 hm
    refine tm_iload dX12_share_169 0 rfl ?_
    refine tm_iload_n dX12_share_171 rfl 2 rfl ?_
    refine tm_icmp_ge (tgt := 217) dX12_share_172 (by decide) ⟨by omega, by omega⟩ ⟨by omega, by omega⟩ (fun h1 => ?_) (fun h1 => ?_)
    · exact tm_sub [0, 1, 2, 3, 4] rfl (hx_217 (n1) (c1) (by omega))
    · refine tm_aload_n dX12_share_175 rfl 3 rfl ?_
      refine tm_get (k := 63) (v := .ref (b + 1 + 40)) lay_12 dX12_share_176 (by decide) fl12_140 rfl ?_
      refine tm_sipush dX12_share_179 (by decide) ?_
      refine tm_iload_n dX12_share_182 rfl 2 rfl ?_
      refine tm_imul dX12_share_183 ?_
      refine tm_iload dX12_share_184 0 rfl ?_
      refine tm_iadd dX12_share_186 ?_
      refine tm_zald (z := (192 * g) + c1) (v := σ.2.1 63 ((192 * g) + c1)) dX12_share_187 (show mT[40]? = some (63, 2, 36864) from rfl) (by omega) (by omega) (by decide) (rfl) ?_
      have g2 := RG.a hR 63 ((192 * g) + c1)
      have := hbd ((192 * g) + c1)
      refine tm_if_eq (tgt := 211) dX12_share_188 (by decide) ⟨by omega, by omega⟩ (fun h3 => ?_) (fun h3 => ?_)
      · refine tm_iinc (q0 := 0) (L' := [(4, .int (iI (c1 + 1))), (3, .int (iI n1)), (2, .int (iI g)), (0, .ref b), (1, .int (iI r))]) dX12_share_211 rfl (by decide) rfl ?_
        refine tm_goto (tgt := 169) dX12_share_214 (by decide) ?_
        exact tm_sub [0, 1, 2, 3, 4] rfl (ih _ (by omega) (n1) (c1 + 1) (by omega) rfl)
      · refine tm_aload_n dX12_share_191 rfl 3 rfl ?_
        refine tm_get (k := 64) (v := .ref (b + 1 + 41)) lay_12 dX12_share_192 (by decide) fl12_143 rfl ?_
        refine tm_iload dX12_share_195 0 rfl ?_
        refine tm_iald (z := c1) (v := σ.2.1 64 c1) dX12_share_197 (show mT[41]? = some (64, 0, 192) from rfl) (by omega) (by omega) (by decide) (rfl) ?_
        have g4 := RG.a hR 64 (c1)
        have := hnl (c1) (by omega) (by omega)
        refine tm_iload_n dX12_share_198 rfl 1 rfl ?_
        refine tm_icmp_ne (tgt := 211) dX12_share_199 (by decide) ⟨by omega, by omega⟩ ⟨by omega, by omega⟩ (fun h5 => ?_) (fun h5 => ?_)
        · refine tm_iinc (q0 := 0) (L' := [(4, .int (iI (c1 + 1))), (3, .int (iI n1)), (2, .int (iI g)), (0, .ref b), (1, .int (iI r))]) dX12_share_211 rfl (by decide) rfl ?_
          refine tm_goto (tgt := 169) dX12_share_214 (by decide) ?_
          exact tm_sub [0, 1, 2, 3, 4] rfl (ih _ (by omega) (n1) (c1 + 1) (by omega) rfl)
        · refine tm_iinc (q0 := 1) (L' := [(3, .int (iI (n1 + 1))), (4, .int (iI c1)), (2, .int (iI g)), (0, .ref b), (1, .int (iI r))]) dX12_share_202 rfl (by decide) rfl ?_
          refine tm_iconst dX12_share_205 ?_
          refine tm_istore (L' := [(4, .int (iI 0)), (3, .int (iI (n1 + 1))), (2, .int (iI g)), (0, .ref b), (1, .int (iI r))]) dX12_share_206 (by decide) rfl ?_
          refine tm_goto (tgt := 169) dX12_share_208 (by decide) ?_
          exact tm_sub [0, 1, 2, 3, 4] rfl (ih _ (by omega) (n1 + 1) (0) (by omega) rfl)
theorem dX12_share_157 : decode cX12_share 157 = .ok (.iload_n 2, 1) := by decide +kernel
theorem dX12_share_158 : decode cX12_share 158 = .ok (.sipush 192, 3) := by decide +kernel
theorem dX12_share_161 : decode cX12_share 161 = .ok (.if_icmp .ge 69, 3) := by decide +kernel
theorem dX12_share_164 : decode cX12_share 164 = .ok (.iconst 0, 1) := by decide +kernel
theorem dX12_share_165 : decode cX12_share 165 = .ok (.istore_n 3, 1) := by decide +kernel
theorem dX12_share_166 : decode cX12_share 166 = .ok (.iconst 0, 1) := by decide +kernel
theorem dX12_share_167 : decode cX12_share 167 = .ok (.istore 4, 2) := by decide +kernel
theorem dX12_share_217 : decode cX12_share 217 = .ok (.aload_n 0, 1) := by decide +kernel
theorem dX12_share_218 : decode cX12_share 218 = .ok (.getfield 143, 3) := by decide +kernel
theorem dX12_share_221 : decode cX12_share 221 = .ok (.iload_n 2, 1) := by decide +kernel
theorem dX12_share_222 : decode cX12_share 222 = .ok (.iload_n 3, 1) := by decide +kernel
theorem dX12_share_223 : decode cX12_share 223 = .ok (.iastore, 1) := by decide +kernel
theorem dX12_share_224 : decode cX12_share 224 = .ok (.iinc 2 1, 3) := by decide +kernel
theorem dX12_share_227 : decode cX12_share 227 = .ok (.goto (-70), 3) := by decide +kernel
set_option maxHeartbeats 4000000 in
set_option maxRecDepth 20000 in
theorem l_sh6 (d : Nat) {b : Nat} {σ0 : MS} {r : Int} {post : Option Value → MS → Prop} (hR0 : RG σ0) (hbd : BO 63 σ0) (hx_230 : ∀ (g : Int) (σ : MS) , (Fr [] [64] [] σ0 σ) → (RG σ) → (NUL σ) → Tm (d + 1) m_X12_share 230 b σ [(2, .int (iI g)), (0, .ref b), (1, .int (iI r))] [] post) : ∀ (n : Nat) (g : Int) (σ : MS) , (Fr [] [64] [] σ0 σ) → (RG σ) → (0 ≤ g ∧ g ≤ 192) → (NUL σ) → (192 - g).toNat = n → Tm (d + 1) m_X12_share 157 b σ [(2, .int (iI g)), (0, .ref b), (1, .int (iI r))] [] post := by
  intro n
  induction n using Nat.strongRecOn with
  | _ n ih =>
    intro g σ hF hR h0 hnl hm
    refine tm_iload_n dX12_share_157 rfl 0 rfl ?_
    refine tm_sipush dX12_share_158 (by decide) ?_
    refine tm_icmp_ge (tgt := 230) dX12_share_161 (by decide) ⟨by omega, by omega⟩ ⟨by decide, by decide⟩ (fun h1 => ?_) (fun h1 => ?_)
    · exact tm_sub [0, 1, 2] rfl (hx_230 (g) σ (Fr.rfl.trans (Fr.sub hF (by decide) (by decide) (by decide))) hR hnl)
    · refine tm_iconst dX12_share_164 ?_
      refine tm_istore_n (L' := [(3, .int (iI 0)), (2, .int (iI g)), (0, .ref b), (1, .int (iI r))]) dX12_share_165 rfl (by decide) rfl ?_
      refine tm_iconst dX12_share_166 ?_
      refine tm_istore (L' := [(4, .int (iI 0)), (3, .int (iI 0)), (2, .int (iI g)), (0, .ref b), (1, .int (iI r))]) dX12_share_167 (by decide) rfl ?_
      refine tm_sub [0, 1, 2, 3, 4] rfl (l_sh7 (d) (σ := σ) (r := r) (g := g) hR (hbd.fr hF (by decide)) hnl (by omega) (fun n17 c18 f6 => ?_) _ (0) (0) (by omega) rfl)
      show Tm _ _ 217 b σ [(4, .int (iI c18)), (3, .int (iI n17)), (2, .int (iI g)), (0, .ref b), (1, .int (iI r))] [] _
      refine tm_aload_n dX12_share_217 rfl 3 rfl ?_
      refine tm_get (k := 64) (v := .ref (b + 1 + 41)) lay_12 dX12_share_218 (by decide) fl12_143 rfl ?_
      refine tm_iload_n dX12_share_221 rfl 2 rfl ?_
      refine tm_iload_n dX12_share_222 rfl 1 rfl ?_
      refine tm_iast (z := g) (v := n17) dX12_share_223 (show mT[41]? = some (64, 0, 192) from rfl) (by omega) (by omega) (by decide) ?_
      refine tm_iinc (q0 := 2) (L' := [(2, .int (iI (g + 1))), (4, .int (iI c18)), (3, .int (iI n17)), (0, .ref b), (1, .int (iI r))]) dX12_share_224 rfl (by decide) rfl ?_
      refine tm_goto (tgt := 157) dX12_share_227 (by decide) ?_
      exact tm_sub [0, 3, 4] rfl (ih _ (by omega) (g + 1) (sA 64 (g) (n17) σ) ((Fr.rfl.trans (Fr.sub hF (by decide) (by decide) (by decide))).A (by decide)) (hR.A (by omega)) (by omega) (hnl.A (by omega)) rfl)
