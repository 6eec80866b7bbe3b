section
set_option maxHeartbeats 2000000 in
set_option maxRecDepth 20000 in
theorem g_bes1 (d : Nat) {b : Nat} {σ0 : MS} {cnt : Int} {L0 : Int} {post : Option Value → MS → Prop} (hR0 : RG σ0) (hit : ITM σ0) (hpar : PAR σ0) (hbk : BKA σ0 1) (hx_123 : ∀ (s9 : Int) (lf : Int) (σ : MS) , (Fr [] [73, 75, 76, 77, 78, 79, 80, 81, 82] [] σ0 σ) → (RG σ) → (0 ≤ s9 ∧ s9 ≤ 3 ∧ 0 ≤ lf ∧ lf ≤ 20000) → (s9 ≠ 2 → RUN σ 1) → (XM 1 σ0 σ) → (0 ≤ σ.2.1 76 1 ∧ (s9 ≠ 3 → σ.2.1 76 1 ≤ 20000 - lf) ∧ (s9 = 3 → σ.2.1 76 1 ≤ 20001 - lf)) → (lf ≤ L0 ∧ (s9 = 1 → lf < L0)) → (RQM σ0 σ) → (SB9 1 σ0 L0 s9 lf σ) → (s9 ≠ 0 ∨ lf ≤ 0) → Tm (d + 4) m_X12_beside 123 b σ [(9, .int (iI s9)), (8, .int (iI lf)), (7, .int (iI cnt)), (0, .ref b)] [] post) : ∀ (n : Nat) (s9 : Int) (lf : Int) (σ : MS) , (Fr [] [73, 75, 76, 77, 78, 79, 80, 81, 82] [] σ0 σ) → (RG σ) → (0 ≤ s9 ∧ s9 ≤ 3 ∧ 0 ≤ lf ∧ lf ≤ 20000) → (s9 ≠ 2 → RUN σ 1) → (XM 1 σ0 σ) → (0 ≤ σ.2.1 76 1 ∧ (s9 ≠ 3 → σ.2.1 76 1 ≤ 20000 - lf) ∧ (s9 = 3 → σ.2.1 76 1 ≤ 20001 - lf)) → (lf ≤ L0 ∧ (s9 = 1 → lf < L0)) → (RQM σ0 σ) → (SB9 1 σ0 L0 s9 lf σ) → (4 * lf + 3 - s9).toNat = n → Tm (d + 4) m_X12_beside 87 b σ [(9, .int (iI s9)), (8, .int (iI lf)), (7, .int (iI cnt)), (0, .ref b)] [] post := by
  intro n
  induction n using Nat.strongRecOn with
  | _ n ih =>
    intro s9 lf σ hF hR h0 hr1 hx hp hl hmq hsb hm
    refine tm_iload dX12_beside_87 0 rfl ?_
    refine tm_if_ne (tgt := 123) dX12_beside_89 (by decide) ⟨by omega, by omega⟩ (fun h1 => ?_) (fun h1 => ?_)
    · exact tm_sub [0, 1, 2, 3] rfl (hx_123 (s9) (lf) σ (Fr.rfl.trans (Fr.sub hF (by decide) (by decide) (by decide))) hR (by omega) hr1 hx (by omega) (by omega) hmq hsb (by omega))
    · refine tm_iload dX12_beside_92 1 rfl ?_
      refine tm_if_le (tgt := 123) dX12_beside_94 (by decide) ⟨by omega, by omega⟩ (fun h2 => ?_) (fun h2 => ?_)
      · exact tm_sub [0, 1, 2, 3] rfl (hx_123 (s9) (lf) σ (Fr.rfl.trans (Fr.sub hF (by decide) (by decide) (by decide))) hR (by omega) hr1 hx (by omega) (by omega) hmq hsb (by omega))
      · refine tm_aload_n dX12_beside_97 rfl 3 rfl ?_
        refine tm_iconst dX12_beside_98 ?_
        refine tm_callV (M := m_X12_beside) (pc := 99) (ix := 569) (M' := m_X12_step) (As := [.int (iI 1)]) (rest := []) dX12_beside_99 ok_X12_step im_X12_step se_X12_step ml12_569 np_X12_step rfl rfl (Nat.le_of_ble_eq_true rfl) (Nat.le_of_ble_eq_true rfl) rfl (f_X12_step (d) (σ := σ) (m := 1) hR (by decide) (hr1 (by omega)) (hbk.fr hF (by decide) (by decide)) (hit.fr hF (by decide)) (hpar.fr hF (by decide)) (by omega)) (fun r3 σ4 hp => ?_)
        obtain ⟨v5, rfl, f6, f7, f8, f9, f10, f11, f12⟩ := hp
        show Tm _ _ 102 b σ4 [(9, .int (iI s9)), (8, .int (iI lf)), (7, .int (iI cnt)), (0, .ref b)] [.int (iI v5)] _
        have hrs : v5 ≠ 2 → RUN σ4 1 := fun q => by rcases f8 with ⟨a, e1⟩ | ⟨a, _⟩ | ⟨_, h⟩; rw [e1]; exact hr1 (by omega); exact absurd a q; exact h
        have hv : 0 ≤ v5 ∧ v5 ≤ 3 := by rcases f8 with ⟨a, _⟩ | ⟨a, _⟩ | ⟨a, _⟩ <;> omega
        have hxs := hx.trans f9
        have hps := f10
        have hms := hmq.trans (RQM.stq f12 f6 f9 (by decide) (hr1 (by omega)) (hbk.fr hF (by decide) (by decide)) (by omega))
        have hq9 := f12
        refine tm_istore (L' := [(9, .int (iI v5)), (8, .int (iI lf)), (7, .int (iI cnt)), (0, .ref b)]) dX12_beside_102 (by decide) rfl ?_
        refine tm_iload dX12_beside_104 1 rfl ?_
        refine tm_iload dX12_beside_106 0 rfl ?_
        refine tm_iconst dX12_beside_108 ?_
        refine tm_icmp_ne (tgt := 116) dX12_beside_109 (by decide) ⟨by omega, by omega⟩ ⟨by decide, by decide⟩ (fun h13 => ?_) (fun h13 => ?_)
        · refine tm_iconst dX12_beside_116 ?_
          refine tm_isub dX12_beside_117 ?_
          refine tm_istore (L' := [(8, .int (iI (lf - 1))), (9, .int (iI v5)), (7, .int (iI cnt)), (0, .ref b)]) dX12_beside_118 (by decide) rfl ?_
          refine tm_goto (tgt := 87) dX12_beside_120 (by decide) ?_
          exact tm_sub [1, 0, 2, 3] rfl (ih _ (by omega) (v5) (lf - 1) σ4 ((Fr.rfl.trans (Fr.sub hF (by decide) (by decide) (by decide))).trans (Fr.sub f6 (by decide) (by decide) (by decide))) f7 (by omega) hrs hxs (by omega) (by omega) hms (hsb.st (by omega) (by omega) ⟨hr1 (by omega), hF, hx, by omega, by omega⟩ hq9 (by omega)) rfl)
        · refine tm_iconst dX12_beside_112 ?_
          refine tm_goto (tgt := 117) dX12_beside_113 (by decide) ?_
          refine tm_isub dX12_beside_117 ?_
          refine tm_istore (L' := [(8, .int (iI (lf - 0))), (9, .int (iI v5)), (7, .int (iI cnt)), (0, .ref b)]) dX12_beside_118 (by decide) rfl ?_
          refine tm_goto (tgt := 87) dX12_beside_120 (by decide) ?_
          exact tm_sub [1, 0, 2, 3] rfl (ih _ (by omega) (v5) (lf - 0) σ4 ((Fr.rfl.trans (Fr.sub hF (by decide) (by decide) (by decide))).trans (Fr.sub f6 (by decide) (by decide) (by decide))) f7 (by omega) hrs hxs (by omega) (by omega) hms (hsb.st (by omega) (by omega) ⟨hr1 (by omega), hF, hx, by omega, by omega⟩ hq9 (by omega)) rfl)
set_option maxHeartbeats 2000000 in
set_option maxRecDepth 20000 in
theorem g_bes2 (d : Nat) {b : Nat} {σ0 : MS} {cnt : Int} {s9 : Int} {lf : Int} {post : Option Value → MS → Prop} (hR0 : RG σ0) (hit : ITM σ0) (hpar : PAR σ0) (hpl : PLA σ0) (hP : 0 ≤ σ0.2.1 76 2 ∧ σ0.2.1 76 2 ≤ 900000000) (hx_149 : ∀ (s10 : Int) (σ : MS) , (Fr [] [73, 75, 76, 77, 78, 79, 80, 81, 82] [] σ0 σ) → (RG σ) → (1 ≤ s10 ∧ s10 ≤ 3) → (s10 ≠ 2 → RUN σ 2) → (XM 2 σ0 σ) → (0 ≤ σ.2.1 76 2 ∧ σ.2.1 76 2 ≤ σ0.2.1 76 2 + 8004) → (RQM σ0 σ) → (SP9 2 σ0 s10 σ) → Tm (d + 4) m_X12_beside 149 b σ [(10, .int (iI s10)), (9, .int (iI s9)), (8, .int (iI lf)), (7, .int (iI cnt)), (0, .ref b)] [] post) : ∀ (n : Nat) (s10 : Int) (σ : MS) , (Fr [] [73, 75, 76, 77, 78, 79, 80, 81, 82] [] σ0 σ) → (RG σ) → (RUN σ 2) → (XM 2 σ0 σ) → (0 ≤ σ.2.1 76 2 ∧ σ.2.1 76 2 + rk σ ≤ σ0.2.1 76 2 + 8003) → (RQM σ0 σ) → (SP9 2 σ0 0 σ) → (rk σ).toNat = n → Tm (d + 4) m_X12_beside 139 b σ [(9, .int (iI s9)), (8, .int (iI lf)), (7, .int (iI cnt)), (0, .ref b)] [] post := by
  intro n
  induction n using Nat.strongRecOn with
  | _ n ih =>
    intro s10 σ hF hR hr2 hx hp hmq hsp hm
    have hpl2 := hpl.fr hF (by decide) (by decide)
    have hrb := rk_b hr2 hpl2.1
    refine tm_aload_n dX12_beside_139 rfl 3 rfl ?_
    refine tm_iconst dX12_beside_140 ?_
    refine tm_callV (M := m_X12_beside) (pc := 141) (ix := 569) (M' := m_X12_step) (As := [.int (iI 2)]) (rest := []) dX12_beside_141 ok_X12_step im_X12_step se_X12_step ml12_569 np_X12_step rfl rfl (Nat.le_of_ble_eq_true rfl) (Nat.le_of_ble_eq_true rfl) rfl (f_X12_step (d) (σ := σ) (m := 2) hR (by decide) hr2 hpl2.1 (hit.fr hF (by decide)) (hpar.fr hF (by decide)) (by omega)) (fun r1 σ2 hp => ?_)
    obtain ⟨v3, rfl, f4, f5, f6, f7, f8, f9, f10⟩ := hp
    show Tm _ _ 144 b σ2 [(9, .int (iI s9)), (8, .int (iI lf)), (7, .int (iI cnt)), (0, .ref b)] [.int (iI v3)] _
    have hrs : v3 ≠ 2 → RUN σ2 2 := fun q => by rcases f6 with ⟨a, e1⟩ | ⟨a, _⟩ | ⟨_, h⟩; rw [e1]; exact hr2; exact absurd a q; exact h
    have hv : 0 ≤ v3 ∧ v3 ≤ 3 := by rcases f6 with ⟨a, _⟩ | ⟨a, _⟩ | ⟨a, _⟩ <;> omega
    have hfl : v3 = 0 → rk σ2 < rk σ ∧ 0 ≤ rk σ2 := fun q => ⟨rk_fall hr2 hpl2.2 (hrs (by omega)) f4 (by decide) (by decide) (by have z := f9; rw [q] at z; exact z), (rk_b (hrs (by omega)) (hpl2.1.fr f4 (by decide) (by decide))).1⟩
    have hxs := hx.trans f7
    have hps := f8
    have hms := hmq.trans (RQM.stq f10 f4 f7 (by decide) hr2 hpl2.1 (by omega))
    have hq9 := f10
    refine tm_istore (L' := [(10, .int (iI v3)), (9, .int (iI s9)), (8, .int (iI lf)), (7, .int (iI cnt)), (0, .ref b)]) dX12_beside_144 (by decide) rfl ?_
    refine tm_goto (tgt := 134) dX12_beside_146 (by decide) ?_
    refine tm_iload dX12_beside_134 0 rfl ?_
    refine tm_if_ne (tgt := 149) dX12_beside_136 (by decide) ⟨by omega, by omega⟩ (fun h11 => ?_) (fun h11 => ?_)
    · exact tm_sub [0, 1, 2, 3, 4] rfl (hx_149 (v3) σ2 ((Fr.rfl.trans (Fr.sub hF (by decide) (by decide) (by decide))).trans (Fr.sub f4 (by decide) (by decide) (by decide))) f5 (by omega) hrs hxs (by omega) hms (hsp.st rfl ⟨hr2, hF, hx, by omega, by omega⟩ hq9 hrb.1 (fun q => (hfl q).1)))
    · exact tm_sub [1, 2, 3, 4] rfl (ih _ (by have := hfl (by omega); omega) (0) σ2 ((Fr.rfl.trans (Fr.sub hF (by decide) (by decide) (by decide))).trans (Fr.sub f4 (by decide) (by decide) (by decide))) f5 (hrs (by omega)) hxs (by have := hfl (by omega); omega) hms ((hsp.st rfl ⟨hr2, hF, hx, by omega, by omega⟩ hq9 hrb.1 (fun q => (hfl q).1)).n0 (by omega)) rfl)
set_option maxHeartbeats 2000000 in
set_option maxRecDepth 20000 in
theorem g_bes0 (d : Nat) {b : Nat} {σ0 : MS} {L0 : Int} {post : Option Value → MS → Prop} (hR0 : RG σ0) (hit : ITM σ0) (hpar : PAR σ0) (hnam : NAM σ0) (hgd : GDA σ0) (hpl : PLA σ0) (hgw : ∀ r, 0 ≤ r → r < σ0.1 10 → WHB9 (rV σ0 r) (σ0.2.1 9 r)) (hret : ∀ (v : Int) (τ : MS), Fr [83, 84] [46, 47, 48, 49, 50, 51, 52, 53, 54, 55, 56, 57, 58, 73, 74, 75, 76, 77, 78, 79, 80, 81, 82, 86] [] σ0 τ → RG τ → LAB τ → BO 47 τ → BO 48 τ → SSA τ → SCH τ → X0 0 σ0 τ → RQM σ0 τ → BEX9 σ0 L0 v → post (some (.int (iI v))) τ) : ∀ (n : Nat) (cnt : Int) (lf : Int) (σ : MS) , (Fr [83, 84] [46, 47, 48, 49, 50, 51, 52, 53, 54, 55, 56, 57, 58, 73, 74, 75, 76, 77, 78, 79, 80, 81, 82, 86] [] σ0 σ) → (RG σ) → (0 ≤ cnt ∧ 0 ≤ lf ∧ cnt + lf ≤ 20000) → (LAB σ) → (BO 47 σ) → (BO 48 σ) → (SSA σ) → (SCH σ) → (RUN σ 1) → (RUN σ 2) → (X0 0 σ0 σ) → (0 ≤ σ.2.1 76 1 ∧ σ.2.1 76 1 ≤ 20000 - lf) → (0 ≤ σ.2.1 76 2 ∧ σ.2.1 76 2 ≤ 9000 * cnt) → ((σ.2.1 86 0 ≤ 1416 * cnt ∧ 0 ≤ σ.2.1 86 0) ∧ σ.2.1 86 1 ≤ 1416 * cnt ∧ 0 ≤ σ.2.1 86 1) → (RQM σ0 σ) → (BRX9 σ0 L0 cnt lf σ) → (lf).toNat = n → Tm (d + 9) m_X12_beside 84 b σ [(8, .int (iI lf)), (7, .int (iI cnt)), (0, .ref b)] [] post := by
  intro n
  induction n using Nat.strongRecOn with
  | _ n ih =>
    intro cnt lf σ hF hR h0 hl hbo hbh hss hsc hr1 hr2 hx hp1 hp2 hC hmq hbr hm
    refine tm_iconst dX12_beside_84 ?_
    refine tm_istore (L' := [(9, .int (iI 0)), (8, .int (iI lf)), (7, .int (iI cnt)), (0, .ref b)]) dX12_beside_85 (by decide) rfl ?_
    refine tm_sub [0, 1, 2, 3] rfl (g_bes1 (d + 5) (σ0 := σ) (cnt := cnt) (L0 := lf) hR (hit.fr (show Fr [83, 84] [46, 47, 48, 49, 50, 51, 52, 53, 54, 55, 56, 57, 58, 73, 74, 75, 76, 77, 78, 79, 80, 81, 82, 86] [] σ0 σ from (Fr.rfl.trans (Fr.sub hF (by decide) (by decide) (by decide)))) (by decide)) (hpar.fr (show Fr [83, 84] [46, 47, 48, 49, 50, 51, 52, 53, 54, 55, 56, 57, 58, 73, 74, 75, 76, 77, 78, 79, 80, 81, 82, 86] [] σ0 σ from (Fr.rfl.trans (Fr.sub hF (by decide) (by decide) (by decide)))) (by decide)) ((hgd.fr (show Fr [83, 84] [46, 47, 48, 49, 50, 51, 52, 53, 54, 55, 56, 57, 58, 73, 74, 75, 76, 77, 78, 79, 80, 81, 82, 86] [] σ0 σ from (Fr.rfl.trans (Fr.sub hF (by decide) (by decide) (by decide)))) (by decide) (by decide)).bka (by decide)) (fun s914 lf15 σ16 F4 R5 f6 f7 f8 f9 f10 f11 f12 f13 => ?_) _ (0) (lf) σ Fr.rfl hR (by omega) (fun _ => hr1) XM.rfl (by omega) (by omega) RQM.rfl SB9.z rfl)
    show Tm _ _ 123 b σ16 [(9, .int (iI s914)), (8, .int (iI lf15)), (7, .int (iI cnt)), (0, .ref b)] [] _
    have ha0 := f6
    have ha1 := f7
    have ha2 := f8
    have ha3 := f9
    have ha4 := f10
    have ha5 := f11
    have ha6 := f12
    have ha7 := f13
    have hxa := hx.trans (ha2.x0 (by decide))
    have hma := hmq.trans ha5
    refine tm_iload dX12_beside_123 0 rfl ?_
    refine tm_if_ne (tgt := 131) dX12_beside_125 (by decide) ⟨by omega, by omega⟩ (fun h17 => ?_) (fun h17 => ?_)
    · refine tm_iconst dX12_beside_131 ?_
      refine tm_istore (L' := [(10, .int (iI 0)), (9, .int (iI s914)), (8, .int (iI lf15)), (7, .int (iI cnt)), (0, .ref b)]) dX12_beside_132 (by decide) rfl ?_
      refine tm_iload dX12_beside_134 0 rfl ?_
      refine tm_if_ne (tgt := 149) dX12_beside_136 (by decide) ⟨by decide, by decide⟩ (fun h => absurd h (by decide)) (fun _ => ?_)
      refine tm_sub [1, 2, 3, 4] rfl (g_bes2 (d + 5) (σ0 := σ16) (cnt := cnt) (s9 := s914) (lf := lf15) R5 (hit.fr (show Fr [83, 84] [46, 47, 48, 49, 50, 51, 52, 53, 54, 55, 56, 57, 58, 73, 74, 75, 76, 77, 78, 79, 80, 81, 82, 86] [] σ0 σ16 from ((Fr.rfl.trans (Fr.sub hF (by decide) (by decide) (by decide))).trans (Fr.sub F4 (by decide) (by decide) (by decide)))) (by decide)) (hpar.fr (show Fr [83, 84] [46, 47, 48, 49, 50, 51, 52, 53, 54, 55, 56, 57, 58, 73, 74, 75, 76, 77, 78, 79, 80, 81, 82, 86] [] σ0 σ16 from ((Fr.rfl.trans (Fr.sub hF (by decide) (by decide) (by decide))).trans (Fr.sub F4 (by decide) (by decide) (by decide)))) (by decide)) (hpl.fr (show Fr [83, 84] [46, 47, 48, 49, 50, 51, 52, 53, 54, 55, 56, 57, 58, 73, 74, 75, 76, 77, 78, 79, 80, 81, 82, 86] [] σ0 σ16 from ((Fr.rfl.trans (Fr.sub hF (by decide) (by decide) (by decide))).trans (Fr.sub F4 (by decide) (by decide) (by decide)))) (by decide) (by decide)) (by rw [(ha2.1 2 (by decide)).2]; omega) (fun s1029 σ30 F21 R22 f23 f24 f25 f26 f27 f28 => ?_) _ (0) σ16 Fr.rfl R5 (hr2.x0 (ha2.x0 (by decide)) F4 (by decide) (by decide)) XM.rfl (by have q := rk_b (hr2.x0 (ha2.x0 (by decide)) F4 (by decide) (by decide)) (hpl.1.fr (show Fr [83, 84] [46, 47, 48, 49, 50, 51, 52, 53, 54, 55, 56, 57, 58, 73, 74, 75, 76, 77, 78, 79, 80, 81, 82, 86] [] σ0 σ16 from ((Fr.rfl.trans (Fr.sub hF (by decide) (by decide) (by decide))).trans (Fr.sub F4 (by decide) (by decide) (by decide)))) (by decide) (by decide)); rw [(ha2.1 2 (by decide)).2]; omega) RQM.rfl SP9.z rfl)
      show Tm _ _ 149 b σ30 [(10, .int (iI s1029)), (9, .int (iI s914)), (8, .int (iI lf15)), (7, .int (iI cnt)), (0, .ref b)] [] _
      have hb0_ := f23
      have hb1_ := f24
      have hb2_ := f25
      have hb3_ := f26
      have hb4_ := f27
      have hb5_ := f28
      have hxb := hxa.trans (hb2_.x0 (by decide))
      have hmb := hma.trans hb4_
      refine tm_iload dX12_beside_149 1 rfl ?_
      refine tm_iload dX12_beside_151 0 rfl ?_
      refine tm_icmp_eq (tgt := 162) dX12_beside_153 (by decide) ⟨by omega, by omega⟩ ⟨by omega, by omega⟩ (fun h32 => ?_) (fun h32 => ?_)
      · refine tm_iload dX12_beside_162 1 rfl ?_
        refine tm_iconst dX12_beside_164 ?_
        refine tm_icmp_le (tgt := 238) dX12_beside_165 (by decide) ⟨by omega, by omega⟩ ⟨by decide, by decide⟩ (fun h33 => ?_) (fun h33 => ?_)
        · refine tm_aload_n dX12_beside_238 rfl 4 rfl ?_
          have hr1z := (ha1 (by omega)).x0 (hb2_.x0 (by decide)) F21 (by decide) (by decide)
          have h86z := F21.2.1 86 (by decide)
          have h86y := F4.2.1 86 (by decide)
          rw [h86y] at h86z
          have hlz := hl.fr (show Fr [] [73, 75, 76, 77, 78, 79, 80, 81, 82] [] σ σ30 from ((Fr.rfl.trans (Fr.sub F4 (by decide) (by decide) (by decide))).trans (Fr.sub F21 (by decide) (by decide) (by decide)))) (by decide)
          have hboz := hbo.fr (show Fr [] [73, 75, 76, 77, 78, 79, 80, 81, 82] [] σ σ30 from ((Fr.rfl.trans (Fr.sub F4 (by decide) (by decide) (by decide))).trans (Fr.sub F21 (by decide) (by decide) (by decide)))) (by decide)
          have hbhz := hbh.fr (show Fr [] [73, 75, 76, 77, 78, 79, 80, 81, 82] [] σ σ30 from ((Fr.rfl.trans (Fr.sub F4 (by decide) (by decide) (by decide))).trans (Fr.sub F21 (by decide) (by decide) (by decide)))) (by decide)
          have hssz := hss.fr (show Fr [] [73, 75, 76, 77, 78, 79, 80, 81, 82] [] σ σ30 from ((Fr.rfl.trans (Fr.sub F4 (by decide) (by decide) (by decide))).trans (Fr.sub F21 (by decide) (by decide) (by decide)))) (by decide)
          have hscz := hsc.fr (show Fr [] [73, 75, 76, 77, 78, 79, 80, 81, 82] [] σ σ30 from ((Fr.rfl.trans (Fr.sub F4 (by decide) (by decide) (by decide))).trans (Fr.sub F21 (by decide) (by decide) (by decide)))) (by decide)
          refine tm_callV (M := m_X12_beside) (pc := 239) (ix := 599) (M' := m_X12_areAlike) (As := []) (rest := []) dX12_beside_239 ok_X12_areAlike im_X12_areAlike se_X12_areAlike ml12_599 np_X12_areAlike rfl rfl (Nat.le_of_ble_eq_true rfl) (Nat.le_of_ble_eq_true rfl) rfl (g_X12_areAlike (d) (σ := σ30)  R22 (hit.fr (show Fr [83, 84] [46, 47, 48, 49, 50, 51, 52, 53, 54, 55, 56, 57, 58, 73, 74, 75, 76, 77, 78, 79, 80, 81, 82, 86] [] σ0 σ30 from (((Fr.rfl.trans (Fr.sub hF (by decide) (by decide) (by decide))).trans (Fr.sub F4 (by decide) (by decide) (by decide))).trans (Fr.sub F21 (by decide) (by decide) (by decide)))) (by decide)) (hpar.fr (show Fr [83, 84] [46, 47, 48, 49, 50, 51, 52, 53, 54, 55, 56, 57, 58, 73, 74, 75, 76, 77, 78, 79, 80, 81, 82, 86] [] σ0 σ30 from (((Fr.rfl.trans (Fr.sub hF (by decide) (by decide) (by decide))).trans (Fr.sub F4 (by decide) (by decide) (by decide))).trans (Fr.sub F21 (by decide) (by decide) (by decide)))) (by decide)) (hnam.fr (show Fr [83, 84] [46, 47, 48, 49, 50, 51, 52, 53, 54, 55, 56, 57, 58, 73, 74, 75, 76, 77, 78, 79, 80, 81, 82, 86] [] σ0 σ30 from (((Fr.rfl.trans (Fr.sub hF (by decide) (by decide) (by decide))).trans (Fr.sub F4 (by decide) (by decide) (by decide))).trans (Fr.sub F21 (by decide) (by decide) (by decide)))) (by decide)) (hgd.fr (show Fr [83, 84] [46, 47, 48, 49, 50, 51, 52, 53, 54, 55, 56, 57, 58, 73, 74, 75, 76, 77, 78, 79, 80, 81, 82, 86] [] σ0 σ30 from (((Fr.rfl.trans (Fr.sub hF (by decide) (by decide) (by decide))).trans (Fr.sub F4 (by decide) (by decide) (by decide))).trans (Fr.sub F21 (by decide) (by decide) (by decide)))) (by decide) (by decide)) hlz hboz hbhz hssz hscz hr1z (hb1_ (by omega)) (hpl.1.fr (show Fr [83, 84] [46, 47, 48, 49, 50, 51, 52, 53, 54, 55, 56, 57, 58, 73, 74, 75, 76, 77, 78, 79, 80, 81, 82, 86] [] σ0 σ30 from (((Fr.rfl.trans (Fr.sub hF (by decide) (by decide) (by decide))).trans (Fr.sub F4 (by decide) (by decide) (by decide))).trans (Fr.sub F21 (by decide) (by decide) (by decide)))) (by decide) (by decide)) (whb_fr (show Fr [83, 84] [46, 47, 48, 49, 50, 51, 52, 53, 54, 55, 56, 57, 58, 73, 74, 75, 76, 77, 78, 79, 80, 81, 82, 86] [] σ0 σ30 from (((Fr.rfl.trans (Fr.sub hF (by decide) (by decide) (by decide))).trans (Fr.sub F4 (by decide) (by decide) (by decide))).trans (Fr.sub F21 (by decide) (by decide) (by decide)))) (by decide) (by decide) hgw) (by rw [h86z]; omega)) (fun r34 σ35 hp => ?_)
          obtain ⟨v36, rfl, f37, f38, f39, f40, f41, f42, f43, f44, f45, f46⟩ := hp
          show Tm _ _ 242 b σ35 [(10, .int (iI s1029)), (9, .int (iI s914)), (8, .int (iI lf15)), (7, .int (iI cnt)), (0, .ref b)] [.int (iI v36)] _
          have hz3 := f40
          have hz4 := f41
          have hz5 := f42
          have hz6 := f43
          have hz7 := f44
          have hz8 := f45
          have hxz := hxb.trans (X0.of f38 (by decide))
          have hmz := hmb.trans (RQM.of f38 (by decide) (by decide))
          have h761 : σ35.2.1 76 1 = σ16.2.1 76 1 := (congrFun (f38.2.1 76 (by decide)) 1).trans (hb2_.1 1 (by decide)).2
          have h762 : σ35.2.1 76 2 = σ30.2.1 76 2 := congrFun (f38.2.1 76 (by decide)) 2
          have h762b : σ16.2.1 76 2 = σ.2.1 76 2 := (ha2.1 2 (by decide)).2
          rw [h86z] at hz8
          have hz9 := f46
          refine tm_if_ne (tgt := 251) dX12_beside_242 (by decide) ⟨by omega, by omega⟩ (fun h47 => ?_) (fun h47 => ?_)
          · refine tm_iinc (q0 := 3) (L' := [(7, .int (iI (cnt + 1))), (10, .int (iI s1029)), (9, .int (iI s914)), (8, .int (iI lf15)), (0, .ref b)]) dX12_beside_251 rfl (by decide) rfl ?_
            refine tm_goto (tgt := 84) dX12_beside_254 (by decide) ?_
            exact tm_sub [3, 0, 4] rfl (ih _ (by have := ha4.2 (by omega); omega) (cnt + 1) (lf15) σ35 ((((Fr.rfl.trans (Fr.sub hF (by decide) (by decide) (by decide))).trans (Fr.sub F4 (by decide) (by decide) (by decide))).trans (Fr.sub F21 (by decide) (by decide) (by decide))).trans (Fr.sub f38 (by decide) (by decide) (by decide))) f39 (by omega) hz3 hz4 hz5 hz6 hz7 (hr1z.fr f38 (by decide) (by decide)) ((hb1_ (by omega)).fr f38 (by decide) (by decide)) hxz (by rw [h761]; omega) (by rw [h762]; omega) (by omega) hmz (hbr.st hF ha6 (by omega) hb5_ (by omega) hz9 (by omega) f38) rfl)
          · refine tm_bipush dX12_beside_245 (by decide) ?_
            refine tm_iload dX12_beside_247 3 rfl ?_
            refine tm_isub dX12_beside_249 ?_
            exact tm_iret rfl dX12_beside_250 (hret _ _ ((((Fr.rfl.trans (Fr.sub hF (by decide) (by decide) (by decide))).trans (Fr.sub F4 (by decide) (by decide) (by decide))).trans (Fr.sub F21 (by decide) (by decide) (by decide))).trans (Fr.sub f38 (by decide) (by decide) (by decide))) f39 hz3 hz4 hz5 hz6 hz7 hxz hmz (BEX9.b hbr hF ha6 (by omega) hb5_ (by omega) (Or.inr (Or.inr ⟨by omega, by omega, by have e9 : v36 = 0 := (by omega); have y9 := hz9; rw [e9] at y9; exact y9, by omega⟩))))
        · refine tm_aload_n dX12_beside_168 rfl 4 rfl ?_
          refine tm_callV (M := m_X12_beside) (pc := 169) (ix := 593) (M' := m_X12_arePrintsAlike) (As := []) (rest := []) dX12_beside_169 ok_X12_arePrintsAlike im_X12_arePrintsAlike se_X12_arePrintsAlike ml12_593 np_X12_arePrintsAlike rfl rfl (Nat.le_of_ble_eq_true rfl) (Nat.le_of_ble_eq_true rfl) rfl (g_X12_arePrintsAlike (d + 7) (σ := σ30)  R22) (fun r48 σ49 hp => ?_)
          obtain ⟨v50, rfl, rfl, f51, f52⟩ := hp
          show Tm _ _ 172 b σ30 [(10, .int (iI s1029)), (9, .int (iI s914)), (8, .int (iI lf15)), (7, .int (iI cnt)), (0, .ref b)] [.int (iI v50)] _
          refine tm_if_eq (tgt := 200) dX12_beside_172 (by decide) ⟨by omega, by omega⟩ (fun h53 => ?_) (fun h53 => ?_)
          · refine tm_iconst dX12_beside_200 ?_
            refine tm_istore (L' := [(11, .int (iI 0)), (10, .int (iI s1029)), (9, .int (iI s914)), (8, .int (iI lf15)), (7, .int (iI cnt)), (0, .ref b)]) dX12_beside_201 (by decide) rfl ?_
            refine tm_aload_n dX12_beside_203 rfl 5 rfl ?_
            refine tm_get (k := 86) (v := .ref (b + 1 + 54)) lay_12 dX12_beside_204 (by decide) fl12_182 rfl ?_
            refine tm_iconst dX12_beside_207 ?_
            refine tm_iload dX12_beside_208 0 rfl ?_
            refine tm_if_eq (tgt := 220) dX12_beside_210 (by decide) ⟨by decide, by decide⟩ (fun _ => ?_) (fun h => absurd h (by decide))
            refine tm_iconst dX12_beside_220 ?_
            refine tm_iast (z := 2) (v := 0) dX12_beside_221 (show mT[54]? = some (86, 0, 3) from rfl) (by omega) (by omega) (by decide) ?_
            refine tm_iload dX12_beside_222 0 rfl ?_
            refine tm_if_eq (tgt := 232) dX12_beside_224 (by decide) ⟨by decide, by decide⟩ (fun _ => ?_) (fun h => absurd h (by decide))
            refine tm_bipush dX12_beside_232 (by decide) ?_
            refine tm_iload dX12_beside_234 4 rfl ?_
            refine tm_isub dX12_beside_236 ?_
            exact tm_iret rfl dX12_beside_237 (hret _ _ ((((Fr.rfl.trans (Fr.sub hF (by decide) (by decide) (by decide))).trans (Fr.sub F4 (by decide) (by decide) (by decide))).trans (Fr.sub F21 (by decide) (by decide) (by decide))).A (by decide)) (R22.A (by omega)) (hl.fr (show Fr [] [73, 75, 76, 77, 78, 79, 80, 81, 82, 86] [] σ (sA 86 (2) (0) σ30) from (((Fr.rfl.trans (Fr.sub F4 (by decide) (by decide) (by decide))).trans (Fr.sub F21 (by decide) (by decide) (by decide))).A (by decide))) (by decide)) (hbo.fr (show Fr [] [73, 75, 76, 77, 78, 79, 80, 81, 82, 86] [] σ (sA 86 (2) (0) σ30) from (((Fr.rfl.trans (Fr.sub F4 (by decide) (by decide) (by decide))).trans (Fr.sub F21 (by decide) (by decide) (by decide))).A (by decide))) (by decide)) (hbh.fr (show Fr [] [73, 75, 76, 77, 78, 79, 80, 81, 82, 86] [] σ (sA 86 (2) (0) σ30) from (((Fr.rfl.trans (Fr.sub F4 (by decide) (by decide) (by decide))).trans (Fr.sub F21 (by decide) (by decide) (by decide))).A (by decide))) (by decide)) (hss.fr (show Fr [] [73, 75, 76, 77, 78, 79, 80, 81, 82, 86] [] σ (sA 86 (2) (0) σ30) from (((Fr.rfl.trans (Fr.sub F4 (by decide) (by decide) (by decide))).trans (Fr.sub F21 (by decide) (by decide) (by decide))).A (by decide))) (by decide)) (hsc.fr (show Fr [] [73, 75, 76, 77, 78, 79, 80, 81, 82, 86] [] σ (sA 86 (2) (0) σ30) from (((Fr.rfl.trans (Fr.sub F4 (by decide) (by decide) (by decide))).trans (Fr.sub F21 (by decide) (by decide) (by decide))).A (by decide))) (by decide)) (hxb.trans (X0.of (show Fr [] [86] [] σ30 (sA 86 (2) (0) σ30) from (Fr.rfl.A (by decide))) (by decide))) (hmb.trans (RQM.of (show Fr [] [86] [] σ30 (sA 86 (2) (0) σ30) from (Fr.rfl.A (by decide))) (by decide) (by decide))) (BEX9.b hbr hF ha6 (by omega) hb5_ (by omega) (by first | exact Or.inr (Or.inl ⟨by omega, by omega, Or.inl ⟨by have e9 : v50 = 1 := (by omega); have z9 := f52; rw [e9] at z9; exact z9, by omega, by omega⟩⟩) | exact Or.inr (Or.inl ⟨by omega, by omega, Or.inr ⟨Or.inl (by have e9 : v50 = 0 := (by omega); have z9 := f52; rw [e9] at z9; exact z9), by omega⟩⟩) | exact Or.inr (Or.inl ⟨by omega, by omega, Or.inr ⟨Or.inr ⟨by omega, by omega⟩, by omega⟩⟩))))
          · refine tm_iload dX12_beside_175 1 rfl ?_
            refine tm_iconst dX12_beside_177 ?_
            refine tm_icmp_eq (tgt := 196) dX12_beside_178 (by decide) ⟨by omega, by omega⟩ ⟨by decide, by decide⟩ (fun h56 => ?_) (fun h56 => ?_)
            · refine tm_iconst dX12_beside_196 ?_
              refine tm_goto (tgt := 201) dX12_beside_197 (by decide) ?_
              refine tm_istore (L' := [(11, .int (iI 1)), (10, .int (iI s1029)), (9, .int (iI s914)), (8, .int (iI lf15)), (7, .int (iI cnt)), (0, .ref b)]) dX12_beside_201 (by decide) rfl ?_
              refine tm_aload_n dX12_beside_203 rfl 5 rfl ?_
              refine tm_get (k := 86) (v := .ref (b + 1 + 54)) lay_12 dX12_beside_204 (by decide) fl12_182 rfl ?_
              refine tm_iconst dX12_beside_207 ?_
              refine tm_iload dX12_beside_208 0 rfl ?_
              refine tm_if_eq (tgt := 220) dX12_beside_210 (by decide) ⟨by decide, by decide⟩ (fun h => absurd h (by decide)) (fun _ => ?_)
              refine tm_iload dX12_beside_213 2 rfl ?_
              refine tm_iconst dX12_beside_215 ?_
              refine tm_isub dX12_beside_216 ?_
              refine tm_goto (tgt := 221) dX12_beside_217 (by decide) ?_
              refine tm_iast (z := 2) (v := s914 - 1) dX12_beside_221 (show mT[54]? = some (86, 0, 3) from rfl) (by omega) (by omega) (by decide) ?_
              refine tm_iload dX12_beside_222 0 rfl ?_
              refine tm_if_eq (tgt := 232) dX12_beside_224 (by decide) ⟨by decide, by decide⟩ (fun h => absurd h (by decide)) (fun _ => ?_)
              refine tm_iload dX12_beside_227 4 rfl ?_
              refine tm_goto (tgt := 237) dX12_beside_229 (by decide) ?_
              exact tm_iret rfl dX12_beside_237 (hret _ _ ((((Fr.rfl.trans (Fr.sub hF (by decide) (by decide) (by decide))).trans (Fr.sub F4 (by decide) (by decide) (by decide))).trans (Fr.sub F21 (by decide) (by decide) (by decide))).A (by decide)) (R22.A (by omega)) (hl.fr (show Fr [] [73, 75, 76, 77, 78, 79, 80, 81, 82, 86] [] σ (sA 86 (2) (s914 - 1) σ30) from (((Fr.rfl.trans (Fr.sub F4 (by decide) (by decide) (by decide))).trans (Fr.sub F21 (by decide) (by decide) (by decide))).A (by decide))) (by decide)) (hbo.fr (show Fr [] [73, 75, 76, 77, 78, 79, 80, 81, 82, 86] [] σ (sA 86 (2) (s914 - 1) σ30) from (((Fr.rfl.trans (Fr.sub F4 (by decide) (by decide) (by decide))).trans (Fr.sub F21 (by decide) (by decide) (by decide))).A (by decide))) (by decide)) (hbh.fr (show Fr [] [73, 75, 76, 77, 78, 79, 80, 81, 82, 86] [] σ (sA 86 (2) (s914 - 1) σ30) from (((Fr.rfl.trans (Fr.sub F4 (by decide) (by decide) (by decide))).trans (Fr.sub F21 (by decide) (by decide) (by decide))).A (by decide))) (by decide)) (hss.fr (show Fr [] [73, 75, 76, 77, 78, 79, 80, 81, 82, 86] [] σ (sA 86 (2) (s914 - 1) σ30) from (((Fr.rfl.trans (Fr.sub F4 (by decide) (by decide) (by decide))).trans (Fr.sub F21 (by decide) (by decide) (by decide))).A (by decide))) (by decide)) (hsc.fr (show Fr [] [73, 75, 76, 77, 78, 79, 80, 81, 82, 86] [] σ (sA 86 (2) (s914 - 1) σ30) from (((Fr.rfl.trans (Fr.sub F4 (by decide) (by decide) (by decide))).trans (Fr.sub F21 (by decide) (by decide) (by decide))).A (by decide))) (by decide)) (hxb.trans (X0.of (show Fr [] [86] [] σ30 (sA 86 (2) (s914 - 1) σ30) from (Fr.rfl.A (by decide))) (by decide))) (hmb.trans (RQM.of (show Fr [] [86] [] σ30 (sA 86 (2) (s914 - 1) σ30) from (Fr.rfl.A (by decide))) (by decide) (by decide))) (BEX9.b hbr hF ha6 (by omega) hb5_ (by omega) (by first | exact Or.inr (Or.inl ⟨by omega, by omega, Or.inl ⟨by have e9 : v50 = 1 := (by omega); have z9 := f52; rw [e9] at z9; exact z9, by omega, by omega⟩⟩) | exact Or.inr (Or.inl ⟨by omega, by omega, Or.inr ⟨Or.inl (by have e9 : v50 = 0 := (by omega); have z9 := f52; rw [e9] at z9; exact z9), by omega⟩⟩) | exact Or.inr (Or.inl ⟨by omega, by omega, Or.inr ⟨Or.inr ⟨by omega, by omega⟩, by omega⟩⟩))))
            · refine tm_aload_n dX12_beside_181 rfl 4 rfl ?_
              refine tm_get (k := 75) (v := .ref (b + 1 + 46)) lay_12 dX12_beside_182 (by decide) fl12_158 rfl ?_
              refine tm_iconst dX12_beside_185 ?_
              refine tm_iald (z := 1) (v := σ30.2.1 75 1) dX12_beside_186 (show mT[46]? = some (75, 0, 3) from rfl) (by omega) (by omega) (by decide) (rfl) ?_
              have g59 := RG.a R22 75 (1)
              refine tm_aload_n dX12_beside_187 rfl 4 rfl ?_
              refine tm_get (k := 75) (v := .ref (b + 1 + 46)) lay_12 dX12_beside_188 (by decide) fl12_158 rfl ?_
              refine tm_iconst dX12_beside_191 ?_
              refine tm_iald (z := 2) (v := σ30.2.1 75 2) dX12_beside_192 (show mT[46]? = some (75, 0, 3) from rfl) (by omega) (by omega) (by decide) (rfl) ?_
              have g60 := RG.a R22 75 (2)
              refine tm_icmp_ne (tgt := 200) dX12_beside_193 (by decide) ⟨by omega, by omega⟩ ⟨by omega, by omega⟩ (fun h61 => ?_) (fun h61 => ?_)
              · refine tm_iconst dX12_beside_200 ?_
                refine tm_istore (L' := [(11, .int (iI 0)), (10, .int (iI s1029)), (9, .int (iI s914)), (8, .int (iI lf15)), (7, .int (iI cnt)), (0, .ref b)]) dX12_beside_201 (by decide) rfl ?_
                refine tm_aload_n dX12_beside_203 rfl 5 rfl ?_
                refine tm_get (k := 86) (v := .ref (b + 1 + 54)) lay_12 dX12_beside_204 (by decide) fl12_182 rfl ?_
                refine tm_iconst dX12_beside_207 ?_
                refine tm_iload dX12_beside_208 0 rfl ?_
                refine tm_if_eq (tgt := 220) dX12_beside_210 (by decide) ⟨by decide, by decide⟩ (fun _ => ?_) (fun h => absurd h (by decide))
                refine tm_iconst dX12_beside_220 ?_
                refine tm_iast (z := 2) (v := 0) dX12_beside_221 (show mT[54]? = some (86, 0, 3) from rfl) (by omega) (by omega) (by decide) ?_
                refine tm_iload dX12_beside_222 0 rfl ?_
                refine tm_if_eq (tgt := 232) dX12_beside_224 (by decide) ⟨by decide, by decide⟩ (fun _ => ?_) (fun h => absurd h (by decide))
                refine tm_bipush dX12_beside_232 (by decide) ?_
                refine tm_iload dX12_beside_234 4 rfl ?_
                refine tm_isub dX12_beside_236 ?_
                exact tm_iret rfl dX12_beside_237 (hret _ _ ((((Fr.rfl.trans (Fr.sub hF (by decide) (by decide) (by decide))).trans (Fr.sub F4 (by decide) (by decide) (by decide))).trans (Fr.sub F21 (by decide) (by decide) (by decide))).A (by decide)) (R22.A (by omega)) (hl.fr (show Fr [] [73, 75, 76, 77, 78, 79, 80, 81, 82, 86] [] σ (sA 86 (2) (0) σ30) from (((Fr.rfl.trans (Fr.sub F4 (by decide) (by decide) (by decide))).trans (Fr.sub F21 (by decide) (by decide) (by decide))).A (by decide))) (by decide)) (hbo.fr (show Fr [] [73, 75, 76, 77, 78, 79, 80, 81, 82, 86] [] σ (sA 86 (2) (0) σ30) from (((Fr.rfl.trans (Fr.sub F4 (by decide) (by decide) (by decide))).trans (Fr.sub F21 (by decide) (by decide) (by decide))).A (by decide))) (by decide)) (hbh.fr (show Fr [] [73, 75, 76, 77, 78, 79, 80, 81, 82, 86] [] σ (sA 86 (2) (0) σ30) from (((Fr.rfl.trans (Fr.sub F4 (by decide) (by decide) (by decide))).trans (Fr.sub F21 (by decide) (by decide) (by decide))).A (by decide))) (by decide)) (hss.fr (show Fr [] [73, 75, 76, 77, 78, 79, 80, 81, 82, 86] [] σ (sA 86 (2) (0) σ30) from (((Fr.rfl.trans (Fr.sub F4 (by decide) (by decide) (by decide))).trans (Fr.sub F21 (by decide) (by decide) (by decide))).A (by decide))) (by decide)) (hsc.fr (show Fr [] [73, 75, 76, 77, 78, 79, 80, 81, 82, 86] [] σ (sA 86 (2) (0) σ30) from (((Fr.rfl.trans (Fr.sub F4 (by decide) (by decide) (by decide))).trans (Fr.sub F21 (by decide) (by decide) (by decide))).A (by decide))) (by decide)) (hxb.trans (X0.of (show Fr [] [86] [] σ30 (sA 86 (2) (0) σ30) from (Fr.rfl.A (by decide))) (by decide))) (hmb.trans (RQM.of (show Fr [] [86] [] σ30 (sA 86 (2) (0) σ30) from (Fr.rfl.A (by decide))) (by decide) (by decide))) (BEX9.b hbr hF ha6 (by omega) hb5_ (by omega) (by first | exact Or.inr (Or.inl ⟨by omega, by omega, Or.inl ⟨by have e9 : v50 = 1 := (by omega); have z9 := f52; rw [e9] at z9; exact z9, by omega, by omega⟩⟩) | exact Or.inr (Or.inl ⟨by omega, by omega, Or.inr ⟨Or.inl (by have e9 : v50 = 0 := (by omega); have z9 := f52; rw [e9] at z9; exact z9), by omega⟩⟩) | exact Or.inr (Or.inl ⟨by omega, by omega, Or.inr ⟨Or.inr ⟨by omega, by omega⟩, by omega⟩⟩))))
              · refine tm_iconst dX12_beside_196 ?_
                refine tm_goto (tgt := 201) dX12_beside_197 (by decide) ?_
                refine tm_istore (L' := [(11, .int (iI 1)), (10, .int (iI s1029)), (9, .int (iI s914)), (8, .int (iI lf15)), (7, .int (iI cnt)), (0, .ref b)]) dX12_beside_201 (by decide) rfl ?_
                refine tm_aload_n dX12_beside_203 rfl 5 rfl ?_
                refine tm_get (k := 86) (v := .ref (b + 1 + 54)) lay_12 dX12_beside_204 (by decide) fl12_182 rfl ?_
                refine tm_iconst dX12_beside_207 ?_
                refine tm_iload dX12_beside_208 0 rfl ?_
                refine tm_if_eq (tgt := 220) dX12_beside_210 (by decide) ⟨by decide, by decide⟩ (fun h => absurd h (by decide)) (fun _ => ?_)
                refine tm_iload dX12_beside_213 2 rfl ?_
                refine tm_iconst dX12_beside_215 ?_
                refine tm_isub dX12_beside_216 ?_
                refine tm_goto (tgt := 221) dX12_beside_217 (by decide) ?_
                refine tm_iast (z := 2) (v := s914 - 1) dX12_beside_221 (show mT[54]? = some (86, 0, 3) from rfl) (by omega) (by omega) (by decide) ?_
                refine tm_iload dX12_beside_222 0 rfl ?_
                refine tm_if_eq (tgt := 232) dX12_beside_224 (by decide) ⟨by decide, by decide⟩ (fun h => absurd h (by decide)) (fun _ => ?_)
                refine tm_iload dX12_beside_227 4 rfl ?_
                refine tm_goto (tgt := 237) dX12_beside_229 (by decide) ?_
                exact tm_iret rfl dX12_beside_237 (hret _ _ ((((Fr.rfl.trans (Fr.sub hF (by decide) (by decide) (by decide))).trans (Fr.sub F4 (by decide) (by decide) (by decide))).trans (Fr.sub F21 (by decide) (by decide) (by decide))).A (by decide)) (R22.A (by omega)) (hl.fr (show Fr [] [73, 75, 76, 77, 78, 79, 80, 81, 82, 86] [] σ (sA 86 (2) (s914 - 1) σ30) from (((Fr.rfl.trans (Fr.sub F4 (by decide) (by decide) (by decide))).trans (Fr.sub F21 (by decide) (by decide) (by decide))).A (by decide))) (by decide)) (hbo.fr (show Fr [] [73, 75, 76, 77, 78, 79, 80, 81, 82, 86] [] σ (sA 86 (2) (s914 - 1) σ30) from (((Fr.rfl.trans (Fr.sub F4 (by decide) (by decide) (by decide))).trans (Fr.sub F21 (by decide) (by decide) (by decide))).A (by decide))) (by decide)) (hbh.fr (show Fr [] [73, 75, 76, 77, 78, 79, 80, 81, 82, 86] [] σ (sA 86 (2) (s914 - 1) σ30) from (((Fr.rfl.trans (Fr.sub F4 (by decide) (by decide) (by decide))).trans (Fr.sub F21 (by decide) (by decide) (by decide))).A (by decide))) (by decide)) (hss.fr (show Fr [] [73, 75, 76, 77, 78, 79, 80, 81, 82, 86] [] σ (sA 86 (2) (s914 - 1) σ30) from (((Fr.rfl.trans (Fr.sub F4 (by decide) (by decide) (by decide))).trans (Fr.sub F21 (by decide) (by decide) (by decide))).A (by decide))) (by decide)) (hsc.fr (show Fr [] [73, 75, 76, 77, 78, 79, 80, 81, 82, 86] [] σ (sA 86 (2) (s914 - 1) σ30) from (((Fr.rfl.trans (Fr.sub F4 (by decide) (by decide) (by decide))).trans (Fr.sub F21 (by decide) (by decide) (by decide))).A (by decide))) (by decide)) (hxb.trans (X0.of (show Fr [] [86] [] σ30 (sA 86 (2) (s914 - 1) σ30) from (Fr.rfl.A (by decide))) (by decide))) (hmb.trans (RQM.of (show Fr [] [86] [] σ30 (sA 86 (2) (s914 - 1) σ30) from (Fr.rfl.A (by decide))) (by decide) (by decide))) (BEX9.b hbr hF ha6 (by omega) hb5_ (by omega) (by first | exact Or.inr (Or.inl ⟨by omega, by omega, Or.inl ⟨by have e9 : v50 = 1 := (by omega); have z9 := f52; rw [e9] at z9; exact z9, by omega, by omega⟩⟩) | exact Or.inr (Or.inl ⟨by omega, by omega, Or.inr ⟨Or.inl (by have e9 : v50 = 0 := (by omega); have z9 := f52; rw [e9] at z9; exact z9), by omega⟩⟩) | exact Or.inr (Or.inl ⟨by omega, by omega, Or.inr ⟨Or.inr ⟨by omega, by omega⟩, by omega⟩⟩))))
      · refine tm_bipush dX12_beside_156 (by decide) ?_
        refine tm_iload dX12_beside_158 3 rfl ?_
        refine tm_isub dX12_beside_160 ?_
        exact tm_iret rfl dX12_beside_161 (hret _ _ (((Fr.rfl.trans (Fr.sub hF (by decide) (by decide) (by decide))).trans (Fr.sub F4 (by decide) (by decide) (by decide))).trans (Fr.sub F21 (by decide) (by decide) (by decide))) R22 (hl.fr (show Fr [] [73, 75, 76, 77, 78, 79, 80, 81, 82] [] σ σ30 from ((Fr.rfl.trans (Fr.sub F4 (by decide) (by decide) (by decide))).trans (Fr.sub F21 (by decide) (by decide) (by decide)))) (by decide)) (hbo.fr (show Fr [] [73, 75, 76, 77, 78, 79, 80, 81, 82] [] σ σ30 from ((Fr.rfl.trans (Fr.sub F4 (by decide) (by decide) (by decide))).trans (Fr.sub F21 (by decide) (by decide) (by decide)))) (by decide)) (hbh.fr (show Fr [] [73, 75, 76, 77, 78, 79, 80, 81, 82] [] σ σ30 from ((Fr.rfl.trans (Fr.sub F4 (by decide) (by decide) (by decide))).trans (Fr.sub F21 (by decide) (by decide) (by decide)))) (by decide)) (hss.fr (show Fr [] [73, 75, 76, 77, 78, 79, 80, 81, 82] [] σ σ30 from ((Fr.rfl.trans (Fr.sub F4 (by decide) (by decide) (by decide))).trans (Fr.sub F21 (by decide) (by decide) (by decide)))) (by decide)) (hsc.fr (show Fr [] [73, 75, 76, 77, 78, 79, 80, 81, 82] [] σ σ30 from ((Fr.rfl.trans (Fr.sub F4 (by decide) (by decide) (by decide))).trans (Fr.sub F21 (by decide) (by decide) (by decide)))) (by decide)) hxb hmb (BEX9.b hbr hF ha6 (by omega) hb5_ (by omega) (Or.inl ⟨by omega, by omega⟩)))
    · refine tm_iload dX12_beside_128 2 rfl ?_
      exact tm_iret rfl dX12_beside_130 (hret _ _ ((Fr.rfl.trans (Fr.sub hF (by decide) (by decide) (by decide))).trans (Fr.sub F4 (by decide) (by decide) (by decide))) R5 (hl.fr (show Fr [] [73, 75, 76, 77, 78, 79, 80, 81, 82] [] σ σ16 from (Fr.rfl.trans (Fr.sub F4 (by decide) (by decide) (by decide)))) (by decide)) (hbo.fr (show Fr [] [73, 75, 76, 77, 78, 79, 80, 81, 82] [] σ σ16 from (Fr.rfl.trans (Fr.sub F4 (by decide) (by decide) (by decide)))) (by decide)) (hbh.fr (show Fr [] [73, 75, 76, 77, 78, 79, 80, 81, 82] [] σ σ16 from (Fr.rfl.trans (Fr.sub F4 (by decide) (by decide) (by decide)))) (by decide)) (hss.fr (show Fr [] [73, 75, 76, 77, 78, 79, 80, 81, 82] [] σ σ16 from (Fr.rfl.trans (Fr.sub F4 (by decide) (by decide) (by decide)))) (by decide)) (hsc.fr (show Fr [] [73, 75, 76, 77, 78, 79, 80, 81, 82] [] σ σ16 from (Fr.rfl.trans (Fr.sub F4 (by decide) (by decide) (by decide)))) (by decide)) hxa hma (BEX9.a hbr hF ha6 (by omega) (by omega) (by omega) (by omega)))
set_option maxHeartbeats 2000000 in
set_option maxRecDepth 20000 in
theorem g_X12_beside (d : Nat) {b : Nat} {σ : MS} {x : Int} {a1 : Int} {a2 : Int} {a3 : Int} {a4 : Int} {ln : Int} (hR : RG σ) (hit : ITM σ) (hpar : PAR σ) (hnam : NAM σ) (hgd : GDA σ) (hl : LAB σ) (hbo : BO 47 σ) (hbh : BO 48 σ) (hss : SSA σ) (hsc : SCH σ) (hpl : PLA σ) (hgw : ∀ r, 0 ≤ r → r < σ.1 10 → WHB9 (rV σ r) (σ.2.1 9 r)) (h_x : -2147483648 ≤ x ∧ x ≤ 2147483647) (h_a1 : -2147483648 ≤ a1 ∧ a1 ≤ 2147483647) (h_a2 : -2147483648 ≤ a2 ∧ a2 ≤ 2147483647) (h_a3 : -2147483648 ≤ a3 ∧ a3 ≤ 2147483647) (h_a4 : -2147483648 ≤ a4 ∧ a4 ≤ 2147483647) (h_ln : -2147483648 ≤ ln ∧ ln ≤ 2147483647) : Tm (d + 9) m_X12_beside 0 b σ [(0, .ref b), (1, .int (iI x)), (2, .int (iI a1)), (3, .int (iI a2)), (4, .int (iI a3)), (5, .int (iI a4)), (6, .int (iI ln))] [] (fun ro σ2 => ∃ v : Int, ro = some (.int (iI v)) ∧ (Fr [0, 83, 84, 85] [46, 47, 48, 49, 50, 51, 52, 53, 54, 55, 56, 57, 58, 73, 74, 75, 76, 77, 78, 79, 80, 81, 82, 86] [] σ σ2) ∧ (RG σ2) ∧ (LAB σ2) ∧ (BO 47 σ2) ∧ (BO 48 σ2) ∧ (SSA σ2) ∧ (SCH σ2) ∧ (X0 0 σ σ2) ∧ (RQM σ σ2) ∧ (RBS9 σ x a1 a2 a3 a4 ln v)) := by
  have e10 : (sS 0 0 σ).1 10 = σ.1 10 := rfl
  refine tm_aload_n dX12_beside_0 rfl 0 rfl ?_
  refine tm_iconst dX12_beside_1 ?_
  refine tm_putS (k := 0) (v := 0) lay_12 dX12_beside_2 (by decide) fl12_185 rfl (tyX12_ok 0 (by decide)) rfl rfl rfl ?_
  refine tm_aload_n dX12_beside_5 rfl 0 rfl ?_
  refine tm_iload_n dX12_beside_6 rfl 1 rfl ?_
  refine tm_callV (M := m_X12_beside) (pc := 7) (ix := 404) (M' := m_X12_isRoutine) (As := [.int (iI x)]) (rest := []) dX12_beside_7 ok_X12_isRoutine im_X12_isRoutine se_X12_isRoutine ml12_404 np_X12_isRoutine rfl rfl (Nat.le_of_ble_eq_true rfl) (Nat.le_of_ble_eq_true rfl) rfl (c_X12_isRoutine (d + 6) (σ := (sS 0 0 σ)) (x := x) (hR.S (by omega)) hgd.1 (by omega)) (fun r1 σ2 hp => ?_)
  obtain ⟨v3, rfl, rfl, f4, f5⟩ := hp
  show Tm _ _ 10 b (sS 0 0 σ) [(0, .ref b), (1, .int (iI x)), (2, .int (iI a1)), (3, .int (iI a2)), (4, .int (iI a3)), (5, .int (iI a4)), (6, .int (iI ln))] [.int (iI v3)] _
  refine tm_if_eq (tgt := 25) dX12_beside_10 (by decide) ⟨by omega, by omega⟩ (fun h6 => ?_) (fun h6 => ?_)
  · refine tm_iconst dX12_beside_25 ?_
    exact tm_iret rfl dX12_beside_26 (⟨_, rfl, (Fr.rfl.S (by decide)), (hR.S (by omega)), hl.fr (show Fr [0] [] [] σ (sS 0 0 σ) from (Fr.rfl.S (by decide))) (by decide), hbo.fr (show Fr [0] [] [] σ (sS 0 0 σ) from (Fr.rfl.S (by decide))) (by decide), hbh.fr (show Fr [0] [] [] σ (sS 0 0 σ) from (Fr.rfl.S (by decide))) (by decide), hss.fr (show Fr [0] [] [] σ (sS 0 0 σ) from (Fr.rfl.S (by decide))) (by decide), hsc.fr (show Fr [0] [] [] σ (sS 0 0 σ) from (Fr.rfl.S (by decide))) (by decide), X0.of (show Fr [0] [] [] σ (sS 0 0 σ) from (Fr.rfl.S (by decide))) (by decide), RQM.of (show Fr [0] [] [] σ (sS 0 0 σ) from (Fr.rfl.S (by decide))) (by decide) (by decide), Or.inl ⟨by omega, rfl⟩⟩)
  · refine tm_iload dX12_beside_13 6 rfl ?_
    refine tm_iconst dX12_beside_15 ?_
    refine tm_sipush dX12_beside_16 (by decide) ?_
    refine tm_callS (M := m_X12_beside) (pc := 19) (ix := 188) (M' := m_X12_in) (As := [.int (iI ln), .int (iI 1), .int (iI 20000)]) (rest := []) dX12_beside_19 ok_X12_in stt_X12_in ml12_188 np_X12_in rfl (Nat.le_of_ble_eq_true rfl) (Nat.le_of_ble_eq_true rfl) rfl (c_X12_in (d + 7) (σ := (sS 0 0 σ)) (x := ln) (lo := 1) (hi := 20000) (by omega) (by omega) (by omega)) (fun r7 σ8 hp => ?_)
    obtain ⟨v9, rfl, rfl, f10, f11⟩ := hp
    show Tm _ _ 22 b (sS 0 0 σ) [(0, .ref b), (1, .int (iI x)), (2, .int (iI a1)), (3, .int (iI a2)), (4, .int (iI a3)), (5, .int (iI a4)), (6, .int (iI ln))] [.int (iI v9)] _
    refine tm_if_ne (tgt := 27) dX12_beside_22 (by decide) ⟨by omega, by omega⟩ (fun h12 => ?_) (fun h12 => ?_)
    · refine tm_aload_n dX12_beside_27 rfl 0 rfl ?_
      refine tm_iconst dX12_beside_28 ?_
      refine tm_putS (k := 85) (v := 1) lay_12 dX12_beside_29 (by decide) fl12_596 rfl (tyX12_ok 85 (by decide)) rfl rfl rfl ?_
      refine tm_aload_n dX12_beside_32 rfl 0 rfl ?_
      refine tm_get (k := 86) (v := .ref (b + 1 + 54)) lay_12 dX12_beside_33 (by decide) fl12_182 rfl ?_
      refine tm_iconst dX12_beside_36 ?_
      refine tm_iconst dX12_beside_37 ?_
      refine tm_iast (z := 0) (v := 0) dX12_beside_38 (show mT[54]? = some (86, 0, 3) from rfl) (by omega) (by omega) (by decide) ?_
      refine tm_aload_n dX12_beside_39 rfl 0 rfl ?_
      refine tm_get (k := 86) (v := .ref (b + 1 + 54)) lay_12 dX12_beside_40 (by decide) fl12_182 rfl ?_
      refine tm_iconst dX12_beside_43 ?_
      refine tm_iconst dX12_beside_44 ?_
      refine tm_iast (z := 1) (v := 0) dX12_beside_45 (show mT[54]? = some (86, 0, 3) from rfl) (by omega) (by omega) (by decide) ?_
      refine tm_aload_n dX12_beside_46 rfl 0 rfl ?_
      refine tm_get (k := 86) (v := .ref (b + 1 + 54)) lay_12 dX12_beside_47 (by decide) fl12_182 rfl ?_
      refine tm_iconst dX12_beside_50 ?_
      refine tm_iconst dX12_beside_51 ?_
      refine tm_iast (z := 2) (v := 0) dX12_beside_52 (show mT[54]? = some (86, 0, 3) from rfl) (by omega) (by omega) (by decide) ?_
      have gr := hgd.2 x (by omega) (by omega)
      have h16 := hgd.1
      have hf0 := gr.2.2.2.1
      unfold FR0 at hf0
      have hpmx := hpar x (by omega) (by omega)
      have hnn : ∀ n, 0 ≤ n → n < σ.2.1 11 x → 0 ≤ σ.2.1 18 (144 * x + n) ∧ σ.2.1 18 (144 * x + n) < 192 := fun n a c => by have h := (gr.2.1.2 0 (by omega) (by have := gr.2.1.1; omega)).2 n a (by rw [hf0]; have := gr.2.2.2.2.2.2.2.2; omega); rw [Int.mul_zero, Int.add_zero] at h; exact h
      have f5 := (show Fr [0, 85] [86] [] σ (sA 86 (2) (0) (sA 86 (1) (0) (sA 86 (0) (0) (sS 85 1 (sS 0 0 σ))))) from (((((Fr.rfl.S (by decide)).S (by decide)).A (by decide)).A (by decide)).A (by decide)))
      have hx5 : X0 0 σ (sA 86 (2) (0) (sA 86 (1) (0) (sA 86 (0) (0) (sS 85 1 (sS 0 0 σ))))) := X0.of f5 (by decide)
      have hm5 : RQM σ (sA 86 (2) (0) (sA 86 (1) (0) (sA 86 (0) (0) (sS 85 1 (sS 0 0 σ))))) := RQM.of f5 (by decide) (by decide)
      refine tm_aload_n dX12_beside_53 rfl 0 rfl ?_
      refine tm_iconst dX12_beside_54 ?_
      refine tm_iload_n dX12_beside_55 rfl 1 rfl ?_
      refine tm_iload_n dX12_beside_56 rfl 2 rfl ?_
      refine tm_iload_n dX12_beside_57 rfl 3 rfl ?_
      refine tm_iload dX12_beside_58 4 rfl ?_
      refine tm_iload dX12_beside_60 5 rfl ?_
      refine tm_callV (M := m_X12_beside) (pc := 62) (ix := 557) (M' := m_X12_startMachine) (As := [.int (iI 1), .int (iI x), .int (iI a1), .int (iI a2), .int (iI a3), .int (iI a4)]) (rest := []) dX12_beside_62 ok_X12_startMachine im_X12_startMachine se_X12_startMachine ml12_557 np_X12_startMachine rfl rfl (Nat.le_of_ble_eq_true rfl) (Nat.le_of_ble_eq_true rfl) rfl (f_X12_startMachine (d + 6) (σ := (sA 86 (2) (0) (sA 86 (1) (0) (sA 86 (0) (0) (sS 85 1 (sS 0 0 σ)))))) (m := 1) (x := x) (a1 := a1) (a2 := a2) (a3 := a3) (a4 := a4) (by decide) (by omega) (((((hR.S (by omega)).S (by omega)).A (by omega)).A (by omega)).A (by omega)) (by rw [(show Fr [0, 85] [86] [] σ (sA 86 (2) (0) (sA 86 (1) (0) (sA 86 (0) (0) (sS 85 1 (sS 0 0 σ))))) from (((((Fr.rfl.S (by decide)).S (by decide)).A (by decide)).A (by decide)).A (by decide))).2.1 11 (by decide)]; exact hpmx) (by rw [(show Fr [0, 85] [86] [] σ (sA 86 (2) (0) (sA 86 (1) (0) (sA 86 (0) (0) (sS 85 1 (sS 0 0 σ))))) from (((((Fr.rfl.S (by decide)).S (by decide)).A (by decide)).A (by decide)).A (by decide))).2.1 11 (by decide), (show Fr [0, 85] [86] [] σ (sA 86 (2) (0) (sA 86 (1) (0) (sA 86 (0) (0) (sS 85 1 (sS 0 0 σ))))) from (((((Fr.rfl.S (by decide)).S (by decide)).A (by decide)).A (by decide)).A (by decide))).2.1 18 (by decide)]; exact hnn) (by omega) (by omega) (by omega) (by omega)) (fun r13 σ14 hp => ?_)
      obtain ⟨rfl, f16, f17, f18, f19, f20, f21, f22⟩ := hp
      show Tm _ _ 65 b σ14 [(0, .ref b), (1, .int (iI x)), (2, .int (iI a1)), (3, .int (iI a2)), (4, .int (iI a3)), (5, .int (iI a4)), (6, .int (iI ln))] [] _
      have p2_ := f18
      have p3_ := f19
      have p4_ := f20
      have p5_ := f21
      have pm_ := RQM.sm f16 (p4_ 0 (by decide)) f22 (by decide)
      have g1 := (show Fr [0, 85] [73, 74, 75, 76, 78, 79, 80, 81, 82, 86] [] σ σ14 from ((((((Fr.rfl.S (by decide)).S (by decide)).A (by decide)).A (by decide)).A (by decide)).trans (Fr.sub f16 (by decide) (by decide) (by decide))))
      have hr1a : RUN σ14 1 := RUN.new (by rw [g1.1 10 (by decide)]; omega) (((hgd.fr g1 (by decide) (by decide)).bka (by decide)).2 x (by omega) (by rw [g1.1 10 (by decide)]; omega)) p2_ p3_
      have sm1_ : SMA9 _ 1 x a1 a2 a3 a4 σ14 := ⟨f16, f18, f19, f20, f21, f22⟩
      refine tm_aload_n dX12_beside_65 rfl 0 rfl ?_
      refine tm_iconst dX12_beside_66 ?_
      refine tm_iload_n dX12_beside_67 rfl 1 rfl ?_
      refine tm_iload_n dX12_beside_68 rfl 2 rfl ?_
      refine tm_iload_n dX12_beside_69 rfl 3 rfl ?_
      refine tm_iload dX12_beside_70 4 rfl ?_
      refine tm_iload dX12_beside_72 5 rfl ?_
      refine tm_callV (M := m_X12_beside) (pc := 74) (ix := 557) (M' := m_X12_startMachine) (As := [.int (iI 2), .int (iI x), .int (iI a1), .int (iI a2), .int (iI a3), .int (iI a4)]) (rest := []) dX12_beside_74 ok_X12_startMachine im_X12_startMachine se_X12_startMachine ml12_557 np_X12_startMachine rfl rfl (Nat.le_of_ble_eq_true rfl) (Nat.le_of_ble_eq_true rfl) rfl (f_X12_startMachine (d + 6) (σ := σ14) (m := 2) (x := x) (a1 := a1) (a2 := a2) (a3 := a3) (a4 := a4) (by decide) (by omega) f17 (by rw [(show Fr [0, 85] [73, 74, 75, 76, 78, 79, 80, 81, 82, 86] [] σ σ14 from ((((((Fr.rfl.S (by decide)).S (by decide)).A (by decide)).A (by decide)).A (by decide)).trans (Fr.sub f16 (by decide) (by decide) (by decide)))).2.1 11 (by decide)]; exact hpmx) (by rw [(show Fr [0, 85] [73, 74, 75, 76, 78, 79, 80, 81, 82, 86] [] σ σ14 from ((((((Fr.rfl.S (by decide)).S (by decide)).A (by decide)).A (by decide)).A (by decide)).trans (Fr.sub f16 (by decide) (by decide) (by decide)))).2.1 11 (by decide), (show Fr [0, 85] [73, 74, 75, 76, 78, 79, 80, 81, 82, 86] [] σ σ14 from ((((((Fr.rfl.S (by decide)).S (by decide)).A (by decide)).A (by decide)).A (by decide)).trans (Fr.sub f16 (by decide) (by decide) (by decide)))).2.1 18 (by decide)]; exact hnn) (by omega) (by omega) (by omega) (by omega)) (fun r23 σ24 hp => ?_)
      obtain ⟨rfl, f26, f27, f28, f29, f30, f31, f32⟩ := hp
      show Tm _ _ 77 b σ24 [(0, .ref b), (1, .int (iI x)), (2, .int (iI a1)), (3, .int (iI a2)), (4, .int (iI a3)), (5, .int (iI a4)), (6, .int (iI ln))] [] _
      have q2_ := f28
      have q3_ := f29
      have q4_ := f30
      have q5_ := f31
      have qm_ := RQM.sm f26 (q4_ 0 (by decide)) f32 (by decide)
      have hm7 := hm5.trans (pm_.trans qm_)
      have g2 := (show Fr [0, 85] [73, 74, 75, 76, 78, 79, 80, 81, 82, 86] [] σ σ24 from (((((((Fr.rfl.S (by decide)).S (by decide)).A (by decide)).A (by decide)).A (by decide)).trans (Fr.sub f16 (by decide) (by decide) (by decide))).trans (Fr.sub f26 (by decide) (by decide) (by decide))))
      have hr2a : RUN σ24 2 := RUN.new (by rw [g2.1 10 (by decide)]; omega) (((hpl.fr g2 (by decide) (by decide)).1).2 x (by omega) (by rw [g2.1 10 (by decide)]; omega)) q2_ q3_
      have hr1b := hr1a.x0 (q4_ 1 (by decide)) f26 (by decide) (by decide)
      have hp1a : σ24.2.1 76 1 = 0 := (q4_ 1 (by decide)).1.2.trans p5_
      have hx7 := hx5.trans ((p4_ 0 (by decide)).trans (q4_ 0 (by decide)))
      have h860 : σ24.2.1 86 0 = 0 := ra_F f26 (by decide) (ra_F f16 (by decide) (ra_ne (by omega) (ra_ne (by omega) (ra_eq))))
      have h861 : σ24.2.1 86 1 = 0 := ra_F f26 (by decide) (ra_F f16 (by decide) (ra_ne (by omega) (ra_eq)))
      have sm2_ : SMA9 _ 2 x a1 a2 a3 a4 σ24 := ⟨f26, f28, f29, f30, f31, f32⟩
      refine tm_iconst dX12_beside_77 ?_
      refine tm_istore (L' := [(7, .int (iI 0)), (0, .ref b), (1, .int (iI x)), (2, .int (iI a1)), (3, .int (iI a2)), (4, .int (iI a3)), (5, .int (iI a4)), (6, .int (iI ln))]) dX12_beside_78 (by decide) rfl ?_
      refine tm_iload dX12_beside_80 7 rfl ?_
      refine tm_istore (L' := [(8, .int (iI ln)), (7, .int (iI 0)), (0, .ref b), (1, .int (iI x)), (2, .int (iI a1)), (3, .int (iI a2)), (4, .int (iI a3)), (5, .int (iI a4)), (6, .int (iI ln))]) dX12_beside_82 (by decide) rfl ?_
      refine tm_sub [0, 1, 2] rfl (g_bes0 (d) (σ0 := σ24) (L0 := ln) f27 (hit.fr g2 (by decide)) (hpar.fr g2 (by decide)) (hnam.fr g2 (by decide)) (hgd.fr g2 (by decide) (by decide)) (hpl.fr g2 (by decide) (by decide)) (whb_fr g2 (by decide) (by decide) hgw) (fun v τ hF2 hR2 z1 z2 z3 z4 z5 hx2 hm2 hb9 => ⟨_, rfl, (Fr.sub g2 (by decide) (by decide) (by decide) : Fr [0, 83, 84, 85] [46, 47, 48, 49, 50, 51, 52, 53, 54, 55, 56, 57, 58, 73, 74, 75, 76, 77, 78, 79, 80, 81, 82, 86] [] σ σ24).trans (Fr.sub hF2 (by decide) (by decide) (by decide)), hR2, z1, z2, z3, z4, z5, hx7.trans hx2, hm7.trans hm2, Or.inr ⟨⟨by omega, by omega⟩, _, _, _, f5, sm1_, sm2_, hb9⟩⟩) _ (0) (ln) σ24 Fr.rfl f27 (by omega) (hl.fr g2 (by decide)) (hbo.fr g2 (by decide)) (hbh.fr g2 (by decide)) (hss.fr g2 (by decide)) (hsc.fr g2 (by decide)) hr1b hr2a X0.rfl (by omega) (by omega) (by omega) RQM.rfl BRX9.z rfl)
    · refine tm_iconst dX12_beside_25 ?_
      exact tm_iret rfl dX12_beside_26 (⟨_, rfl, (Fr.rfl.S (by decide)), (hR.S (by omega)), hl.fr (show Fr [0] [] [] σ (sS 0 0 σ) from (Fr.rfl.S (by decide))) (by decide), hbo.fr (show Fr [0] [] [] σ (sS 0 0 σ) from (Fr.rfl.S (by decide))) (by decide), hbh.fr (show Fr [0] [] [] σ (sS 0 0 σ) from (Fr.rfl.S (by decide))) (by decide), hss.fr (show Fr [0] [] [] σ (sS 0 0 σ) from (Fr.rfl.S (by decide))) (by decide), hsc.fr (show Fr [0] [] [] σ (sS 0 0 σ) from (Fr.rfl.S (by decide))) (by decide), X0.of (show Fr [0] [] [] σ (sS 0 0 σ) from (Fr.rfl.S (by decide))) (by decide), RQM.of (show Fr [0] [] [] σ (sS 0 0 σ) from (Fr.rfl.S (by decide))) (by decide) (by decide), Or.inl ⟨by omega, rfl⟩⟩)
end
