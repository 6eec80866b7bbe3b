set_option maxHeartbeats 4000000 in
set_option maxRecDepth 20000 in
theorem f_go (d : Nat) {b : Nat} {σ0 : MS} {w : Int} {nn : Int} {q : Int} {post : Option Value → MS → Prop} (hR0 : RG σ0) (hbka : BKA σ0 0) (hit : ITM σ0) (hpar : PAR σ0) (hn : 1 ≤ nn ∧ nn ≤ 20000) (hG : 0 ≤ σ0.1 70 ∧ σ0.1 70 ≤ 1000000000) (hP : 0 ≤ σ0.2.1 76 0 ∧ σ0.2.1 76 0 ≤ 900000000) (hq : 0 ≤ q ∧ q ≤ 117) (h_w : -2147483648 ≤ w ∧ w ≤ 2147483647) (hx_175 : ∀ (i : Int) (e : Int) (σ : MS) , (Fr [68, 69, 70] [73, 75, 76, 77, 78, 79, 80, 81, 82] [] σ0 σ) → (RG σ) → (∃ e, RCH w q nn.toNat σ0 e σ ∧ GWY σ0 σ) → (RUN σ 0) → (XM 0 σ0 σ) → (σ0.1 70 ≤ σ.1 70 ∧ σ.1 70 ≤ σ0.1 70 + 20000) → (σ0.2.1 76 0 ≤ σ.2.1 76 0 ∧ σ.2.1 76 0 ≤ σ0.2.1 76 0 + 20000) → Tm (d + 4) m_X12_go 175 b σ [(0, .ref b)] [] post) (hret : ∀ (v : Int) (τ : MS), Fr [68, 69, 70] [73, 75, 76, 77, 78, 79, 80, 81, 82] [] σ0 τ → RG τ → (τ.1 68 = 0 → RUN τ 0) → XM 0 σ0 τ → (σ0.1 70 ≤ τ.1 70 ∧ τ.1 70 ≤ σ0.1 70 + 20000) → (σ0.2.1 76 0 ≤ τ.2.1 76 0 ∧ τ.2.1 76 0 ≤ σ0.2.1 76 0 + 20000) → GOE w q nn σ0 v τ → post (some (.int (iI v))) τ) : ∀ (n : Nat) (i : Int) (e : Int) (σ : MS) , (Fr [68, 69, 70] [73, 75, 76, 77, 78, 79, 80, 81, 82] [] σ0 σ) → (RG σ) → (0 ≤ i ∧ i ≤ nn ∧ (e = 0 ∨ e = 1)) → (RUN σ 0) → (XM 0 σ0 σ) → (σ0.1 70 ≤ σ.1 70 ∧ σ.1 70 ≤ σ0.1 70 + i) → (σ0.2.1 76 0 ≤ σ.2.1 76 0 ∧ σ.2.1 76 0 ≤ σ0.2.1 76 0 + i) → (RCH w q i.toNat σ0 e σ) → (nn - i).toNat = n → Tm (d + 4) m_X12_go 64 b σ [(5, .int (iI i)), (4, .int (iI e)), (3, .int (iI q)), (0, .ref b), (1, .int (iI w)), (2, .int (iI nn))] [] post := by
  intro n
  induction n using Nat.strongRecOn with
  | _ n ih =>
    intro i e σ hF hR h0 hrun hx0 hg hp hch hm
    refine tm_iload dX12_go_64 0 rfl ?_
    refine tm_iload_n dX12_go_66 rfl 5 rfl ?_
    refine tm_icmp_ge (tgt := 175) dX12_go_67 (by decide) ⟨by omega, by omega⟩ ⟨by omega, by omega⟩ (fun h1 => ?_) (fun h1 => ?_)
    · exact tm_sub [3] rfl (hx_175 (0) (0) σ (Fr.rfl.trans (Fr.sub hF (by decide) (by decide) (by decide))) hR ⟨e, by rw [show nn = i by omega]; exact hch, hrun, hF, by omega, by omega, by omega⟩ hrun hx0 (by omega) (by omega))
    · refine tm_aload_n dX12_go_70 rfl 3 rfl ?_
      refine tm_iconst dX12_go_71 ?_
      refine tm_callV (M := m_X12_go) (pc := 72) (ix := 569) (M' := m_X12_step) (As := [.int (iI 0)]) (rest := []) dX12_go_72 ok_X12_step im_X12_step se_X12_step ml12_569 np_X12_step rfl rfl (Nat.le_of_ble_eq_true rfl) (Nat.le_of_ble_eq_true rfl) rfl (f_X12_step (d) (σ := σ) (m := 0) hR (by decide) hrun (hbka.fr hF (by decide) (by decide)) (hit.fr hF (by decide)) (hpar.fr hF (by decide)) (by omega)) (fun r2 σ3 hp => ?_)
      obtain ⟨v4, rfl, f5, f6, f7, f8, f9, f10, f11⟩ := hp
      show Tm _ _ 75 b σ3 [(5, .int (iI i)), (4, .int (iI e)), (3, .int (iI q)), (0, .ref b), (1, .int (iI w)), (2, .int (iI nn))] [.int (iI v4)] _
      have hrs : v4 ≠ 2 → RUN σ3 0 := fun q => by rcases f7 with ⟨a, e1⟩ | ⟨a, _⟩ | ⟨_, h⟩; rw [e1]; exact hrun; exact absurd a q; exact h
      have hxs := f8
      have hps := f9
      have hst9 := f11
      have hgw9 : GWY σ0 σ := ⟨hrun, hF, by omega, by omega, by omega⟩
      have h70 : σ3.1 70 = σ.1 70 := f5.1 70 (by decide)
      refine tm_istore (L' := [(6, .int (iI v4)), (5, .int (iI i)), (4, .int (iI e)), (3, .int (iI q)), (0, .ref b), (1, .int (iI w)), (2, .int (iI nn))]) dX12_go_75 (by decide) rfl ?_
      refine tm_iload dX12_go_77 0 rfl ?_
      refine tm_iconst dX12_go_79 ?_
      refine tm_icmp_ne (tgt := 90) dX12_go_80 (by decide) ⟨by omega, by omega⟩ ⟨by decide, by decide⟩ (fun h12 => ?_) (fun h12 => ?_)
      · refine tm_aload_n dX12_go_90 rfl 4 rfl ?_
        refine tm_dup dX12_go_91 rfl ?_
        refine tm_getS (k := 70) (t := σ.1 70) dX12_go_92 (by decide) fl12_566 rfl (rs_F f5 (by decide) (rfl)) ?_
        have g13 := RG.s hR 70
        refine tm_iconst dX12_go_95 ?_
        refine tm_iadd dX12_go_96 ?_
        refine tm_putS (k := 70) (v := (σ.1 70) + 1) lay_12 dX12_go_97 (by decide) fl12_566 rfl (tyX12_ok 70 (by decide)) rfl rfl rfl ?_
        refine tm_iload dX12_go_100 0 rfl ?_
        refine tm_iconst dX12_go_102 ?_
        refine tm_icmp_ne (tgt := 113) dX12_go_103 (by decide) ⟨by omega, by omega⟩ ⟨by decide, by decide⟩ (fun h14 => ?_) (fun h14 => ?_)
        · refine tm_aload_n dX12_go_113 rfl 4 rfl ?_
          have hrn := (hrs (by omega)).fr (show Fr [68, 69, 70] [] [] σ3 (sS 70 ((σ.1 70) + 1) σ3) from (Fr.rfl.S (by decide))) (by decide) (by decide)
          have hbk2 := hbka.fr (show Fr [68, 69, 70] [73, 75, 76, 77, 78, 79, 80, 81, 82] [] σ0 (sS 70 ((σ.1 70) + 1) σ3) from (((Fr.rfl.trans (Fr.sub hF (by decide) (by decide) (by decide))).trans (Fr.sub f5 (by decide) (by decide) (by decide))).S (by decide))) (by decide) (by decide)
          have hrr : (0 ≤ (sS 70 ((σ.1 70) + 1) σ3).2.1 73 0 ∧ (sS 70 ((σ.1 70) + 1) σ3).2.1 73 0 ≤ 9) ∧ ∀ c, 9 * 0 ≤ c → c < 9 * 0 + (sS 70 ((σ.1 70) + 1) σ3).2.1 73 0 → DEC (sS 70 ((σ.1 70) + 1) σ3) 0 c (fn (sS 70 ((σ.1 70) + 1) σ3) 0 c) := ⟨⟨by have := hrn.1; omega, hrn.1.2⟩, hrn.dec hbk2.2 hbk2.1.2⟩
          refine tm_iconst dX12_go_114 ?_
          refine tm_callV (M := m_X12_go) (pc := 115) (ix := 554) (M' := m_X12_depth) (As := [.int (iI 0)]) (rest := []) dX12_go_115 ok_X12_depth im_X12_depth se_X12_depth ml12_554 np_X12_depth rfl rfl (Nat.le_of_ble_eq_true rfl) (Nat.le_of_ble_eq_true rfl) rfl (c_X12_depth (d + 2) (σ := (sS 70 ((σ.1 70) + 1) σ3)) (m := 0) (f6.S (by omega)) (by decide) hrr.1 (fun c a e => ⟨_, hrr.2 c a e⟩)) (fun r15 σ16 hp => ?_)
          obtain ⟨v17, rfl, rfl, f18, f19⟩ := hp
          show Tm _ _ 118 b (sS 70 ((σ.1 70) + 1) σ3) [(6, .int (iI v4)), (5, .int (iI i)), (4, .int (iI e)), (3, .int (iI q)), (0, .ref b), (1, .int (iI w)), (2, .int (iI nn))] [.int (iI v17)] _
          refine tm_istore (L' := [(7, .int (iI v17)), (6, .int (iI v4)), (5, .int (iI i)), (4, .int (iI e)), (3, .int (iI q)), (0, .ref b), (1, .int (iI w)), (2, .int (iI nn))]) dX12_go_118 (by decide) rfl ?_
          refine tm_iload dX12_go_120 3 rfl ?_
          refine tm_iload dX12_go_122 0 rfl ?_
          refine tm_iload_n dX12_go_124 rfl 4 rfl ?_
          refine tm_icmp_ge (tgt := 132) dX12_go_125 (by decide) ⟨by omega, by omega⟩ ⟨by omega, by omega⟩ (fun h20 => ?_) (fun h20 => ?_)
          · refine tm_iconst dX12_go_132 ?_
            refine tm_iorZ (x := e) (y := 0) dX12_go_133 (by omega) (by omega) (fun c21 g22 => ?_)
            refine tm_istore (L' := [(4, .int (iI c21)), (7, .int (iI v17)), (6, .int (iI v4)), (5, .int (iI i)), (3, .int (iI q)), (0, .ref b), (1, .int (iI w)), (2, .int (iI nn))]) dX12_go_134 (by decide) rfl ?_
            refine tm_iload dX12_go_136 2 rfl ?_
            refine tm_iconst dX12_go_138 ?_
            refine tm_icmp_ne (tgt := 169) dX12_go_139 (by decide) ⟨by omega, by omega⟩ ⟨by decide, by decide⟩ (fun h23 => ?_) (fun h23 => ?_)
            · refine tm_iinc (q0 := 3) (L' := [(5, .int (iI (i + 1))), (4, .int (iI c21)), (7, .int (iI v17)), (6, .int (iI v4)), (3, .int (iI q)), (0, .ref b), (1, .int (iI w)), (2, .int (iI nn))]) dX12_go_169 rfl (by decide) rfl ?_
              refine tm_goto (tgt := 64) dX12_go_172 (by decide) ?_
              exact tm_sub [0, 1, 4, 5, 6, 7] rfl (ih _ (by omega) (i + 1) (c21) (sS 70 ((σ.1 70) + 1) σ3) (((Fr.rfl.trans (Fr.sub hF (by decide) (by decide) (by decide))).trans (Fr.sub f5 (by decide) (by decide) (by decide))).S (by decide)) (f6.S (by omega)) (by omega) (hrs (by omega) |>.fr (show Fr [68, 69, 70] [] [] σ3 (sS 70 ((σ.1 70) + 1) σ3) from (Fr.rfl.S (by decide))) (by decide) (by decide)) (hx0.trans (hxs.trans (XM.of (show Fr [68, 69, 70] [] [] σ3 (sS 70 ((σ.1 70) + 1) σ3) from (Fr.rfl.S (by decide))) (by decide)))) (by rw [show (sS 70 ((σ.1 70) + 1) σ3).1 70 = (σ.1 70) + 1 from rs_eq]; omega) (by rw [show (sS 70 ((σ.1 70) + 1) σ3).2.1 76 0 = σ3.2.1 76 0 from ra_S (rfl)]; omega) (hch.s (by omega) hgw9 hst9 (by omega) (by omega) (by unfold gST; omega)) rfl)
            · refine tm_iload_n dX12_go_142 rfl 6 rfl ?_
              refine tm_if_eq (tgt := 167) dX12_go_143 (by decide) ⟨by omega, by omega⟩ (fun h24 => ?_) (fun h24 => ?_)
              · refine tm_iconst dX12_go_167 ?_
                exact tm_iret rfl dX12_go_168 (hret _ _ (((Fr.rfl.trans (Fr.sub hF (by decide) (by decide) (by decide))).trans (Fr.sub f5 (by decide) (by decide) (by decide))).S (by decide)) (f6.S (by omega)) (fun _ => (hrs (by omega)).fr (show Fr [68, 69, 70] [] [] σ3 (sS 70 ((σ.1 70) + 1) σ3) from (Fr.rfl.S (by decide))) (by decide) (by decide)) (hx0.trans (hxs.trans (XM.of (show Fr [68, 69, 70] [] [] σ3 (sS 70 ((σ.1 70) + 1) σ3) from (Fr.rfl.S (by decide))) (by decide)))) (by rw [show (sS 70 ((σ.1 70) + 1) σ3).1 70 = (σ.1 70) + 1 from rs_eq]; omega) (by rw [show (sS 70 ((σ.1 70) + 1) σ3).2.1 76 0 = σ3.2.1 76 0 from ra_S (rfl)]; omega) ⟨i.toNat, e, _, hch, hgw9, Or.inr ⟨by omega, _, _, hst9, Or.inr (Or.inr ⟨rfl, rfl, c21, (by omega), (by unfold gST; omega)⟩)⟩⟩)
              · refine tm_iload_n dX12_go_146 rfl 6 rfl ?_
                refine tm_iconst dX12_go_147 ?_
                refine tm_icmp_ne (tgt := 157) dX12_go_148 (by decide) ⟨by omega, by omega⟩ ⟨by decide, by decide⟩ (fun h32 => ?_) (fun h32 => ?_)
                · refine tm_iload_n dX12_go_157 rfl 6 rfl ?_
                  refine tm_iconst dX12_go_158 ?_
                  refine tm_icmp_ne (tgt := 169) dX12_go_159 (by decide) ⟨by omega, by omega⟩ ⟨by decide, by decide⟩ (fun h33 => ?_) (fun h33 => ?_)
                  · refine tm_iinc (q0 := 3) (L' := [(5, .int (iI (i + 1))), (4, .int (iI c21)), (7, .int (iI v17)), (6, .int (iI v4)), (3, .int (iI q)), (0, .ref b), (1, .int (iI w)), (2, .int (iI nn))]) dX12_go_169 rfl (by decide) rfl ?_
                    refine tm_goto (tgt := 64) dX12_go_172 (by decide) ?_
                    exact tm_sub [0, 1, 4, 5, 6, 7] rfl (ih _ (by omega) (i + 1) (c21) (sS 70 ((σ.1 70) + 1) σ3) (((Fr.rfl.trans (Fr.sub hF (by decide) (by decide) (by decide))).trans (Fr.sub f5 (by decide) (by decide) (by decide))).S (by decide)) (f6.S (by omega)) (by omega) (hrs (by omega) |>.fr (show Fr [68, 69, 70] [] [] σ3 (sS 70 ((σ.1 70) + 1) σ3) from (Fr.rfl.S (by decide))) (by decide) (by decide)) (hx0.trans (hxs.trans (XM.of (show Fr [68, 69, 70] [] [] σ3 (sS 70 ((σ.1 70) + 1) σ3) from (Fr.rfl.S (by decide))) (by decide)))) (by rw [show (sS 70 ((σ.1 70) + 1) σ3).1 70 = (σ.1 70) + 1 from rs_eq]; omega) (by rw [show (sS 70 ((σ.1 70) + 1) σ3).2.1 76 0 = σ3.2.1 76 0 from ra_S (rfl)]; omega) (hch.s (by omega) hgw9 hst9 (by omega) (by omega) (by unfold gST; omega)) rfl)
                  · refine tm_iload dX12_go_162 0 rfl ?_
                    refine tm_if_eq (tgt := 169) dX12_go_164 (by decide) ⟨by omega, by omega⟩ (fun h34 => ?_) (fun h34 => ?_)
                    · refine tm_iinc (q0 := 3) (L' := [(5, .int (iI (i + 1))), (4, .int (iI c21)), (7, .int (iI v17)), (6, .int (iI v4)), (3, .int (iI q)), (0, .ref b), (1, .int (iI w)), (2, .int (iI nn))]) dX12_go_169 rfl (by decide) rfl ?_
                      refine tm_goto (tgt := 64) dX12_go_172 (by decide) ?_
                      exact tm_sub [0, 1, 4, 5, 6, 7] rfl (ih _ (by omega) (i + 1) (c21) (sS 70 ((σ.1 70) + 1) σ3) (((Fr.rfl.trans (Fr.sub hF (by decide) (by decide) (by decide))).trans (Fr.sub f5 (by decide) (by decide) (by decide))).S (by decide)) (f6.S (by omega)) (by omega) (hrs (by omega) |>.fr (show Fr [68, 69, 70] [] [] σ3 (sS 70 ((σ.1 70) + 1) σ3) from (Fr.rfl.S (by decide))) (by decide) (by decide)) (hx0.trans (hxs.trans (XM.of (show Fr [68, 69, 70] [] [] σ3 (sS 70 ((σ.1 70) + 1) σ3) from (Fr.rfl.S (by decide))) (by decide)))) (by rw [show (sS 70 ((σ.1 70) + 1) σ3).1 70 = (σ.1 70) + 1 from rs_eq]; omega) (by rw [show (sS 70 ((σ.1 70) + 1) σ3).2.1 76 0 = σ3.2.1 76 0 from ra_S (rfl)]; omega) (hch.s (by omega) hgw9 hst9 (by omega) (by omega) (by unfold gST; omega)) rfl)
                    · refine tm_iconst dX12_go_167 ?_
                      exact tm_iret rfl dX12_go_168 (hret _ _ (((Fr.rfl.trans (Fr.sub hF (by decide) (by decide) (by decide))).trans (Fr.sub f5 (by decide) (by decide) (by decide))).S (by decide)) (f6.S (by omega)) (fun _ => (hrs (by omega)).fr (show Fr [68, 69, 70] [] [] σ3 (sS 70 ((σ.1 70) + 1) σ3) from (Fr.rfl.S (by decide))) (by decide) (by decide)) (hx0.trans (hxs.trans (XM.of (show Fr [68, 69, 70] [] [] σ3 (sS 70 ((σ.1 70) + 1) σ3) from (Fr.rfl.S (by decide))) (by decide)))) (by rw [show (sS 70 ((σ.1 70) + 1) σ3).1 70 = (σ.1 70) + 1 from rs_eq]; omega) (by rw [show (sS 70 ((σ.1 70) + 1) σ3).2.1 76 0 = σ3.2.1 76 0 from ra_S (rfl)]; omega) ⟨i.toNat, e, _, hch, hgw9, Or.inr ⟨by omega, _, _, hst9, Or.inr (Or.inr ⟨rfl, rfl, c21, (by omega), (by unfold gST; omega)⟩)⟩⟩)
                · refine tm_iload dX12_go_151 1 rfl ?_
                  refine tm_iload_n dX12_go_153 rfl 4 rfl ?_
                  refine tm_icmp_le (tgt := 167) dX12_go_154 (by decide) ⟨by omega, by omega⟩ ⟨by omega, by omega⟩ (fun h35 => ?_) (fun h35 => ?_)
                  · refine tm_iconst dX12_go_167 ?_
                    exact tm_iret rfl dX12_go_168 (hret _ _ (((Fr.rfl.trans (Fr.sub hF (by decide) (by decide) (by decide))).trans (Fr.sub f5 (by decide) (by decide) (by decide))).S (by decide)) (f6.S (by omega)) (fun _ => (hrs (by omega)).fr (show Fr [68, 69, 70] [] [] σ3 (sS 70 ((σ.1 70) + 1) σ3) from (Fr.rfl.S (by decide))) (by decide) (by decide)) (hx0.trans (hxs.trans (XM.of (show Fr [68, 69, 70] [] [] σ3 (sS 70 ((σ.1 70) + 1) σ3) from (Fr.rfl.S (by decide))) (by decide)))) (by rw [show (sS 70 ((σ.1 70) + 1) σ3).1 70 = (σ.1 70) + 1 from rs_eq]; omega) (by rw [show (sS 70 ((σ.1 70) + 1) σ3).2.1 76 0 = σ3.2.1 76 0 from ra_S (rfl)]; omega) ⟨i.toNat, e, _, hch, hgw9, Or.inr ⟨by omega, _, _, hst9, Or.inr (Or.inr ⟨rfl, rfl, c21, (by omega), (by unfold gST; omega)⟩)⟩⟩)
                  · refine tm_iload_n dX12_go_157 rfl 6 rfl ?_
                    refine tm_iconst dX12_go_158 ?_
                    refine tm_icmp_ne (tgt := 169) dX12_go_159 (by decide) ⟨by omega, by omega⟩ ⟨by decide, by decide⟩ (fun h36 => ?_) (fun h36 => ?_)
                    · refine tm_iinc (q0 := 3) (L' := [(5, .int (iI (i + 1))), (4, .int (iI c21)), (7, .int (iI v17)), (6, .int (iI v4)), (3, .int (iI q)), (0, .ref b), (1, .int (iI w)), (2, .int (iI nn))]) dX12_go_169 rfl (by decide) rfl ?_
                      refine tm_goto (tgt := 64) dX12_go_172 (by decide) ?_
                      exact tm_sub [0, 1, 4, 5, 6, 7] rfl (ih _ (by omega) (i + 1) (c21) (sS 70 ((σ.1 70) + 1) σ3) (((Fr.rfl.trans (Fr.sub hF (by decide) (by decide) (by decide))).trans (Fr.sub f5 (by decide) (by decide) (by decide))).S (by decide)) (f6.S (by omega)) (by omega) (hrs (by omega) |>.fr (show Fr [68, 69, 70] [] [] σ3 (sS 70 ((σ.1 70) + 1) σ3) from (Fr.rfl.S (by decide))) (by decide) (by decide)) (hx0.trans (hxs.trans (XM.of (show Fr [68, 69, 70] [] [] σ3 (sS 70 ((σ.1 70) + 1) σ3) from (Fr.rfl.S (by decide))) (by decide)))) (by rw [show (sS 70 ((σ.1 70) + 1) σ3).1 70 = (σ.1 70) + 1 from rs_eq]; omega) (by rw [show (sS 70 ((σ.1 70) + 1) σ3).2.1 76 0 = σ3.2.1 76 0 from ra_S (rfl)]; omega) (hch.s (by omega) hgw9 hst9 (by omega) (by omega) (by unfold gST; omega)) rfl)
                    · refine tm_iload dX12_go_162 0 rfl ?_
                      refine tm_if_eq (tgt := 169) dX12_go_164 (by decide) ⟨by omega, by omega⟩ (fun h37 => ?_) (fun h37 => ?_)
                      · refine tm_iinc (q0 := 3) (L' := [(5, .int (iI (i + 1))), (4, .int (iI c21)), (7, .int (iI v17)), (6, .int (iI v4)), (3, .int (iI q)), (0, .ref b), (1, .int (iI w)), (2, .int (iI nn))]) dX12_go_169 rfl (by decide) rfl ?_
                        refine tm_goto (tgt := 64) dX12_go_172 (by decide) ?_
                        exact tm_sub [0, 1, 4, 5, 6, 7] rfl (ih _ (by omega) (i + 1) (c21) (sS 70 ((σ.1 70) + 1) σ3) (((Fr.rfl.trans (Fr.sub hF (by decide) (by decide) (by decide))).trans (Fr.sub f5 (by decide) (by decide) (by decide))).S (by decide)) (f6.S (by omega)) (by omega) (hrs (by omega) |>.fr (show Fr [68, 69, 70] [] [] σ3 (sS 70 ((σ.1 70) + 1) σ3) from (Fr.rfl.S (by decide))) (by decide) (by decide)) (hx0.trans (hxs.trans (XM.of (show Fr [68, 69, 70] [] [] σ3 (sS 70 ((σ.1 70) + 1) σ3) from (Fr.rfl.S (by decide))) (by decide)))) (by rw [show (sS 70 ((σ.1 70) + 1) σ3).1 70 = (σ.1 70) + 1 from rs_eq]; omega) (by rw [show (sS 70 ((σ.1 70) + 1) σ3).2.1 76 0 = σ3.2.1 76 0 from ra_S (rfl)]; omega) (hch.s (by omega) hgw9 hst9 (by omega) (by omega) (by unfold gST; omega)) rfl)
                      · refine tm_iconst dX12_go_167 ?_
                        exact tm_iret rfl dX12_go_168 (hret _ _ (((Fr.rfl.trans (Fr.sub hF (by decide) (by decide) (by decide))).trans (Fr.sub f5 (by decide) (by decide) (by decide))).S (by decide)) (f6.S (by omega)) (fun _ => (hrs (by omega)).fr (show Fr [68, 69, 70] [] [] σ3 (sS 70 ((σ.1 70) + 1) σ3) from (Fr.rfl.S (by decide))) (by decide) (by decide)) (hx0.trans (hxs.trans (XM.of (show Fr [68, 69, 70] [] [] σ3 (sS 70 ((σ.1 70) + 1) σ3) from (Fr.rfl.S (by decide))) (by decide)))) (by rw [show (sS 70 ((σ.1 70) + 1) σ3).1 70 = (σ.1 70) + 1 from rs_eq]; omega) (by rw [show (sS 70 ((σ.1 70) + 1) σ3).2.1 76 0 = σ3.2.1 76 0 from ra_S (rfl)]; omega) ⟨i.toNat, e, _, hch, hgw9, Or.inr ⟨by omega, _, _, hst9, Or.inr (Or.inr ⟨rfl, rfl, c21, (by omega), (by unfold gST; omega)⟩)⟩⟩)
          · refine tm_iconst dX12_go_128 ?_
            refine tm_goto (tgt := 133) dX12_go_129 (by decide) ?_
            refine tm_iorZ (x := e) (y := 1) dX12_go_133 (by omega) (by omega) (fun c38 g39 => ?_)
            refine tm_istore (L' := [(4, .int (iI c38)), (7, .int (iI v17)), (6, .int (iI v4)), (5, .int (iI i)), (3, .int (iI q)), (0, .ref b), (1, .int (iI w)), (2, .int (iI nn))]) dX12_go_134 (by decide) rfl ?_
            refine tm_iload dX12_go_136 2 rfl ?_
            refine tm_iconst dX12_go_138 ?_
            refine tm_icmp_ne (tgt := 169) dX12_go_139 (by decide) ⟨by omega, by omega⟩ ⟨by decide, by decide⟩ (fun h40 => ?_) (fun h40 => ?_)
            · refine tm_iinc (q0 := 3) (L' := [(5, .int (iI (i + 1))), (4, .int (iI c38)), (7, .int (iI v17)), (6, .int (iI v4)), (3, .int (iI q)), (0, .ref b), (1, .int (iI w)), (2, .int (iI nn))]) dX12_go_169 rfl (by decide) rfl ?_
              refine tm_goto (tgt := 64) dX12_go_172 (by decide) ?_
              exact tm_sub [0, 1, 4, 5, 6, 7] rfl (ih _ (by omega) (i + 1) (c38) (sS 70 ((σ.1 70) + 1) σ3) (((Fr.rfl.trans (Fr.sub hF (by decide) (by decide) (by decide))).trans (Fr.sub f5 (by decide) (by decide) (by decide))).S (by decide)) (f6.S (by omega)) (by omega) (hrs (by omega) |>.fr (show Fr [68, 69, 70] [] [] σ3 (sS 70 ((σ.1 70) + 1) σ3) from (Fr.rfl.S (by decide))) (by decide) (by decide)) (hx0.trans (hxs.trans (XM.of (show Fr [68, 69, 70] [] [] σ3 (sS 70 ((σ.1 70) + 1) σ3) from (Fr.rfl.S (by decide))) (by decide)))) (by rw [show (sS 70 ((σ.1 70) + 1) σ3).1 70 = (σ.1 70) + 1 from rs_eq]; omega) (by rw [show (sS 70 ((σ.1 70) + 1) σ3).2.1 76 0 = σ3.2.1 76 0 from ra_S (rfl)]; omega) (hch.s (by omega) hgw9 hst9 (by omega) (by omega) (by unfold gST; omega)) rfl)
            · refine tm_iload_n dX12_go_142 rfl 6 rfl ?_
              refine tm_if_eq (tgt := 167) dX12_go_143 (by decide) ⟨by omega, by omega⟩ (fun h41 => ?_) (fun h41 => ?_)
              · refine tm_iconst dX12_go_167 ?_
                exact tm_iret rfl dX12_go_168 (hret _ _ (((Fr.rfl.trans (Fr.sub hF (by decide) (by decide) (by decide))).trans (Fr.sub f5 (by decide) (by decide) (by decide))).S (by decide)) (f6.S (by omega)) (fun _ => (hrs (by omega)).fr (show Fr [68, 69, 70] [] [] σ3 (sS 70 ((σ.1 70) + 1) σ3) from (Fr.rfl.S (by decide))) (by decide) (by decide)) (hx0.trans (hxs.trans (XM.of (show Fr [68, 69, 70] [] [] σ3 (sS 70 ((σ.1 70) + 1) σ3) from (Fr.rfl.S (by decide))) (by decide)))) (by rw [show (sS 70 ((σ.1 70) + 1) σ3).1 70 = (σ.1 70) + 1 from rs_eq]; omega) (by rw [show (sS 70 ((σ.1 70) + 1) σ3).2.1 76 0 = σ3.2.1 76 0 from ra_S (rfl)]; omega) ⟨i.toNat, e, _, hch, hgw9, Or.inr ⟨by omega, _, _, hst9, Or.inr (Or.inr ⟨rfl, rfl, c38, (by omega), (by unfold gST; omega)⟩)⟩⟩)
              · refine tm_iload_n dX12_go_146 rfl 6 rfl ?_
                refine tm_iconst dX12_go_147 ?_
                refine tm_icmp_ne (tgt := 157) dX12_go_148 (by decide) ⟨by omega, by omega⟩ ⟨by decide, by decide⟩ (fun h42 => ?_) (fun h42 => ?_)
                · refine tm_iload_n dX12_go_157 rfl 6 rfl ?_
                  refine tm_iconst dX12_go_158 ?_
                  refine tm_icmp_ne (tgt := 169) dX12_go_159 (by decide) ⟨by omega, by omega⟩ ⟨by decide, by decide⟩ (fun h44 => ?_) (fun h44 => ?_)
                  · refine tm_iinc (q0 := 3) (L' := [(5, .int (iI (i + 1))), (4, .int (iI c38)), (7, .int (iI v17)), (6, .int (iI v4)), (3, .int (iI q)), (0, .ref b), (1, .int (iI w)), (2, .int (iI nn))]) dX12_go_169 rfl (by decide) rfl ?_
                    refine tm_goto (tgt := 64) dX12_go_172 (by decide) ?_
                    exact tm_sub [0, 1, 4, 5, 6, 7] rfl (ih _ (by omega) (i + 1) (c38) (sS 70 ((σ.1 70) + 1) σ3) (((Fr.rfl.trans (Fr.sub hF (by decide) (by decide) (by decide))).trans (Fr.sub f5 (by decide) (by decide) (by decide))).S (by decide)) (f6.S (by omega)) (by omega) (hrs (by omega) |>.fr (show Fr [68, 69, 70] [] [] σ3 (sS 70 ((σ.1 70) + 1) σ3) from (Fr.rfl.S (by decide))) (by decide) (by decide)) (hx0.trans (hxs.trans (XM.of (show Fr [68, 69, 70] [] [] σ3 (sS 70 ((σ.1 70) + 1) σ3) from (Fr.rfl.S (by decide))) (by decide)))) (by rw [show (sS 70 ((σ.1 70) + 1) σ3).1 70 = (σ.1 70) + 1 from rs_eq]; omega) (by rw [show (sS 70 ((σ.1 70) + 1) σ3).2.1 76 0 = σ3.2.1 76 0 from ra_S (rfl)]; omega) (hch.s (by omega) hgw9 hst9 (by omega) (by omega) (by unfold gST; omega)) rfl)
                  · refine tm_iload dX12_go_162 0 rfl ?_
                    refine tm_if_eq (tgt := 169) dX12_go_164 (by decide) ⟨by omega, by omega⟩ (fun h45 => ?_) (fun h45 => ?_)
                    · refine tm_iinc (q0 := 3) (L' := [(5, .int (iI (i + 1))), (4, .int (iI c38)), (7, .int (iI v17)), (6, .int (iI v4)), (3, .int (iI q)), (0, .ref b), (1, .int (iI w)), (2, .int (iI nn))]) dX12_go_169 rfl (by decide) rfl ?_
                      refine tm_goto (tgt := 64) dX12_go_172 (by decide) ?_
                      exact tm_sub [0, 1, 4, 5, 6, 7] rfl (ih _ (by omega) (i + 1) (c38) (sS 70 ((σ.1 70) + 1) σ3) (((Fr.rfl.trans (Fr.sub hF (by decide) (by decide) (by decide))).trans (Fr.sub f5 (by decide) (by decide) (by decide))).S (by decide)) (f6.S (by omega)) (by omega) (hrs (by omega) |>.fr (show Fr [68, 69, 70] [] [] σ3 (sS 70 ((σ.1 70) + 1) σ3) from (Fr.rfl.S (by decide))) (by decide) (by decide)) (hx0.trans (hxs.trans (XM.of (show Fr [68, 69, 70] [] [] σ3 (sS 70 ((σ.1 70) + 1) σ3) from (Fr.rfl.S (by decide))) (by decide)))) (by rw [show (sS 70 ((σ.1 70) + 1) σ3).1 70 = (σ.1 70) + 1 from rs_eq]; omega) (by rw [show (sS 70 ((σ.1 70) + 1) σ3).2.1 76 0 = σ3.2.1 76 0 from ra_S (rfl)]; omega) (hch.s (by omega) hgw9 hst9 (by omega) (by omega) (by unfold gST; omega)) rfl)
                    · refine tm_iconst dX12_go_167 ?_
                      exact tm_iret rfl dX12_go_168 (hret _ _ (((Fr.rfl.trans (Fr.sub hF (by decide) (by decide) (by decide))).trans (Fr.sub f5 (by decide) (by decide) (by decide))).S (by decide)) (f6.S (by omega)) (fun _ => (hrs (by omega)).fr (show Fr [68, 69, 70] [] [] σ3 (sS 70 ((σ.1 70) + 1) σ3) from (Fr.rfl.S (by decide))) (by decide) (by decide)) (hx0.trans (hxs.trans (XM.of (show Fr [68, 69, 70] [] [] σ3 (sS 70 ((σ.1 70) + 1) σ3) from (Fr.rfl.S (by decide))) (by decide)))) (by rw [show (sS 70 ((σ.1 70) + 1) σ3).1 70 = (σ.1 70) + 1 from rs_eq]; omega) (by rw [show (sS 70 ((σ.1 70) + 1) σ3).2.1 76 0 = σ3.2.1 76 0 from ra_S (rfl)]; omega) ⟨i.toNat, e, _, hch, hgw9, Or.inr ⟨by omega, _, _, hst9, Or.inr (Or.inr ⟨rfl, rfl, c38, (by omega), (by unfold gST; omega)⟩)⟩⟩)
                · refine tm_iload dX12_go_151 1 rfl ?_
                  refine tm_iload_n dX12_go_153 rfl 4 rfl ?_
                  refine tm_icmp_le (tgt := 167) dX12_go_154 (by decide) ⟨by omega, by omega⟩ ⟨by omega, by omega⟩ (fun h46 => ?_) (fun h46 => ?_)
                  · refine tm_iconst dX12_go_167 ?_
                    exact tm_iret rfl dX12_go_168 (hret _ _ (((Fr.rfl.trans (Fr.sub hF (by decide) (by decide) (by decide))).trans (Fr.sub f5 (by decide) (by decide) (by decide))).S (by decide)) (f6.S (by omega)) (fun _ => (hrs (by omega)).fr (show Fr [68, 69, 70] [] [] σ3 (sS 70 ((σ.1 70) + 1) σ3) from (Fr.rfl.S (by decide))) (by decide) (by decide)) (hx0.trans (hxs.trans (XM.of (show Fr [68, 69, 70] [] [] σ3 (sS 70 ((σ.1 70) + 1) σ3) from (Fr.rfl.S (by decide))) (by decide)))) (by rw [show (sS 70 ((σ.1 70) + 1) σ3).1 70 = (σ.1 70) + 1 from rs_eq]; omega) (by rw [show (sS 70 ((σ.1 70) + 1) σ3).2.1 76 0 = σ3.2.1 76 0 from ra_S (rfl)]; omega) ⟨i.toNat, e, _, hch, hgw9, Or.inr ⟨by omega, _, _, hst9, Or.inr (Or.inr ⟨rfl, rfl, c38, (by omega), (by unfold gST; omega)⟩)⟩⟩)
                  · refine tm_iload_n dX12_go_157 rfl 6 rfl ?_
                    refine tm_iconst dX12_go_158 ?_
                    refine tm_icmp_ne (tgt := 169) dX12_go_159 (by decide) ⟨by omega, by omega⟩ ⟨by decide, by decide⟩ (fun h47 => ?_) (fun h47 => ?_)
                    · refine tm_iinc (q0 := 3) (L' := [(5, .int (iI (i + 1))), (4, .int (iI c38)), (7, .int (iI v17)), (6, .int (iI v4)), (3, .int (iI q)), (0, .ref b), (1, .int (iI w)), (2, .int (iI nn))]) dX12_go_169 rfl (by decide) rfl ?_
                      refine tm_goto (tgt := 64) dX12_go_172 (by decide) ?_
                      exact tm_sub [0, 1, 4, 5, 6, 7] rfl (ih _ (by omega) (i + 1) (c38) (sS 70 ((σ.1 70) + 1) σ3) (((Fr.rfl.trans (Fr.sub hF (by decide) (by decide) (by decide))).trans (Fr.sub f5 (by decide) (by decide) (by decide))).S (by decide)) (f6.S (by omega)) (by omega) (hrs (by omega) |>.fr (show Fr [68, 69, 70] [] [] σ3 (sS 70 ((σ.1 70) + 1) σ3) from (Fr.rfl.S (by decide))) (by decide) (by decide)) (hx0.trans (hxs.trans (XM.of (show Fr [68, 69, 70] [] [] σ3 (sS 70 ((σ.1 70) + 1) σ3) from (Fr.rfl.S (by decide))) (by decide)))) (by rw [show (sS 70 ((σ.1 70) + 1) σ3).1 70 = (σ.1 70) + 1 from rs_eq]; omega) (by rw [show (sS 70 ((σ.1 70) + 1) σ3).2.1 76 0 = σ3.2.1 76 0 from ra_S (rfl)]; omega) (hch.s (by omega) hgw9 hst9 (by omega) (by omega) (by unfold gST; omega)) rfl)
                    · refine tm_iload dX12_go_162 0 rfl ?_
                      refine tm_if_eq (tgt := 169) dX12_go_164 (by decide) ⟨by omega, by omega⟩ (fun h48 => ?_) (fun h48 => ?_)
                      · refine tm_iinc (q0 := 3) (L' := [(5, .int (iI (i + 1))), (4, .int (iI c38)), (7, .int (iI v17)), (6, .int (iI v4)), (3, .int (iI q)), (0, .ref b), (1, .int (iI w)), (2, .int (iI nn))]) dX12_go_169 rfl (by decide) rfl ?_
                        refine tm_goto (tgt := 64) dX12_go_172 (by decide) ?_
                        exact tm_sub [0, 1, 4, 5, 6, 7] rfl (ih _ (by omega) (i + 1) (c38) (sS 70 ((σ.1 70) + 1) σ3) (((Fr.rfl.trans (Fr.sub hF (by decide) (by decide) (by decide))).trans (Fr.sub f5 (by decide) (by decide) (by decide))).S (by decide)) (f6.S (by omega)) (by omega) (hrs (by omega) |>.fr (show Fr [68, 69, 70] [] [] σ3 (sS 70 ((σ.1 70) + 1) σ3) from (Fr.rfl.S (by decide))) (by decide) (by decide)) (hx0.trans (hxs.trans (XM.of (show Fr [68, 69, 70] [] [] σ3 (sS 70 ((σ.1 70) + 1) σ3) from (Fr.rfl.S (by decide))) (by decide)))) (by rw [show (sS 70 ((σ.1 70) + 1) σ3).1 70 = (σ.1 70) + 1 from rs_eq]; omega) (by rw [show (sS 70 ((σ.1 70) + 1) σ3).2.1 76 0 = σ3.2.1 76 0 from ra_S (rfl)]; omega) (hch.s (by omega) hgw9 hst9 (by omega) (by omega) (by unfold gST; omega)) rfl)
                      · refine tm_iconst dX12_go_167 ?_
                        exact tm_iret rfl dX12_go_168 (hret _ _ (((Fr.rfl.trans (Fr.sub hF (by decide) (by decide) (by decide))).trans (Fr.sub f5 (by decide) (by decide) (by decide))).S (by decide)) (f6.S (by omega)) (fun _ => (hrs (by omega)).fr (show Fr [68, 69, 70] [] [] σ3 (sS 70 ((σ.1 70) + 1) σ3) from (Fr.rfl.S (by decide))) (by decide) (by decide)) (hx0.trans (hxs.trans (XM.of (show Fr [68, 69, 70] [] [] σ3 (sS 70 ((σ.1 70) + 1) σ3) from (Fr.rfl.S (by decide))) (by decide)))) (by rw [show (sS 70 ((σ.1 70) + 1) σ3).1 70 = (σ.1 70) + 1 from rs_eq]; omega) (by rw [show (sS 70 ((σ.1 70) + 1) σ3).2.1 76 0 = σ3.2.1 76 0 from ra_S (rfl)]; omega) ⟨i.toNat, e, _, hch, hgw9, Or.inr ⟨by omega, _, _, hst9, Or.inr (Or.inr ⟨rfl, rfl, c38, (by omega), (by unfold gST; omega)⟩)⟩⟩)
        · refine tm_aload_n dX12_go_106 rfl 4 rfl ?_
          refine tm_iconst dX12_go_107 ?_
          refine tm_putS (k := 68) (v := 1) lay_12 dX12_go_108 (by decide) fl12_560 rfl (tyX12_ok 68 (by decide)) rfl rfl rfl ?_
          refine tm_iconst dX12_go_111 ?_
          exact tm_iret rfl dX12_go_112 (hret _ _ ((((Fr.rfl.trans (Fr.sub hF (by decide) (by decide) (by decide))).trans (Fr.sub f5 (by decide) (by decide) (by decide))).S (by decide)).S (by decide)) ((f6.S (by omega)).S (by omega)) (fun q => absurd (q.symm.trans (show (sS 68 1 (sS 70 ((σ.1 70) + 1) σ3)).1 68 = 1 from rs_eq)) (by decide)) (hx0.trans (hxs.trans (XM.of (show Fr [68, 69, 70] [] [] σ3 (sS 68 1 (sS 70 ((σ.1 70) + 1) σ3)) from ((Fr.rfl.S (by decide)).S (by decide))) (by decide)))) (by rw [show (sS 68 1 (sS 70 ((σ.1 70) + 1) σ3)).1 70 = (σ.1 70) + 1 from rs_o (by decide) (rs_eq)]; omega) (by rw [show (sS 68 1 (sS 70 ((σ.1 70) + 1) σ3)).2.1 76 0 = σ3.2.1 76 0 from ra_S (ra_S (rfl))]; omega) ⟨i.toNat, e, _, hch, hgw9, Or.inr ⟨by omega, _, _, hst9, Or.inr (Or.inl ⟨by omega, rfl, rfl⟩)⟩⟩)
      · refine tm_aload_n dX12_go_83 rfl 4 rfl ?_
        refine tm_iconst dX12_go_84 ?_
        refine tm_putS (k := 69) (v := 1) lay_12 dX12_go_85 (by decide) fl12_563 rfl (tyX12_ok 69 (by decide)) rfl rfl rfl ?_
        refine tm_iconst dX12_go_88 ?_
        exact tm_iret rfl dX12_go_89 (hret _ _ (((Fr.rfl.trans (Fr.sub hF (by decide) (by decide) (by decide))).trans (Fr.sub f5 (by decide) (by decide) (by decide))).S (by decide)) (f6.S (by omega)) (fun _ => (hrs (by omega)).fr (show Fr [68, 69, 70] [] [] σ3 (sS 69 1 σ3) from (Fr.rfl.S (by decide))) (by decide) (by decide)) (hx0.trans (hxs.trans (XM.of (show Fr [68, 69, 70] [] [] σ3 (sS 69 1 σ3) from (Fr.rfl.S (by decide))) (by decide)))) (by rw [show (sS 69 1 σ3).1 70 = σ.1 70 from rs_o (by decide) (rs_F f5 (by decide) (rfl))]; omega) (by rw [show (sS 69 1 σ3).2.1 76 0 = σ3.2.1 76 0 from ra_S (rfl)]; omega) ⟨i.toNat, e, _, hch, hgw9, Or.inr ⟨by omega, _, _, hst9, Or.inl ⟨by omega, rfl, rfl⟩⟩⟩)
set_option maxHeartbeats 4000000 in
set_option maxRecDepth 20000 in
theorem f_X12_go (d : Nat) {b : Nat} {σ : MS} {w : Int} {nn : Int} (hR : RG σ) (hit : ITM σ) (hpar : PAR σ) (hbka : BKA σ 0) (hr7 : σ.1 67 ≠ 0 → σ.1 68 = 0 → RUN σ 0) (hG : 0 ≤ σ.1 70 ∧ σ.1 70 ≤ 1000000000) (hP : 0 ≤ σ.2.1 76 0 ∧ σ.2.1 76 0 ≤ 900000000) (h_w : -2147483648 ≤ w ∧ w ≤ 2147483647) (h_nn : -2147483648 ≤ nn ∧ nn ≤ 2147483647) : Tm (d + 4) m_X12_go 0 b σ [(0, .ref b), (1, .int (iI w)), (2, .int (iI nn))] [] (fun ro σ2 => ∃ v : Int, ro = some (.int (iI v)) ∧ (Fr [0, 68, 69, 70] [73, 75, 76, 77, 78, 79, 80, 81, 82] [] σ σ2) ∧ (RG σ2) ∧ (σ2.1 67 ≠ 0 → σ2.1 68 = 0 → RUN σ2 0) ∧ (XM 0 σ σ2) ∧ (σ.1 70 ≤ σ2.1 70 ∧ σ2.1 70 ≤ σ.1 70 + 20000) ∧ (σ.2.1 76 0 ≤ σ2.2.1 76 0 ∧ σ2.2.1 76 0 ≤ σ.2.1 76 0 + 20000) ∧ (GOF7 σ w nn v σ2)) := by
  refine tm_aload_n dX12_go_0 rfl 0 rfl ?_
  refine tm_iconst dX12_go_1 ?_
  refine tm_putS (k := 0) (v := 0) lay_12 dX12_go_2 (by decide) fl12_185 rfl (tyX12_ok 0 (by decide)) rfl rfl rfl ?_
  refine tm_aload_n dX12_go_5 rfl 0 rfl ?_
  refine tm_getS (k := 67) (t := σ.1 67) dX12_go_6 (by decide) fl12_397 rfl (rs_o (by decide) (rfl)) ?_
  have g1 := RG.s hR 67
  refine tm_if_eq (tgt := 32) dX12_go_9 (by decide) ⟨by omega, by omega⟩ (fun h2 => ?_) (fun h2 => ?_)
  · refine tm_iconst dX12_go_32 ?_
    exact tm_iret rfl dX12_go_33 (⟨_, rfl, (Fr.rfl.S (by decide)), (hR.S (by omega)), fun a c => (hr7 a c).fr (Fr.rfl.S (by decide) : Fr [0] [] [] σ (sS 0 0 σ)) (by decide) (by decide), XM.of (Fr.rfl.S (by decide) : Fr [0] [] [] σ (sS 0 0 σ)) (by decide), ⟨Int.le_refl _, by show σ.1 70 ≤ σ.1 70 + 20000; omega⟩, ⟨Int.le_refl _, by show σ.2.1 76 0 ≤ σ.2.1 76 0 + 20000; omega⟩, by unfold GOF7; first | exact Or.inl ⟨by omega, rfl, rfl⟩ | exact Or.inr ⟨by omega, Or.inl ⟨by omega, rfl, rfl⟩⟩ | exact Or.inr ⟨by omega, Or.inr (Or.inl ⟨by omega, by omega, rfl, rfl⟩)⟩⟩)
  · refine tm_iload_n dX12_go_12 rfl 1 rfl ?_
    refine tm_iconst dX12_go_13 ?_
    refine tm_iconst dX12_go_14 ?_
    refine tm_callS (M := m_X12_go) (pc := 15) (ix := 188) (M' := m_X12_in) (As := [.int (iI w), .int (iI 0), .int (iI 2)]) (rest := []) dX12_go_15 ok_X12_in stt_X12_in ml12_188 np_X12_in rfl (Nat.le_of_ble_eq_true rfl) (Nat.le_of_ble_eq_true rfl) rfl (c_X12_in (d + 2) (σ := (sS 0 0 σ)) (x := w) (lo := 0) (hi := 2) (by omega) (by omega) (by omega)) (fun r3 σ4 hp => ?_)
    obtain ⟨v5, rfl, rfl, f6, f7⟩ := hp
    show Tm _ _ 18 b (sS 0 0 σ) [(0, .ref b), (1, .int (iI w)), (2, .int (iI nn))] [.int (iI v5)] _
    refine tm_if_eq (tgt := 32) dX12_go_18 (by decide) ⟨by omega, by omega⟩ (fun h8 => ?_) (fun h8 => ?_)
    · refine tm_iconst dX12_go_32 ?_
      exact tm_iret rfl dX12_go_33 (⟨_, rfl, (Fr.rfl.S (by decide)), (hR.S (by omega)), fun a c => (hr7 a c).fr (Fr.rfl.S (by decide) : Fr [0] [] [] σ (sS 0 0 σ)) (by decide) (by decide), XM.of (Fr.rfl.S (by decide) : Fr [0] [] [] σ (sS 0 0 σ)) (by decide), ⟨Int.le_refl _, by show σ.1 70 ≤ σ.1 70 + 20000; omega⟩, ⟨Int.le_refl _, by show σ.2.1 76 0 ≤ σ.2.1 76 0 + 20000; omega⟩, by unfold GOF7; first | exact Or.inl ⟨by omega, rfl, rfl⟩ | exact Or.inr ⟨by omega, Or.inl ⟨by omega, rfl, rfl⟩⟩ | exact Or.inr ⟨by omega, Or.inr (Or.inl ⟨by omega, by omega, rfl, rfl⟩)⟩⟩)
    · refine tm_iload_n dX12_go_21 rfl 2 rfl ?_
      refine tm_iconst dX12_go_22 ?_
      refine tm_sipush dX12_go_23 (by decide) ?_
      refine tm_callS (M := m_X12_go) (pc := 26) (ix := 188) (M' := m_X12_in) (As := [.int (iI nn), .int (iI 1), .int (iI 20000)]) (rest := []) dX12_go_26 ok_X12_in stt_X12_in ml12_188 np_X12_in rfl (Nat.le_of_ble_eq_true rfl) (Nat.le_of_ble_eq_true rfl) rfl (c_X12_in (d + 2) (σ := (sS 0 0 σ)) (x := nn) (lo := 1) (hi := 20000) (by omega) (by omega) (by omega)) (fun r9 σ10 hp => ?_)
      obtain ⟨v11, rfl, rfl, f12, f13⟩ := hp
      show Tm _ _ 29 b (sS 0 0 σ) [(0, .ref b), (1, .int (iI w)), (2, .int (iI nn))] [.int (iI v11)] _
      refine tm_if_ne (tgt := 34) dX12_go_29 (by decide) ⟨by omega, by omega⟩ (fun h14 => ?_) (fun h14 => ?_)
      · refine tm_aload_n dX12_go_34 rfl 0 rfl ?_
        refine tm_getS (k := 69) (t := σ.1 69) dX12_go_35 (by decide) fl12_563 rfl (rs_o (by decide) (rfl)) ?_
        have g15 := RG.s hR 69
        refine tm_if_eq (tgt := 43) dX12_go_38 (by decide) ⟨by omega, by omega⟩ (fun h16 => ?_) (fun h16 => ?_)
        · refine tm_aload_n dX12_go_43 rfl 0 rfl ?_
          refine tm_getS (k := 68) (t := σ.1 68) dX12_go_44 (by decide) fl12_560 rfl (rs_o (by decide) (rfl)) ?_
          have g17 := RG.s hR 68
          refine tm_if_eq (tgt := 52) dX12_go_47 (by decide) ⟨by omega, by omega⟩ (fun h18 => ?_) (fun h18 => ?_)
          · refine tm_aload_n dX12_go_52 rfl 0 rfl ?_
            have hrn := (hr7 (by omega) (by omega)).fr (Fr.rfl.S (by decide) : Fr [0] [] [] σ (sS 0 0 σ)) (by decide) (by decide)
            have hbk2 := hbka.fr (Fr.rfl.S (by decide) : Fr [0] [] [] σ (sS 0 0 σ)) (by decide) (by decide)
            have hrr : (0 ≤ (sS 0 0 σ).2.1 73 0 ∧ (sS 0 0 σ).2.1 73 0 ≤ 9) ∧ ∀ c, 9 * 0 ≤ c → c < 9 * 0 + (sS 0 0 σ).2.1 73 0 → DEC (sS 0 0 σ) 0 c (fn (sS 0 0 σ) 0 c) := ⟨⟨by have := hrn.1; omega, hrn.1.2⟩, hrn.dec hbk2.2 hbk2.1.2⟩
            refine tm_iconst dX12_go_53 ?_
            refine tm_callV (M := m_X12_go) (pc := 54) (ix := 554) (M' := m_X12_depth) (As := [.int (iI 0)]) (rest := []) dX12_go_54 ok_X12_depth im_X12_depth se_X12_depth ml12_554 np_X12_depth rfl rfl (Nat.le_of_ble_eq_true rfl) (Nat.le_of_ble_eq_true rfl) rfl (c_X12_depth (d + 2) (σ := (sS 0 0 σ)) (m := 0) (hR.S (by omega)) (by decide) hrr.1 (fun c a e => ⟨_, hrr.2 c a e⟩)) (fun r19 σ20 hp => ?_)
            obtain ⟨v21, rfl, rfl, f22, f23⟩ := hp
            show Tm _ _ 57 b (sS 0 0 σ) [(0, .ref b), (1, .int (iI w)), (2, .int (iI nn))] [.int (iI v21)] _
            have hdq9 : v21 = dpt σ 0 := f22
            refine tm_istore_n (L' := [(3, .int (iI v21)), (0, .ref b), (1, .int (iI w)), (2, .int (iI nn))]) dX12_go_57 rfl (by decide) rfl ?_
            refine tm_iconst dX12_go_58 ?_
            refine tm_istore (L' := [(4, .int (iI 0)), (3, .int (iI v21)), (0, .ref b), (1, .int (iI w)), (2, .int (iI nn))]) dX12_go_59 (by decide) rfl ?_
            refine tm_iconst dX12_go_61 ?_
            refine tm_istore (L' := [(5, .int (iI 0)), (4, .int (iI 0)), (3, .int (iI v21)), (0, .ref b), (1, .int (iI w)), (2, .int (iI nn))]) dX12_go_62 (by decide) rfl ?_
            refine tm_sub [0, 1, 2, 3, 4, 5] rfl (f_go (d) (σ0 := (sS 0 0 σ)) (w := w) (nn := nn) (q := v21) (hR.S (by omega)) hbk2 (hit.fr (Fr.rfl.S (by decide) : Fr [0] [] [] σ (sS 0 0 σ)) (by decide)) (hpar.fr (Fr.rfl.S (by decide) : Fr [0] [] [] σ (sS 0 0 σ)) (by decide)) (by omega) hG hP (by omega) (by omega) (fun i34 e35 σ36 F27 R28 f29 f30 f31 f32 f33 => ?_) (fun v τ hF2 hR2 hru hxm hgb hpb hge => ⟨_, rfl, ((Fr.rfl.S (by decide) : Fr [0, 68, 69, 70] [73, 75, 76, 77, 78, 79, 80, 81, 82] [] σ (sS 0 0 σ)).trans (Fr.sub hF2 (by decide) (by decide) (by decide))), hR2, fun _ c => hru c, XM.trans (XM.of (Fr.rfl.S (by decide) : Fr [0] [] [] σ (sS 0 0 σ)) (by decide)) hxm, hgb, hpb, Or.inr ⟨by omega, Or.inr (Or.inr ⟨by omega, by omega, by rw [← hdq9]; exact hge⟩)⟩⟩) _ (0) (0) (sS 0 0 σ) Fr.rfl (hR.S (by omega)) (by omega) hrn XM.rfl ⟨Int.le_refl _, by omega⟩ ⟨Int.le_refl _, by omega⟩ ⟨rfl, rfl⟩ rfl)
            show Tm _ _ 175 b σ36 [(0, .ref b)] [] _
            refine tm_iconst dX12_go_175 ?_
            exact tm_iret rfl dX12_go_176 (⟨_, rfl, ((Fr.rfl.S (by decide) : Fr [0, 68, 69, 70] [73, 75, 76, 77, 78, 79, 80, 81, 82] [] σ (sS 0 0 σ)).trans (Fr.sub F27 (by decide) (by decide) (by decide))), R28, fun _ _ => f30, XM.trans (XM.of (Fr.rfl.S (by decide) : Fr [0] [] [] σ (sS 0 0 σ)) (by decide)) f31, f32, f33, Or.inr ⟨by omega, Or.inr (Or.inr ⟨by omega, by omega, f29.elim (fun e9 z9 => ⟨nn.toNat, e9, _, by rw [← hdq9]; exact z9.1, z9.2, Or.inl ⟨by omega, rfl, rfl⟩⟩)⟩)⟩⟩)
          · refine tm_iconst dX12_go_50 ?_
            exact tm_iret rfl dX12_go_51 (⟨_, rfl, (Fr.rfl.S (by decide)), (hR.S (by omega)), fun a c => (hr7 a c).fr (Fr.rfl.S (by decide) : Fr [0] [] [] σ (sS 0 0 σ)) (by decide) (by decide), XM.of (Fr.rfl.S (by decide) : Fr [0] [] [] σ (sS 0 0 σ)) (by decide), ⟨Int.le_refl _, by show σ.1 70 ≤ σ.1 70 + 20000; omega⟩, ⟨Int.le_refl _, by show σ.2.1 76 0 ≤ σ.2.1 76 0 + 20000; omega⟩, by unfold GOF7; first | exact Or.inl ⟨by omega, rfl, rfl⟩ | exact Or.inr ⟨by omega, Or.inl ⟨by omega, rfl, rfl⟩⟩ | exact Or.inr ⟨by omega, Or.inr (Or.inl ⟨by omega, by omega, rfl, rfl⟩)⟩⟩)
        · refine tm_iconst dX12_go_41 ?_
          exact tm_iret rfl dX12_go_42 (⟨_, rfl, (Fr.rfl.S (by decide)), (hR.S (by omega)), fun a c => (hr7 a c).fr (Fr.rfl.S (by decide) : Fr [0] [] [] σ (sS 0 0 σ)) (by decide) (by decide), XM.of (Fr.rfl.S (by decide) : Fr [0] [] [] σ (sS 0 0 σ)) (by decide), ⟨Int.le_refl _, by show σ.1 70 ≤ σ.1 70 + 20000; omega⟩, ⟨Int.le_refl _, by show σ.2.1 76 0 ≤ σ.2.1 76 0 + 20000; omega⟩, by unfold GOF7; first | exact Or.inl ⟨by omega, rfl, rfl⟩ | exact Or.inr ⟨by omega, Or.inl ⟨by omega, rfl, rfl⟩⟩ | exact Or.inr ⟨by omega, Or.inr (Or.inl ⟨by omega, by omega, rfl, rfl⟩)⟩⟩)
      · refine tm_iconst dX12_go_32 ?_
        exact tm_iret rfl dX12_go_33 (⟨_, rfl, (Fr.rfl.S (by decide)), (hR.S (by omega)), fun a c => (hr7 a c).fr (Fr.rfl.S (by decide) : Fr [0] [] [] σ (sS 0 0 σ)) (by decide) (by decide), XM.of (Fr.rfl.S (by decide) : Fr [0] [] [] σ (sS 0 0 σ)) (by decide), ⟨Int.le_refl _, by show σ.1 70 ≤ σ.1 70 + 20000; omega⟩, ⟨Int.le_refl _, by show σ.2.1 76 0 ≤ σ.2.1 76 0 + 20000; omega⟩, by unfold GOF7; first | exact Or.inl ⟨by omega, rfl, rfl⟩ | exact Or.inr ⟨by omega, Or.inl ⟨by omega, rfl, rfl⟩⟩ | exact Or.inr ⟨by omega, Or.inr (Or.inl ⟨by omega, by omega, rfl, rfl⟩)⟩⟩)
