def NMN (σ τ : MS) (w : Int64) : Prop := σ.1 25 = 1 → σ.1 30 < 6 → (∀ j, 0 ≤ j → j < σ.2.1 35 (σ.1 30) → σ.2.2 38 (12 * σ.1 30 + j) ≠ w) → τ.1 26 = 0 → τ.2.1 35 (σ.1 30) = σ.2.1 35 (σ.1 30) + 1
def DUF (ρ σ : MS) : Prop := σ.1 26 = 0 → ρ.1 30 < 6 → ∀ j, 0 ≤ j → j < ρ.2.1 35 (ρ.1 30) → ρ.2.2 38 (12 * ρ.1 30 + j) ≠ ρ.2.2 24 0

set_option maxHeartbeats 4000000 in
set_option maxRecDepth 20000 in
theorem l_nameOf2 (d : Nat) {b : Nat} {σ : MS} {w : Int64} {p : Int} {post : Option Value → MS → Prop} (hR : RG σ) (hnn : NN σ) (hr6 : 0 ≤ σ.1 30 ∧ σ.1 30 < 6) (hx_55 : ∀ (i : Int) , (∀ j, 0 ≤ j → j < σ.2.1 35 (σ.1 30) → σ.2.2 38 (12 * σ.1 30 + j) ≠ w) → Tm (d + 2) m_X12_nameOf 55 b σ [(4, .int (iI i)), (0, .ref b), (1, .long (w)), (3, .int (iI p))] [] post) (hr1 : ∀ v, 0 ≤ v → v < σ.2.1 35 (σ.1 30) → v < 12 → σ.2.2 38 (12 * σ.1 30 + v) = w → post (some (.int (iI v))) σ) : ∀ (n : Nat) (i : Int) , (0 ≤ i ∧ i ≤ 12) → (∀ j, 0 ≤ j → j < i → σ.2.2 38 (12 * σ.1 30 + j) ≠ w) → (12 - i).toNat = n → Tm (d + 2) m_X12_nameOf 12 b σ [(4, .int (iI i)), (0, .ref b), (1, .long (w)), (3, .int (iI p))] [] post := by
  intro n
  induction n using Nat.strongRecOn with
  | _ n ih =>
    intro i h0 hnf hm
    have hn1 := hnn (σ.1 30) hr6.1 hr6.2
    refine tm_iload dX12_nameOf_12 0 rfl ?_
    refine tm_aload_n dX12_nameOf_14 rfl 1 rfl ?_
    refine tm_get (k := 35) (v := .ref (b + 1 + 16)) lay_12 dX12_nameOf_15 (by decide) fl12_63 rfl ?_
    refine tm_aload_n dX12_nameOf_18 rfl 1 rfl ?_
    refine tm_getS (k := 30) (t := σ.1 30) dX12_nameOf_19 (by decide) fl12_268 rfl (rfl) ?_
    have g1 := RG.s hR 30
    refine tm_iald (z := σ.1 30) (v := σ.2.1 35 (σ.1 30)) dX12_nameOf_22 (show mT[16]? = some (35, 0, 6) from rfl) (by omega) (by omega) (by decide) (rfl) ?_
    have g2 := RG.a hR 35 (σ.1 30)
    refine tm_icmp_ge (tgt := 55) dX12_nameOf_23 (by decide) ⟨by omega, by omega⟩ ⟨by omega, by omega⟩ (fun h3 => ?_) (fun h3 => ?_)
    · exact tm_sub [0, 1, 2, 3] rfl (hx_55 (i) (fun j a c => hnf j a (by omega)))
    · refine tm_aload_n dX12_nameOf_26 rfl 1 rfl ?_
      refine tm_get (k := 38) (v := .ref (b + 1 + 19)) lay_12 dX12_nameOf_27 (by decide) fl12_72 rfl ?_
      refine tm_bipush dX12_nameOf_30 (by decide) ?_
      refine tm_aload_n dX12_nameOf_32 rfl 1 rfl ?_
      refine tm_getS (k := 30) (t := σ.1 30) dX12_nameOf_33 (by decide) fl12_268 rfl (rfl) ?_
      have g4 := RG.s hR 30
      refine tm_imul dX12_nameOf_36 ?_
      refine tm_iload dX12_nameOf_37 0 rfl ?_
      refine tm_iadd dX12_nameOf_39 ?_
      refine tm_lald (z := (12 * (σ.1 30)) + i) (v := σ.2.2 38 ((12 * (σ.1 30)) + i)) dX12_nameOf_40 (show mT[19]? = some (38, 3, 72) from rfl) (by omega) (by omega) (by decide) (rfl) ?_
      refine tm_lload_n dX12_nameOf_41 rfl 2 rfl ?_
      refine tm_lcmp dX12_nameOf_42 ?_
      have g5 := lcI_b (σ.2.2 38 ((12 * (σ.1 30)) + i)) (w)
      refine tm_if_ne (tgt := 49) dX12_nameOf_43 (by decide) ⟨by omega, by omega⟩ (fun h6 => ?_) (fun h6 => ?_)
      · have h6e : ¬ (σ.2.2 38 ((12 * (σ.1 30)) + i)) = (w) := fun q => h6 (lcI_0.mpr q)
        refine tm_iinc (q0 := 0) (L' := [(4, .int (iI (i + 1))), (0, .ref b), (1, .long (w)), (3, .int (iI p))]) dX12_nameOf_49 rfl (by decide) rfl ?_
        refine tm_goto (tgt := 12) dX12_nameOf_52 (by decide) ?_
        exact tm_sub [0, 1, 2, 3] rfl (ih _ (by omega) (i + 1) (by omega) (fun j a c => (Classical.em (j = i)).elim (fun e y => by rw [e] at y; contradiction) (fun e => hnf j a (by omega))) rfl)
      · have h6e := lcI_0.mp h6
        refine tm_iload dX12_nameOf_46 0 rfl ?_
        exact tm_iret rfl dX12_nameOf_48 (hr1 _ (by omega) (by omega) (by omega) (by assumption))
set_option maxHeartbeats 4000000 in
set_option maxRecDepth 20000 in
theorem c2_X12_nameOf (d : Nat) {b : Nat} {σ : MS} {w : Int64} {p : Int} (hR : RG σ) (hnn : NN σ) (hr30 : 0 ≤ σ.1 30 ∧ σ.1 30 ≤ 2000) (h_p : -2147483648 ≤ p ∧ p ≤ 2147483647) : Tm (d + 2) m_X12_nameOf 0 b σ [(0, .ref b), (1, .long (w)), (3, .int (iI p))] [] (fun ro σ2 => ∃ v : Int, ro = some (.int (iI v)) ∧ (Fr [26, 27] [35] [38] σ σ2) ∧ (RG σ2) ∧ (PBF σ σ2) ∧ (0 ≤ v ∧ v < 12) ∧ (σ2 = nmP w p σ) ∧ (NMN σ σ2 w)) := by
  refine tm_aload_n dX12_nameOf_0 rfl 0 rfl ?_
  refine tm_callV (M := m_X12_nameOf) (pc := 1) (ix := 271) (M' := m_X12_isKept) (As := []) (rest := []) dX12_nameOf_1 ok_X12_isKept im_X12_isKept se_X12_isKept ml12_271 np_X12_isKept rfl rfl (Nat.le_of_ble_eq_true rfl) (Nat.le_of_ble_eq_true rfl) rfl (c_X12_isKept (d) (σ := σ)  hR) (fun r1 σ2 hp => ?_)
  obtain ⟨v3, rfl, rfl, f4, f5⟩ := hp
  show Tm _ _ 4 b σ [(0, .ref b), (1, .long (w)), (3, .int (iI p))] [.int (iI v3)] _
  refine tm_if_ne (tgt := 9) dX12_nameOf_4 (by decide) ⟨by omega, by omega⟩ (fun h6 => ?_) (fun h6 => ?_)
  · refine tm_iconst dX12_nameOf_9 ?_
    refine tm_istore (L' := [(4, .int (iI 0)), (0, .ref b), (1, .long (w)), (3, .int (iI p))]) dX12_nameOf_10 (by decide) rfl ?_
    refine tm_sub [0, 1, 2, 3] rfl (l_nameOf2 (d) (σ := σ) (p := p) (w := w) hR hnn (by omega) (fun i11 f10 => ?_) (fun v h1 h2 h3 h4 => ⟨_, rfl, Fr.rfl, hR, PBF.nop hnn (Fr.rfl : Fr [] [] [] σ σ) (by decide) (by decide) (by decide), ⟨h1, h3⟩, by unfold nmP; rw [ifP_t (by omega), ifP_t ⟨v, h1, h2, h4⟩], fun _ _ z3 _ => absurd h4 (z3 v h1 h2)⟩) _ (0) (by omega) (fun j a c => absurd c (by omega)) rfl)
    show Tm _ _ 55 b σ [(4, .int (iI i11)), (0, .ref b), (1, .long (w)), (3, .int (iI p))] [] _
    have hn1 := hnn (σ.1 30) (by omega) (by omega)
    have nf : ¬ NFD σ w := fun z => by obtain ⟨n, z1, z2, z3⟩ := z; exact f10 n z1 z2 z3
    refine tm_aload_n dX12_nameOf_55 rfl 1 rfl ?_
    refine tm_get (k := 35) (v := .ref (b + 1 + 16)) lay_12 dX12_nameOf_56 (by decide) fl12_63 rfl ?_
    refine tm_aload_n dX12_nameOf_59 rfl 1 rfl ?_
    refine tm_getS (k := 30) (t := σ.1 30) dX12_nameOf_60 (by decide) fl12_268 rfl (rfl) ?_
    have g12 := RG.s hR 30
    refine tm_iald (z := σ.1 30) (v := σ.2.1 35 (σ.1 30)) dX12_nameOf_63 (show mT[16]? = some (35, 0, 6) from rfl) (by omega) (by omega) (by decide) (rfl) ?_
    have g13 := RG.a hR 35 (σ.1 30)
    refine tm_bipush dX12_nameOf_64 (by decide) ?_
    refine tm_icmp_ne (tgt := 77) dX12_nameOf_66 (by decide) ⟨by omega, by omega⟩ ⟨by decide, by decide⟩ (fun h14 => ?_) (fun h14 => ?_)
    · refine tm_aload_n dX12_nameOf_77 rfl 1 rfl ?_
      refine tm_getS (k := 25) (t := σ.1 25) dX12_nameOf_78 (by decide) fl12_255 rfl (rfl) ?_
      have g15 := RG.s hR 25
      refine tm_iconst dX12_nameOf_81 ?_
      refine tm_icmp_ne (tgt := 121) dX12_nameOf_82 (by decide) ⟨by omega, by omega⟩ ⟨by decide, by decide⟩ (fun h16 => ?_) (fun h16 => ?_)
      · refine tm_iconst dX12_nameOf_121 ?_
        exact tm_iret rfl dX12_nameOf_122 (⟨_, rfl, Fr.rfl, hR, PBF.nop hnn (Fr.rfl : Fr [] [] [] σ σ) (by decide) (by decide) (by decide), by omega, by unfold nmP; rw [ifP_t (by omega), ifP_f nf, ifP_f (by omega), ifP_f (by omega)], fun z1 z2 => absurd z1 (by omega)⟩)
      · refine tm_aload_n dX12_nameOf_85 rfl 1 rfl ?_
        refine tm_get (k := 38) (v := .ref (b + 1 + 19)) lay_12 dX12_nameOf_86 (by decide) fl12_72 rfl ?_
        refine tm_bipush dX12_nameOf_89 (by decide) ?_
        refine tm_aload_n dX12_nameOf_91 rfl 1 rfl ?_
        refine tm_getS (k := 30) (t := σ.1 30) dX12_nameOf_92 (by decide) fl12_268 rfl (rfl) ?_
        have g17 := RG.s hR 30
        refine tm_imul dX12_nameOf_95 ?_
        refine tm_aload_n dX12_nameOf_96 rfl 1 rfl ?_
        refine tm_get (k := 35) (v := .ref (b + 1 + 16)) lay_12 dX12_nameOf_97 (by decide) fl12_63 rfl ?_
        refine tm_aload_n dX12_nameOf_100 rfl 1 rfl ?_
        refine tm_getS (k := 30) (t := σ.1 30) dX12_nameOf_101 (by decide) fl12_268 rfl (rfl) ?_
        have g18 := RG.s hR 30
        refine tm_iald (z := σ.1 30) (v := σ.2.1 35 (σ.1 30)) dX12_nameOf_104 (show mT[16]? = some (35, 0, 6) from rfl) (by omega) (by omega) (by decide) (rfl) ?_
        have g19 := RG.a hR 35 (σ.1 30)
        refine tm_iadd dX12_nameOf_105 ?_
        refine tm_lload_n dX12_nameOf_106 rfl 2 rfl ?_
        refine tm_last (z := (12 * (σ.1 30)) + (σ.2.1 35 (σ.1 30))) (v := w) dX12_nameOf_107 (show mT[19]? = some (38, 3, 72) from rfl) (by decide) (by omega) (by omega) (by decide) ?_
        refine tm_aload_n dX12_nameOf_108 rfl 1 rfl ?_
        refine tm_get (k := 35) (v := .ref (b + 1 + 16)) lay_12 dX12_nameOf_109 (by decide) fl12_63 rfl ?_
        refine tm_aload_n dX12_nameOf_112 rfl 1 rfl ?_
        refine tm_getS (k := 30) (t := σ.1 30) dX12_nameOf_113 (by decide) fl12_268 rfl (rs_J (rfl)) ?_
        have g20 := RG.s hR 30
        refine tm_dup2 dX12_nameOf_116 rfl rfl ?_
        refine tm_iald (z := σ.1 30) (v := σ.2.1 35 (σ.1 30)) dX12_nameOf_117 (show mT[16]? = some (35, 0, 6) from rfl) (by omega) (by omega) (by decide) (ra_J (rfl)) ?_
        have g21 := RG.a hR 35 (σ.1 30)
        refine tm_iconst dX12_nameOf_118 ?_
        refine tm_iadd dX12_nameOf_119 ?_
        refine tm_iast (z := σ.1 30) (v := (σ.2.1 35 (σ.1 30)) + 1) dX12_nameOf_120 (show mT[16]? = some (35, 0, 6) from rfl) (by omega) (by omega) (by decide) ?_
        refine tm_iconst dX12_nameOf_121 ?_
        exact tm_iret rfl dX12_nameOf_122 (⟨_, rfl, ((Fr.rfl.J (by decide)).A (by decide)), ((hR.J).A (by omega)), PBF.name hnn (by omega) (by omega) (by omega), by omega, by unfold nmP; rw [ifP_t (by omega), ifP_f nf, ifP_f (by omega), ifP_t (by omega)], fun _ _ _ _ => ra_eq⟩)
    · refine tm_aload_n dX12_nameOf_69 rfl 1 rfl ?_
      refine tm_iconst dX12_nameOf_70 ?_
      refine tm_iload_n dX12_nameOf_71 rfl 3 rfl ?_
      refine tm_callV (M := m_X12_nameOf) (pc := 72) (ix := 274) (M' := m_X12_note) (As := [.int (iI 5), .int (iI p)]) (rest := []) dX12_nameOf_72 ok_X12_note im_X12_note se_X12_note ml12_274 np_X12_note rfl rfl (Nat.le_of_ble_eq_true rfl) (Nat.le_of_ble_eq_true rfl) rfl (c2_X12_note (d) (σ := σ) (f := 5) (p := p) hR (by omega) (by omega)) (fun r22 σ23 hp => ?_)
      obtain ⟨rfl, f25, f26, f27, f28, f29⟩ := hp
      show Tm _ _ 75 b σ23 [(4, .int (iI i11)), (0, .ref b), (1, .long (w)), (3, .int (iI p))] [] _
      refine tm_iconst dX12_nameOf_75 ?_
      exact tm_iret rfl dX12_nameOf_76 (⟨_, rfl, (Fr.rfl.trans (Fr.sub f25 (by decide) (by decide) (by decide))), f26, PBF.of hnn f25 (by decide) (by decide) (by decide) f27, by omega, by unfold nmP; rw [ifP_t (by omega), ifP_f nf, ifP_t (by omega)]; exact f29, fun z1 _ _ z4 => absurd z4 (f28 (by omega))⟩)
  · refine tm_iconst dX12_nameOf_7 ?_
    exact tm_iret rfl dX12_nameOf_8 (⟨_, rfl, Fr.rfl, hR, PBF.nop hnn (Fr.rfl : Fr [] [] [] σ σ) (by decide) (by decide) (by decide), by omega, by unfold nmP; rw [ifP_f (by omega)], fun z1 z2 => absurd z1 (by omega)⟩)
