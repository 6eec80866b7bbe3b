theorem dX12_goOver_42 : decode cX12_goOver 42 = .ok (.iload_n 2, 1) := by decide +kernel
theorem dX12_goOver_43 : decode cX12_goOver 43 = .ok (.bipush 6, 2) := by decide +kernel
theorem dX12_goOver_45 : decode cX12_goOver 45 = .ok (.if_icmp .ge 23, 3) := by decide +kernel
theorem dX12_goOver_48 : decode cX12_goOver 48 = .ok (.aload_n 0, 1) := by decide +kernel
theorem dX12_goOver_49 : decode cX12_goOver 49 = .ok (.getfield 63, 3) := by decide +kernel
theorem dX12_goOver_52 : decode cX12_goOver 52 = .ok (.iload_n 2, 1) := by decide +kernel
theorem dX12_goOver_53 : decode cX12_goOver 53 = .ok (.iconst 0, 1) := by decide +kernel
theorem dX12_goOver_54 : decode cX12_goOver 54 = .ok (.iastore, 1) := by decide +kernel
theorem dX12_goOver_55 : decode cX12_goOver 55 = .ok (.aload_n 0, 1) := by decide +kernel
theorem dX12_goOver_56 : decode cX12_goOver 56 = .ok (.getfield 66, 3) := by decide +kernel
theorem dX12_goOver_59 : decode cX12_goOver 59 = .ok (.iload_n 2, 1) := by decide +kernel
theorem dX12_goOver_60 : decode cX12_goOver 60 = .ok (.iconst 0, 1) := by decide +kernel
theorem dX12_goOver_61 : decode cX12_goOver 61 = .ok (.iastore, 1) := by decide +kernel
theorem dX12_goOver_62 : decode cX12_goOver 62 = .ok (.iinc 2 1, 3) := by decide +kernel
theorem dX12_goOver_65 : decode cX12_goOver 65 = .ok (.goto (-23), 3) := by decide +kernel
set_option maxHeartbeats 4000000 in
set_option maxRecDepth 20000 in
theorem l_go42 (d : Nat) {b : Nat} {σ0 : MS} {w : Int} {post : Option Value → MS → Prop} (hR0 : RG σ0) (hx_68 : ∀ (i : Int) (σ : MS) , (Fr [] [35, 36] [] σ0 σ) → (RG σ) → (NN σ) → (∀ r, 0 ≤ r → r < 6 → σ.2.1 35 r = 0) → Tm (d + 1) m_X12_goOver 68 b σ [(2, .int (iI i)), (1, .int (iI w)), (0, .ref b)] [] post) : ∀ (n : Nat) (i : Int) (σ : MS) , (Fr [] [35, 36] [] σ0 σ) → (RG σ) → (0 ≤ i ∧ i ≤ 6) → (∀ r, 0 ≤ r → r < i → σ.2.1 35 r = 0) → (6 - i).toNat = n → Tm (d + 1) m_X12_goOver 42 b σ [(2, .int (iI i)), (1, .int (iI w)), (0, .ref b)] [] post := by
  intro n
  induction n using Nat.strongRecOn with
  | _ n ih =>
    intro i σ hF hR h0 hz hm
    refine tm_iload_n dX12_goOver_42 rfl 0 rfl ?_
    refine tm_bipush dX12_goOver_43 (by decide) ?_
    refine tm_icmp_ge (tgt := 68) dX12_goOver_45 (by decide) ⟨by omega, by omega⟩ ⟨by decide, by decide⟩ (fun h1 => ?_) (fun h1 => ?_)
    · exact tm_sub [0, 1, 2] rfl (hx_68 (i) σ (Fr.rfl.trans (Fr.sub hF (by decide) (by decide) (by decide))) hR (fun r a c => by rw [hz r a (by omega)]; decide) (fun r a c => hz r a (by omega)))
    · refine tm_aload_n dX12_goOver_48 rfl 2 rfl ?_
      refine tm_get (k := 35) (v := .ref (b + 1 + 16)) lay_12 dX12_goOver_49 (by decide) fl12_63 rfl ?_
      refine tm_iload_n dX12_goOver_52 rfl 0 rfl ?_
      refine tm_iconst dX12_goOver_53 ?_
      refine tm_iast (z := i) (v := 0) dX12_goOver_54 (show mT[16]? = some (35, 0, 6) from rfl) (by omega) (by omega) (by decide) ?_
      refine tm_aload_n dX12_goOver_55 rfl 2 rfl ?_
      refine tm_get (k := 36) (v := .ref (b + 1 + 17)) lay_12 dX12_goOver_56 (by decide) fl12_66 rfl ?_
      refine tm_iload_n dX12_goOver_59 rfl 0 rfl ?_
      refine tm_iconst dX12_goOver_60 ?_
      refine tm_iast (z := i) (v := 0) dX12_goOver_61 (show mT[17]? = some (36, 0, 6) from rfl) (by omega) (by omega) (by decide) ?_
      refine tm_iinc (q0 := 0) (L' := [(2, .int (iI (i + 1))), (1, .int (iI w)), (0, .ref b)]) dX12_goOver_62 rfl (by decide) rfl ?_
      refine tm_goto (tgt := 42) dX12_goOver_65 (by decide) ?_
      exact tm_sub [0, 1, 2] rfl (ih _ (by omega) (i + 1) (sA 36 (i) (0) (sA 35 (i) (0) σ)) (((Fr.rfl.trans (Fr.sub hF (by decide) (by decide) (by decide))).A (by decide)).A (by decide)) ((hR.A (by omega)).A (by omega)) (by omega) (fun r a c => (Classical.em (r = i)).elim (fun z => by rw [z]; exact ra_o (by decide) ra_eq) (fun z => (show _ = σ.2.1 35 r from ra_o (by decide) (ra_ne z rfl)).trans (hz r a (by omega)))) rfl)
theorem dX12_goOver_70 : decode cX12_goOver 70 = .ok (.iload_n 2, 1) := by decide +kernel
theorem dX12_goOver_71 : decode cX12_goOver 71 = .ok (.bipush 6, 2) := by decide +kernel
theorem dX12_goOver_73 : decode cX12_goOver 73 = .ok (.if_icmp .ge 16, 3) := by decide +kernel
theorem dX12_goOver_76 : decode cX12_goOver 76 = .ok (.aload_n 0, 1) := by decide +kernel
theorem dX12_goOver_77 : decode cX12_goOver 77 = .ok (.getfield 69, 3) := by decide +kernel
theorem dX12_goOver_80 : decode cX12_goOver 80 = .ok (.iload_n 2, 1) := by decide +kernel
theorem dX12_goOver_81 : decode cX12_goOver 81 = .ok (.iconst 0, 1) := by decide +kernel
theorem dX12_goOver_82 : decode cX12_goOver 82 = .ok (.iastore, 1) := by decide +kernel
theorem dX12_goOver_83 : decode cX12_goOver 83 = .ok (.iinc 2 1, 3) := by decide +kernel
theorem dX12_goOver_86 : decode cX12_goOver 86 = .ok (.goto (-16), 3) := by decide +kernel
set_option maxHeartbeats 4000000 in
set_option maxRecDepth 20000 in
theorem l_go70 (d : Nat) {b : Nat} {σ0 : MS} {w : Int} {post : Option Value → MS → Prop} (hR0 : RG σ0) (hx_89 : ∀ (i : Int) (σ : MS) , (Fr [] [37] [] σ0 σ) → (RG σ) → Tm (d + 1) m_X12_goOver 89 b σ [(2, .int (iI i)), (1, .int (iI w)), (0, .ref b)] [] post) : ∀ (n : Nat) (i : Int) (σ : MS) , (Fr [] [37] [] σ0 σ) → (RG σ) → (0 ≤ i ∧ i ≤ 6) → (6 - i).toNat = n → Tm (d + 1) m_X12_goOver 70 b σ [(2, .int (iI i)), (1, .int (iI w)), (0, .ref b)] [] post := by
  intro n
  induction n using Nat.strongRecOn with
  | _ n ih =>
    intro i σ hF hR h0 hm
    refine tm_iload_n dX12_goOver_70 rfl 0 rfl ?_
    refine tm_bipush dX12_goOver_71 (by decide) ?_
    refine tm_icmp_ge (tgt := 89) dX12_goOver_73 (by decide) ⟨by omega, by omega⟩ ⟨by decide, by decide⟩ (fun h1 => ?_) (fun h1 => ?_)
    · exact tm_sub [0, 1, 2] rfl (hx_89 (i) σ (Fr.rfl.trans (Fr.sub hF (by decide) (by decide) (by decide))) hR)
    · refine tm_aload_n dX12_goOver_76 rfl 2 rfl ?_
      refine tm_get (k := 37) (v := .ref (b + 1 + 18)) lay_12 dX12_goOver_77 (by decide) fl12_69 rfl ?_
      refine tm_iload_n dX12_goOver_80 rfl 0 rfl ?_
      refine tm_iconst dX12_goOver_81 ?_
      refine tm_iast (z := i) (v := 0) dX12_goOver_82 (show mT[18]? = some (37, 0, 6) from rfl) (by omega) (by omega) (by decide) ?_
      refine tm_iinc (q0 := 0) (L' := [(2, .int (iI (i + 1))), (1, .int (iI w)), (0, .ref b)]) dX12_goOver_83 rfl (by decide) rfl ?_
      refine tm_goto (tgt := 70) dX12_goOver_86 (by decide) ?_
      exact tm_sub [0, 1, 2] rfl (ih _ (by omega) (i + 1) (sA 37 (i) (0) σ) ((Fr.rfl.trans (Fr.sub hF (by decide) (by decide) (by decide))).A (by decide)) (hR.A (by omega)) (by omega) rfl)
theorem ml12_379 : Cond.methodLink RX12 379 yX12_oneRoutine ∈ pWW := pw8 (List.mem_of_getElem? (i := 148) rfl) rfl
theorem dX12_goOver_93 : decode cX12_goOver 93 = .ok (.aload_n 0, 1) := by decide +kernel
theorem dX12_goOver_94 : decode cX12_goOver 94 = .ok (.getfield 226, 3) := by decide +kernel
theorem dX12_goOver_97 : decode cX12_goOver 97 = .ok (.ifCond .eq 12, 3) := by decide +kernel
theorem dX12_goOver_109 : decode cX12_goOver 109 = .ok (.iconst 1, 1) := by decide +kernel
theorem dX12_goOver_110 : decode cX12_goOver 110 = .ok (.ireturn, 1) := by decide +kernel
theorem dX12_goOver_100 : decode cX12_goOver 100 = .ok (.aload_n 0, 1) := by decide +kernel
theorem dX12_goOver_101 : decode cX12_goOver 101 = .ok (.invokevirtual 379, 3) := by decide +kernel
theorem dX12_goOver_104 : decode cX12_goOver 104 = .ok (.ifCond .ne (-11), 3) := by decide +kernel
theorem dX12_goOver_107 : decode cX12_goOver 107 = .ok (.iconst 0, 1) := by decide +kernel
theorem dX12_goOver_108 : decode cX12_goOver 108 = .ok (.ireturn, 1) := by decide +kernel
set_option maxHeartbeats 4000000 in
set_option maxRecDepth 20000 in
theorem l_go93 (d : Nat) {b : Nat} {σ0 : MS} {w : Int} {ρ : MS} {σa : MS} {post : Option Value → MS → Prop} (hR0 : RG σ0) (hw : 0 ≤ w ∧ w ≤ 3) (hbg : GBG w ρ σa) (hfa : Fr [19, 20, 22, 23] [] [24] σa σ0) (e1 : tks σ0 = advT (sv σ0) 0) (e2 : σ0.1 28 = 0 ∧ σ0.1 29 = 0) (hen : w = 3 → GEN (sv σ0) σ0) (h25 : σ0.1 25 = w) (svr : sv σ0 = sv ρ) (tbr : w ≠ 1 → TBm ρ σ0) (hret : ∀ (v : Int) (τ : MS), Fr [19, 20, 22, 23, 25, 26, 27, 28, 29, 30, 31, 32, 33, 34, 39, 40, 43] [3, 4, 5, 6, 7, 8, 9, 35, 36, 37, 41, 42, 45] [24, 38, 44] σ0 τ → RG τ → (v = 0 ∨ v = 1) → GKP w ρ τ → (v = 1 → GQ1 w ρ τ) → (v = 0 → GFL (sS 25 w ρ) τ) → post (some (.int (iI v))) τ) : ∀ (n : Nat) (σ : MS) , (Fr [19, 20, 22, 23, 25, 26, 27, 28, 29, 30, 31, 32, 33, 34, 39, 40, 43] [3, 4, 5, 6, 7, 8, 9, 35, 36, 37, 41, 42, 45] [24, 38, 44] σ0 σ) → (RG σ) → (∃ lg, GRD σ0 σ lg ∧ nR lg = σ.1 30 ∧ (w = 2 → σ.1 26 = 0 → ∀ e ∈ lg, E2 σ0 e)) → (TOK σ) → (0 ≤ σ.1 30 ∧ 5 * σ.1 30 ≤ σ.1 19) → (0 ≤ σ.1 31 ∧ σ.1 31 ≤ σ.1 19) → (σ.1 28 = 0 ∧ σ.1 29 = 0) → (w = 1 → σ.1 43 = σ.1 30) → (PGO σ0 σ) → (w = 1 → IV1 σ) → (w = 3 → (∀ r, 0 ≤ r → r < σ.1 30 → PLI σ r) ∧ ∀ j, σ.1 30 ≤ j → σ.2.1 9 j = σ0.2.1 9 j) → (1300 - σ.1 19).toNat = n → Tm (d + 64) m_X12_goOver 93 b σ [(1, .int (iI w)), (0, .ref b)] [] post := by
  intro n
  induction n using Nat.strongRecOn with
  | _ n ih =>
    intro  σ hF hR hI htk h30 h31 h28 h43 hpg hv1 hv3 hm
    obtain ⟨lg, gr, gn, g2⟩ := hI
    have tk := htk.1
    have e25 : σ.1 25 = w := hpg.2.2.2.2.1.trans h25
    have fsv : sv σ = sv σ0 := sv_fr hF (by decide) (by decide)
    refine tm_aload_n dX12_goOver_93 rfl 1 rfl ?_
    refine tm_getS (k := 22) (t := σ.1 22) dX12_goOver_94 (by decide) fl12_226 rfl (rfl) ?_
    have g1 := RG.s hR 22
    refine tm_if_eq (tgt := 109) dX12_goOver_97 (by decide) ⟨by omega, by omega⟩ (fun h2 => ?_) (fun h2 => ?_)
    · refine tm_iconst dX12_goOver_109 ?_
      obtain ⟨t9, x9, e9, r9, f9⟩ := gr.fin e1 e2 (by omega)
      exact tm_zret (v := 1) rfl (by decide) dX12_goOver_110 (hret _ _ (Fr.rfl.trans (Fr.sub hF (by decide) (by decide) (by decide))) hR (by omega) (hbg.kp hfa hpg) (fun _ => ⟨t9, x9, lg, e9, ⟨by rw [← svr]; exact r9, σ0, hbg.igo hfa, f9⟩, gn, fun z1 z2 e he => (g2 z1 z2 e he).bt (tbr (by omega)), fun z => ⟨h43 z, hv1 z⟩, fun z => ⟨(hv3 z).1, fun j c => ((hv3 z).2 j c).trans (congrFun ((hfa.2.1 9 (by decide)).trans (hbg.1.2.1 9 (by decide))) j)⟩⟩) (fun q => absurd q (by decide)))
    · have tb0 : w ≠ 1 → TBm σ0 σ := fun z => (hpg.2.1 (by rw [h25]; exact z)).2.2.2
      have hoh : ORH σ := ⟨htk, by omega, h30, h31, h28, hpg.2.2.1, ⟨hpg.2.2.2.2.2, fun z => h43 (by omega)⟩, HQR.mk gr e1 e2 gn (fun z => hen (by omega)) (fun z => tb0 (by omega)) (by omega)⟩
      refine tm_aload_n dX12_goOver_100 rfl 1 rfl ?_
      refine tm_callV (M := m_X12_goOver) (pc := 101) (ix := 379) (M' := m_X12_oneRoutine) (As := []) (rest := []) dX12_goOver_101 ok_X12_oneRoutine im_X12_oneRoutine se_X12_oneRoutine ml12_379 np_X12_oneRoutine rfl rfl (Nat.le_of_ble_eq_true rfl) (Nat.le_of_ble_eq_true rfl) rfl (c_X12_oneRoutine (d) (σ := σ)  hR hoh) (fun r3 σ4 hp => ?_)
      obtain ⟨v5, rfl, f6, f7, f8, f9, f10, f11⟩ := hp
      show Tm _ _ 104 b σ4 [(1, .int (iI w)), (0, .ref b)] [.int (iI v5)] _
      have on0 := f6
      have on1 := f7
      have on2 := f8
      have on3 := f9
      have on4 := f10
      have on5 := f11
      refine tm_if_ne (tgt := 93) dX12_goOver_104 (by decide) ⟨by omega, by omega⟩ (fun h12 => ?_) (fun h12 => ?_)
      · have oq := on4 (by omega)
        obtain ⟨l2, q1, q2, q3, q4, q5⟩ := oq.2.2
        have r6 : w = 3 → σ.1 30 < 6 := fun z => (hoh.2.2.2.2.2.2.2 (by omega) _ _ q1).1 (by rw [q2]; decide)
        have tkz := oq.1.1
        have plz := oq.2.1.2.1
        exact tm_sub [0, 1] rfl (ih _ (by omega)  σ4 ((Fr.rfl.trans (Fr.sub hF (by decide) (by decide) (by decide))).trans (Fr.sub f7 (by decide) (by decide) (by decide))) f8 (⟨lg ++ l2, gr.step (by omega) q1, by rw [nR_app, gn, q2, oq.2.1.1], fun z1 z2 e he => by have y1 : σ.1 26 = 0 := Classical.byContradiction (fun y => on3.2.2.2.1.1 y z2); rcases List.mem_append.mp he with y | y; exact g2 z1 y1 e y; exact (q3 (by omega) z2 e y).bt (tb0 (by omega))⟩) (oq.1) ((by have z := oq.2.1; omega)) (oq.2.1.2.2.1) (⟨oq.2.1.2.2.2.1, oq.2.1.2.2.2.2⟩) ((fun z => by have z1 := (q4 (by omega)).1; have z2 := h43 z; have z3 := oq.2.1.1; omega)) ((hpg.step on3)) ((fun z => (hv1 z).step (q4 (by omega)) on3.2.2.2.1 oq.2.1.1 (h43 z) h30.1)) ((fun z => ⟨fun r a c => (Classical.em (r = σ.1 30)).elim (fun y => by rw [y]; exact q5 (by omega)) (fun y => ((hv3 z).1 r a (by have z3 := oq.2.1.1; omega)).oth ⟨a, by have z3 := oq.2.1.1; have z4 := r6 z; omega⟩ on3 (by have z3 := oq.2.1.1; omega) (by omega)), fun j c => (on3.2.2.2.2.2.1 j (Or.inl (by have z3 := oq.2.1.1; omega))).trans ((hv3 z).2 j (by have z3 := oq.2.1.1; omega))⟩)) rfl)
      · refine tm_iconst dX12_goOver_107 ?_
        exact tm_zret (v := 0) rfl (by decide) dX12_goOver_108 (hret _ _ ((Fr.rfl.trans (Fr.sub hF (by decide) (by decide) (by decide))).trans (Fr.sub f7 (by decide) (by decide) (by decide))) f8 (by omega) (hbg.kp hfa (hpg.step on3)) (fun q => absurd q (by decide)) (fun _ => by obtain ⟨es, p, z1, z2⟩ := gr.fail e1 e2 (by omega) (on5 (by omega)); exact ⟨es, p, by show RE (sv ρ) (GST (sv ρ)) _ _; rw [← svr]; exact z1, fun y1 y2 => z2 (by rw [h25]; exact y1) (by rw [hfa.1 26 (by decide), hbg.1.1 26 (by decide)]; exact y2)⟩))
theorem dX12_goOver_68 : decode cX12_goOver 68 = .ok (.iconst 0, 1) := by decide +kernel
theorem dX12_goOver_69 : decode cX12_goOver 69 = .ok (.istore_n 2, 1) := by decide +kernel
theorem dX12_goOver_89 : decode cX12_goOver 89 = .ok (.aload_n 0, 1) := by decide +kernel
theorem dX12_goOver_90 : decode cX12_goOver 90 = .ok (.invokevirtual 265, 3) := by decide +kernel
set_option maxHeartbeats 4000000 in
set_option maxRecDepth 20000 in
theorem b_go68 (d : Nat) {b : Nat} {σ : MS} {w : Int} {ρ : MS} {post : Option Value → MS → Prop} (hR : RG σ) (hw : 0 ≤ w ∧ w ≤ 3) (hbg : GBG w ρ σ) (hlen : 0 ≤ ρ.1 21 ∧ ρ.1 21 ≤ 1200) (hq3 : w = 3 → GEN (sv ρ) ρ) (hret : ∀ (v : Int) (τ : MS), Fr [19, 20, 22, 23, 25, 26, 27, 28, 29, 30, 31, 32, 33, 34, 39, 40, 43] [3, 4, 5, 6, 7, 8, 9, 35, 36, 37, 41, 42, 45] [24, 38, 44] σ τ → RG τ → (v = 0 ∨ v = 1) → GKP w ρ τ → (v = 1 → GQ1 w ρ τ) → (v = 0 → GFL (sS 25 w ρ) τ) → post (some (.int (iI v))) τ) : ∀ (n : Nat) , ((0 : Int)).toNat = n → Tm (d + 64) m_X12_goOver 68 b σ [(1, .int (iI w)), (0, .ref b)] [] post := by
  intro n
  induction n using Nat.strongRecOn with
  | _ n ih =>
    intro   hm
    have hb2 := hbg.2.1
    have hb1 := hbg.1
    refine tm_iconst dX12_goOver_68 ?_
    refine tm_istore_n (L' := [(2, .int (iI 0)), (1, .int (iI w)), (0, .ref b)]) dX12_goOver_69 rfl (by decide) rfl ?_
    refine tm_sub [0, 1, 2] rfl (l_go70 (d + 63) (σ0 := σ) (w := w) hR (fun i5 σ6 F3 R4 => ?_) _ (0) σ Fr.rfl hR (by omega) rfl)
    show Tm _ _ 89 b σ6 [(2, .int (iI i5)), (1, .int (iI w)), (0, .ref b)] [] _
    have hbg9 : GBG w ρ σ6 := ⟨hb1.trans (Fr.sub F3 (by decide) (by decide) (by decide)), by rw [F3.1 25 (by decide), F3.1 20 (by decide), F3.1 28 (by decide), F3.1 29 (by decide), F3.1 30 (by decide), F3.1 31 (by decide)]; exact hb2, hbg.2.2.1.fr F3 (by decide), fun z => by rw [F3.1 43 (by decide), F3.2.1 35 (by decide)]; exact hbg.2.2.2.1 z, fun z => by rw [F3.1 43 (by decide), F3.2.1 35 (by decide), F3.2.1 36 (by decide)]; exact hbg.2.2.2.2.1 z, by rw [F3.1 43 (by decide)]; exact hbg.2.2.2.2.2⟩
    have e219 : σ6.1 21 = ρ.1 21 := hbg9.1.1 21 (by decide)
    have b20 := hbg9.2.1
    have R89 := R4
    refine tm_aload_n dX12_goOver_89 rfl 2 rfl ?_
    refine tm_callV (M := m_X12_goOver) (pc := 90) (ix := 265) (M' := m_X12_advance) (As := []) (rest := []) dX12_goOver_90 ok_X12_advance im_X12_advance se_X12_advance ml12_265 np_X12_advance rfl rfl (Nat.le_of_ble_eq_true rfl) (Nat.le_of_ble_eq_true rfl) rfl (c_X12_advance (d + 58) (σ := σ6)  R89 (by rw [e219]; omega)) (fun r7 σ8 hp => ?_)
    obtain ⟨rfl, f10, f11, f12, f13, f14⟩ := hp
    show Tm _ _ 93 b σ8 [(2, .int (iI i5)), (1, .int (iI w)), (0, .ref b)] [] _
    have ad0 := f10
    have ad1 := f11
    have ad2 := f12
    have ad3 := f13
    have ad4 := f14
    have sv1 : sv σ8 = sv σ6 := ad0.2.2.1
    have svr : sv σ8 = sv ρ := sv1.trans (sv_fr hbg9.1 (by decide) (by decide))
    have tbb : w ≠ 1 → TBm ρ σ6 := fun z => ⟨(hbg9.2.2.2.2.1 z).1, hbg9.1.2.1 11 (by decide), hbg9.1.2.1 45 (by decide), hbg9.1.2.2 44 (by decide)⟩
    have tka := ad3.1
    have tbr : w ≠ 1 → TBm ρ σ8 := fun z => (tbb z).trans (TBm.of ad1 (by decide) (by decide) (by decide) (by decide))
    have nna : NN σ8 := hbg9.2.2.1.fr ad1 (by decide)
    have a25 : σ8.1 25 = w := (ad1.1 25 (by decide)).trans b20.1
    have a28 : σ8.1 28 = 0 ∧ σ8.1 29 = 0 := ⟨(ad1.1 28 (by decide)).trans b20.2.2.1, (ad1.1 29 (by decide)).trans b20.2.2.2.1⟩
    have a30 : σ8.1 30 = 0 := (ad1.1 30 (by decide)).trans b20.2.2.2.2.1
    have a31 : σ8.1 31 = 0 := (ad1.1 31 (by decide)).trans b20.2.2.2.2.2
    have a43 : σ8.1 43 = σ6.1 43 := ad1.1 43 (by decide)
    have ae1 : tks σ8 = advT (sv σ8) 0 := by rw [sv1, ad0.1, b20.2.1]
    refine tm_sub [1, 2] rfl (l_go93 (d) (σ0 := σ8) (w := w) (ρ := ρ) (σa := σ6) f12 hw hbg9 ad1 ae1 a28 (fun z => by obtain ⟨t, x, l, r1, r2, r3⟩ := hq3 z; exact ⟨t, x, l, by rw [svr]; exact r1, r2, fun e he => (r3 e he).tb (tbr (by omega))⟩) a25 svr tbr (fun v τ z1 z2 z3 z4 z5 z6 => hret v τ ((show Fr [19, 20, 22, 23, 25, 26, 27, 28, 29, 30, 31, 32, 33, 34, 39, 40, 43] [3, 4, 5, 6, 7, 8, 9, 35, 36, 37, 41, 42, 45] [24, 38, 44] σ σ8 from ((Fr.rfl.trans (Fr.sub F3 (by decide) (by decide) (by decide))).trans (Fr.sub f11 (by decide) (by decide) (by decide)))).trans z1) z2 z3 z4 z5 z6) _ σ8 Fr.rfl f12 ⟨[], ⟨0, GOS.nop rfl rfl⟩, a30.symm, fun _ _ e he => absurd he (List.not_mem_nil)⟩ ad3 (by omega) (by omega) a28 (fun z => by rw [a43, a30]; exact (hbg9.2.2.2.1 z).1) (PGO.rfl nna (by rw [a43]; exact hbg9.2.2.2.2.2)) (fun _ _ => ⟨by omega, fun v z1 z2 => absurd z2 (by omega)⟩) (fun _ => ⟨fun r z1 z2 => absurd z2 (by omega), fun _ _ => rfl⟩) rfl)
theorem dX12_goOver_0 : decode cX12_goOver 0 = .ok (.aload_n 0, 1) := by decide +kernel
theorem dX12_goOver_1 : decode cX12_goOver 1 = .ok (.iload_n 1, 1) := by decide +kernel
theorem dX12_goOver_2 : decode cX12_goOver 2 = .ok (.putfield 255, 3) := by decide +kernel
theorem dX12_goOver_5 : decode cX12_goOver 5 = .ok (.aload_n 0, 1) := by decide +kernel
theorem dX12_goOver_6 : decode cX12_goOver 6 = .ok (.iconst 0, 1) := by decide +kernel
theorem dX12_goOver_7 : decode cX12_goOver 7 = .ok (.putfield 210, 3) := by decide +kernel
theorem dX12_goOver_10 : decode cX12_goOver 10 = .ok (.aload_n 0, 1) := by decide +kernel
theorem dX12_goOver_11 : decode cX12_goOver 11 = .ok (.iconst 0, 1) := by decide +kernel
theorem dX12_goOver_12 : decode cX12_goOver 12 = .ok (.putfield 268, 3) := by decide +kernel
theorem dX12_goOver_15 : decode cX12_goOver 15 = .ok (.aload_n 0, 1) := by decide +kernel
theorem dX12_goOver_16 : decode cX12_goOver 16 = .ok (.iconst 0, 1) := by decide +kernel
theorem dX12_goOver_17 : decode cX12_goOver 17 = .ok (.putfield 343, 3) := by decide +kernel
theorem dX12_goOver_20 : decode cX12_goOver 20 = .ok (.aload_n 0, 1) := by decide +kernel
theorem dX12_goOver_21 : decode cX12_goOver 21 = .ok (.iconst 0, 1) := by decide +kernel
theorem dX12_goOver_22 : decode cX12_goOver 22 = .ok (.putfield 304, 3) := by decide +kernel
theorem dX12_goOver_25 : decode cX12_goOver 25 = .ok (.aload_n 0, 1) := by decide +kernel
theorem dX12_goOver_26 : decode cX12_goOver 26 = .ok (.iconst 0, 1) := by decide +kernel
theorem dX12_goOver_27 : decode cX12_goOver 27 = .ok (.putfield 333, 3) := by decide +kernel
theorem dX12_goOver_30 : decode cX12_goOver 30 = .ok (.iload_n 1, 1) := by decide +kernel
theorem dX12_goOver_31 : decode cX12_goOver 31 = .ok (.iconst 1, 1) := by decide +kernel
theorem dX12_goOver_32 : decode cX12_goOver 32 = .ok (.if_icmp .ne 36, 3) := by decide +kernel
theorem dX12_goOver_35 : decode cX12_goOver 35 = .ok (.aload_n 0, 1) := by decide +kernel
theorem dX12_goOver_36 : decode cX12_goOver 36 = .ok (.iconst 0, 1) := by decide +kernel
theorem dX12_goOver_37 : decode cX12_goOver 37 = .ok (.putfield 376, 3) := by decide +kernel
theorem dX12_goOver_40 : decode cX12_goOver 40 = .ok (.iconst 0, 1) := by decide +kernel
theorem dX12_goOver_41 : decode cX12_goOver 41 = .ok (.istore_n 2, 1) := by decide +kernel
set_option maxHeartbeats 4000000 in
set_option maxRecDepth 20000 in
theorem c_X12_goOver (d : Nat) {b : Nat} {σ : MS} {w : Int} (hR : RG σ) (hw : 0 ≤ w ∧ w ≤ 3) (hlen : 0 ≤ σ.1 21 ∧ σ.1 21 ≤ 1200) (hnn : NN σ) (h43 : 0 ≤ σ.1 43 ∧ σ.1 43 ≤ 260) (hq3 : w = 3 → GEN (sv σ) σ) : Tm (d + 64) m_X12_goOver 0 b σ [(0, .ref b), (1, .int (iI w))] [] (fun ro σ2 => ∃ v : Int, ro = some (.int (iI v)) ∧ ((v = 0 ∨ v = 1)) ∧ (Fr [19, 20, 22, 23, 25, 26, 27, 28, 29, 30, 31, 32, 33, 34, 39, 40, 43] [3, 4, 5, 6, 7, 8, 9, 35, 36, 37, 41, 42, 45] [24, 38, 44] σ σ2) ∧ (RG σ2) ∧ (GKP w σ σ2) ∧ (Im v 1 (GQ1 w σ σ2)) ∧ (Im v 0 (GFL (sS 25 w σ) σ2))) := by
  refine tm_aload_n dX12_goOver_0 rfl 0 rfl ?_
  refine tm_iload_n dX12_goOver_1 rfl 1 rfl ?_
  refine tm_putS (k := 25) (v := w) lay_12 dX12_goOver_2 (by decide) fl12_255 rfl (tyX12_ok 25 (by decide)) rfl rfl rfl ?_
  refine tm_aload_n dX12_goOver_5 rfl 0 rfl ?_
  refine tm_iconst dX12_goOver_6 ?_
  refine tm_putS (k := 20) (v := 0) lay_12 dX12_goOver_7 (by decide) fl12_210 rfl (tyX12_ok 20 (by decide)) rfl rfl rfl ?_
  refine tm_aload_n dX12_goOver_10 rfl 0 rfl ?_
  refine tm_iconst dX12_goOver_11 ?_
  refine tm_putS (k := 30) (v := 0) lay_12 dX12_goOver_12 (by decide) fl12_268 rfl (tyX12_ok 30 (by decide)) rfl rfl rfl ?_
  refine tm_aload_n dX12_goOver_15 rfl 0 rfl ?_
  refine tm_iconst dX12_goOver_16 ?_
  refine tm_putS (k := 31) (v := 0) lay_12 dX12_goOver_17 (by decide) fl12_343 rfl (tyX12_ok 31 (by decide)) rfl rfl rfl ?_
  refine tm_aload_n dX12_goOver_20 rfl 0 rfl ?_
  refine tm_iconst dX12_goOver_21 ?_
  refine tm_putS (k := 28) (v := 0) lay_12 dX12_goOver_22 (by decide) fl12_304 rfl (tyX12_ok 28 (by decide)) rfl rfl rfl ?_
  refine tm_aload_n dX12_goOver_25 rfl 0 rfl ?_
  refine tm_iconst dX12_goOver_26 ?_
  refine tm_putS (k := 29) (v := 0) lay_12 dX12_goOver_27 (by decide) fl12_333 rfl (tyX12_ok 29 (by decide)) rfl rfl rfl ?_
  refine tm_iload_n dX12_goOver_30 rfl 1 rfl ?_
  refine tm_iconst dX12_goOver_31 ?_
  refine tm_icmp_ne (tgt := 68) dX12_goOver_32 (by decide) ⟨by omega, by omega⟩ ⟨by decide, by decide⟩ (fun h1 => ?_) (fun h1 => ?_)
  · refine tm_sub [1, 0] rfl (b_go68 (d) (σ := (sS 29 0 (sS 28 0 (sS 31 0 (sS 30 0 (sS 20 0 (sS 25 w σ))))))) (w := w) (ρ := σ) ((((((hR.S (by omega)).S (by omega)).S (by omega)).S (by omega)).S (by omega)).S (by omega)) hw ⟨((((((Fr.rfl.S (by decide)).S (by decide)).S (by decide)).S (by decide)).S (by decide)).S (by decide)), ⟨rs_o (by decide) (rs_o (by decide) (rs_o (by decide) (rs_o (by decide) (rs_o (by decide) (rs_eq))))), rs_o (by decide) (rs_o (by decide) (rs_o (by decide) (rs_o (by decide) (rs_eq)))), rs_o (by decide) (rs_eq), rs_eq, rs_o (by decide) (rs_o (by decide) (rs_o (by decide) (rs_eq))), rs_o (by decide) (rs_o (by decide) (rs_eq))⟩, hnn, fun z => absurd z (by omega), fun _ => ⟨rfl, rfl, rfl⟩, h43⟩ hlen hq3 (fun v τ z1 z2 z3 z4 z5 z6 => ⟨_, rfl, z3, (show Fr [19, 20, 22, 23, 25, 26, 27, 28, 29, 30, 31, 32, 33, 34, 39, 40, 43] [3, 4, 5, 6, 7, 8, 9, 35, 36, 37, 41, 42, 45] [24, 38, 44] σ (sS 29 0 (sS 28 0 (sS 31 0 (sS 30 0 (sS 20 0 (sS 25 w σ)))))) from ((((((Fr.rfl.S (by decide)).S (by decide)).S (by decide)).S (by decide)).S (by decide)).S (by decide))).trans z1, z2, z4, z5, z6⟩) _  rfl)
  · refine tm_aload_n dX12_goOver_35 rfl 0 rfl ?_
    refine tm_iconst dX12_goOver_36 ?_
    refine tm_putS (k := 43) (v := 0) lay_12 dX12_goOver_37 (by decide) fl12_376 rfl (tyX12_ok 43 (by decide)) rfl rfl rfl ?_
    refine tm_iconst dX12_goOver_40 ?_
    refine tm_istore_n (L' := [(2, .int (iI 0)), (0, .ref b), (1, .int (iI w))]) dX12_goOver_41 rfl (by decide) rfl ?_
    refine tm_sub [0, 2, 1] rfl (l_go42 (d + 63) (σ0 := (sS 43 0 (sS 29 0 (sS 28 0 (sS 31 0 (sS 30 0 (sS 20 0 (sS 25 w σ)))))))) (w := w) (((((((hR.S (by omega)).S (by omega)).S (by omega)).S (by omega)).S (by omega)).S (by omega)).S (by omega)) (fun i8 σ9 F4 R5 f6 f7 => ?_) _ (0) (sS 43 0 (sS 29 0 (sS 28 0 (sS 31 0 (sS 30 0 (sS 20 0 (sS 25 w σ))))))) Fr.rfl (((((((hR.S (by omega)).S (by omega)).S (by omega)).S (by omega)).S (by omega)).S (by omega)).S (by omega)) (by omega) (fun r a c => absurd c (by omega)) rfl)
    show Tm _ _ 68 b σ9 [(2, .int (iI i8)), (1, .int (iI w)), (0, .ref b)] [] _
    refine tm_sub [1, 2] rfl (b_go68 (d) (σ := σ9) (w := w) (ρ := σ) R5 hw ⟨((((((((Fr.rfl.S (by decide)).S (by decide)).S (by decide)).S (by decide)).S (by decide)).S (by decide)).S (by decide)).trans (Fr.sub F4 (by decide) (by decide) (by decide))), ⟨rs_F F4 (by decide) (rs_o (by decide) (rs_o (by decide) (rs_o (by decide) (rs_o (by decide) (rs_o (by decide) (rs_o (by decide) (rs_eq))))))), rs_F F4 (by decide) (rs_o (by decide) (rs_o (by decide) (rs_o (by decide) (rs_o (by decide) (rs_o (by decide) (rs_eq)))))), rs_F F4 (by decide) (rs_o (by decide) (rs_o (by decide) (rs_eq))), rs_F F4 (by decide) (rs_o (by decide) (rs_eq)), rs_F F4 (by decide) (rs_o (by decide) (rs_o (by decide) (rs_o (by decide) (rs_o (by decide) (rs_eq))))), rs_F F4 (by decide) (rs_o (by decide) (rs_o (by decide) (rs_o (by decide) (rs_eq))))⟩, f6, fun _ => ⟨(show σ9.1 43 = 0 from rs_F F4 (by decide) (rs_eq)), f7⟩, fun z => absurd (by omega) z, by rw [(show σ9.1 43 = 0 from rs_F F4 (by decide) (rs_eq))]; decide⟩ hlen hq3 (fun v τ z1 z2 z3 z4 z5 z6 => ⟨_, rfl, z3, (show Fr [19, 20, 22, 23, 25, 26, 27, 28, 29, 30, 31, 32, 33, 34, 39, 40, 43] [3, 4, 5, 6, 7, 8, 9, 35, 36, 37, 41, 42, 45] [24, 38, 44] σ σ9 from ((((((((Fr.rfl.S (by decide)).S (by decide)).S (by decide)).S (by decide)).S (by decide)).S (by decide)).S (by decide)).trans (Fr.sub F4 (by decide) (by decide) (by decide)))).trans z1, z2, z4, z5, z6⟩) _  rfl)
