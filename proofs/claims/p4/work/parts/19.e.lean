theorem ra_at {k : Nat} {i j v : Int} {σ : MS} (h : i = j) : (sA k i v σ).2.1 k j = v := by rw [← h]; exact ra_eq

theorem fl12_66 : Cond.fieldLink RX12 66 (TX12 36).1 (TX12 36).2.1 (TX12 36).2.2.1 ∈ pWW := pw7 (List.mem_of_getElem? (i := 43) rfl) rfl
theorem dX12_oneRoutine_81 : decode cX12_oneRoutine 81 = .ok (.aload_n 0, 1) := by decide +kernel
theorem dX12_oneRoutine_82 : decode cX12_oneRoutine 82 = .ok (.invokevirtual 265, 3) := by decide +kernel
theorem dX12_oneRoutine_85 : decode cX12_oneRoutine 85 = .ok (.aload_n 0, 1) := by decide +kernel
theorem dX12_oneRoutine_86 : decode cX12_oneRoutine 86 = .ok (.bipush 40, 2) := by decide +kernel
theorem dX12_oneRoutine_88 : decode cX12_oneRoutine 88 = .ok (.invokevirtual 330, 3) := by decide +kernel
theorem dX12_oneRoutine_91 : decode cX12_oneRoutine 91 = .ok (.ifCond .ne 5, 3) := by decide +kernel
theorem dX12_oneRoutine_96 : decode cX12_oneRoutine 96 = .ok (.iconst 0, 1) := by decide +kernel
theorem dX12_oneRoutine_97 : decode cX12_oneRoutine 97 = .ok (.istore_n 2, 1) := by decide +kernel
theorem dX12_oneRoutine_98 : decode cX12_oneRoutine 98 = .ok (.aload_n 0, 1) := by decide +kernel
theorem dX12_oneRoutine_99 : decode cX12_oneRoutine 99 = .ok (.bipush 41, 2) := by decide +kernel
theorem dX12_oneRoutine_101 : decode cX12_oneRoutine 101 = .ok (.invokevirtual 258, 3) := by decide +kernel
theorem dX12_oneRoutine_104 : decode cX12_oneRoutine 104 = .ok (.ifCond .ne 7, 3) := by decide +kernel
theorem dX12_oneRoutine_111 : decode cX12_oneRoutine 111 = .ok (.iconst 0, 1) := by decide +kernel
theorem dX12_oneRoutine_112 : decode cX12_oneRoutine 112 = .ok (.istore_n 3, 1) := by decide +kernel
theorem dX12_oneRoutine_252 : decode cX12_oneRoutine 252 = .ok (.aload_n 0, 1) := by decide +kernel
theorem dX12_oneRoutine_253 : decode cX12_oneRoutine 253 = .ok (.getfield 255, 3) := by decide +kernel
theorem dX12_oneRoutine_256 : decode cX12_oneRoutine 256 = .ok (.iconst 1, 1) := by decide +kernel
theorem dX12_oneRoutine_257 : decode cX12_oneRoutine 257 = .ok (.if_icmp .ne 41, 3) := by decide +kernel
theorem dX12_oneRoutine_260 : decode cX12_oneRoutine 260 = .ok (.aload_n 0, 1) := by decide +kernel
theorem dX12_oneRoutine_261 : decode cX12_oneRoutine 261 = .ok (.getfield 85, 3) := by decide +kernel
theorem dX12_oneRoutine_264 : decode cX12_oneRoutine 264 = .ok (.aload_n 0, 1) := by decide +kernel
theorem dX12_oneRoutine_265 : decode cX12_oneRoutine 265 = .ok (.getfield 376, 3) := by decide +kernel
theorem dX12_oneRoutine_268 : decode cX12_oneRoutine 268 = .ok (.iconst 1, 1) := by decide +kernel
theorem dX12_oneRoutine_269 : decode cX12_oneRoutine 269 = .ok (.isub, 1) := by decide +kernel
theorem dX12_oneRoutine_270 : decode cX12_oneRoutine 270 = .ok (.iload_n 2, 1) := by decide +kernel
theorem dX12_oneRoutine_271 : decode cX12_oneRoutine 271 = .ok (.iastore, 1) := by decide +kernel
theorem dX12_oneRoutine_272 : decode cX12_oneRoutine 272 = .ok (.aload_n 0, 1) := by decide +kernel
theorem dX12_oneRoutine_273 : decode cX12_oneRoutine 273 = .ok (.invokevirtual 271, 3) := by decide +kernel
theorem dX12_oneRoutine_276 : decode cX12_oneRoutine 276 = .ok (.ifCond .eq 22, 3) := by decide +kernel
theorem dX12_oneRoutine_279 : decode cX12_oneRoutine 279 = .ok (.aload_n 0, 1) := by decide +kernel
theorem dX12_oneRoutine_280 : decode cX12_oneRoutine 280 = .ok (.getfield 66, 3) := by decide +kernel
theorem dX12_oneRoutine_283 : decode cX12_oneRoutine 283 = .ok (.aload_n 0, 1) := by decide +kernel
theorem dX12_oneRoutine_284 : decode cX12_oneRoutine 284 = .ok (.getfield 268, 3) := by decide +kernel
theorem dX12_oneRoutine_287 : decode cX12_oneRoutine 287 = .ok (.iload_n 2, 1) := by decide +kernel
theorem dX12_oneRoutine_288 : decode cX12_oneRoutine 288 = .ok (.iconst 4, 1) := by decide +kernel
theorem dX12_oneRoutine_289 : decode cX12_oneRoutine 289 = .ok (.if_icmp .le 7, 3) := by decide +kernel
theorem dX12_oneRoutine_296 : decode cX12_oneRoutine 296 = .ok (.iload_n 2, 1) := by decide +kernel
theorem dX12_oneRoutine_297 : decode cX12_oneRoutine 297 = .ok (.iastore, 1) := by decide +kernel
theorem dX12_oneRoutine_292 : decode cX12_oneRoutine 292 = .ok (.iconst 4, 1) := by decide +kernel
theorem dX12_oneRoutine_293 : decode cX12_oneRoutine 293 = .ok (.goto 4, 3) := by decide +kernel
theorem dX12_oneRoutine_107 : decode cX12_oneRoutine 107 = .ok (.iconst 1, 1) := by decide +kernel
theorem dX12_oneRoutine_108 : decode cX12_oneRoutine 108 = .ok (.goto 4, 3) := by decide +kernel
theorem dX12_oneRoutine_94 : decode cX12_oneRoutine 94 = .ok (.iconst 0, 1) := by decide +kernel
theorem dX12_oneRoutine_95 : decode cX12_oneRoutine 95 = .ok (.ireturn, 1) := by decide +kernel
set_option maxHeartbeats 4000000 in
set_option maxRecDepth 20000 in
theorem b_one81 (d : Nat) {b : Nat} {σ : MS} {p : Int} {ρ : MS} {post : Option Value → MS → Prop} (hR : RG σ) (hoh : ORH ρ) (hd : HD ρ σ) (hf8 : Fr [26, 27, 43] [] [44] ρ σ) (hnm : NMW ρ) (hsr : srt σ = srt (rnP (ρ.2.2 24 0) (ρ.1 19) ρ)) (hp : p = ρ.1 19) (h_p : -2147483648 ≤ p ∧ p ≤ 2147483647) (hret : ∀ (v : Int) (τ : MS), Fr [19, 20, 22, 23, 26, 27, 28, 29, 30, 31, 32, 33, 34, 39, 40, 43] [3, 4, 5, 6, 7, 8, 9, 35, 36, 37, 41, 42, 45] [24, 38, 44] ρ τ → RG τ → (v = 0 ∨ v = 1) → PBO ρ τ → (v = 1 → ORQ ρ τ) → (v = 0 → ∀ x, GOF [30] (sS 34 x ρ) (qq 0) τ) → post (some (.int (iI v))) τ) : ∀ (n : Nat) , ((0 : Int)).toNat = n → Tm (d + 63) m_X12_oneRoutine 81 b σ [(1, .int (iI p)), (0, .ref b)] [] post := by
  intro n
  induction n using Nat.strongRecOn with
  | _ n ih =>
    intro   hm
    have oh30 := hoh.2.2.1
    have oht := hoh.1.1
    have f8 := hf8
    have nmσ : NMW σ := (NMW.bk hf8 (by decide) (by decide)).mpr hnm
    have hnz : ρ.1 22 ≠ 0 := by have z := hnm.1; omega
    have szρ := hoh.1.2.1 hnz
    refine tm_aload_n dX12_oneRoutine_81 rfl 1 rfl ?_
    refine tm_callV (M := m_X12_oneRoutine) (pc := 82) (ix := 265) (M' := m_X12_advance) (As := []) (rest := []) dX12_oneRoutine_82 ok_X12_advance im_X12_advance se_X12_advance ml12_265 np_X12_advance rfl rfl (Nat.le_of_ble_eq_true rfl) (Nat.le_of_ble_eq_true rfl) rfl (c_X12_advance (d + 57) (σ := σ)  hR (by rw [hf8.1 20 (by decide), hf8.1 21 (by decide)]; omega)) (fun r1 σ2 hp => ?_)
    obtain ⟨rfl, f4, f5, f6, f7, f8⟩ := hp
    show Tm _ _ 85 b σ2 [(1, .int (iI p)), (0, .ref b)] [] _
    have ad0 := f4
    have ad1 := f5
    have ad2 := f6
    have ad3 := f7
    have ad4 := f8
    have gx1 : GOX [30] ρ (qq 0) [140, 31] σ2 (qq (ρ.1 19)) := fun x => g30 (σ := sS 34 x ρ) (τ := sS 34 x σ2) (q := qq 0) hnm (show tks σ2 = advT (sv ρ) (ρ.1 20) by rw [ad0.1, sv_fr hf8 (by decide) (by decide), hf8.1 20 (by decide)]) (show (σ2.1 28, σ2.1 29, x) = (ρ.1 28, ρ.1 29, x) by rw [ad1.1 28 (by decide), ad1.1 29 (by decide), hf8.1 28 (by decide), hf8.1 29 (by decide)]) (show sv σ2 = sv ρ by rw [ad0.2.2.1, sv_fr hf8 (by decide) (by decide)]) (EFF.rout ((show srt (sS 34 x σ2) = _ from ad0.2.2.2).trans (hsr.trans (srt_rn (A := ρ) (σ := sS 34 x ρ) rfl))))
    have pb1 : PBF σ σ2 := PBF.nop hd.2.2.1 ad1 (by decide) (by decide) (by decide)
    have pl1 : ρ.1 19 + 1 ≤ σ2.1 19 := by have z := ad4; rw [hf8.1 20 (by decide)] at z; omega
    have tk1 := ad3.1
    have hd1 : HD ρ σ2 := hd.pb (show Fr [19, 20, 22, 23, 26, 27] [35] [24, 38] σ σ2 from (Fr.rfl.trans (Fr.sub f5 (by decide) (by decide) (by decide)))) pb1
    refine tm_aload_n dX12_oneRoutine_85 rfl 1 rfl ?_
    refine tm_bipush dX12_oneRoutine_86 (by decide) ?_
    refine tm_callV (M := m_X12_oneRoutine) (pc := 88) (ix := 330) (M' := m_X12_need) (As := [.int (iI 40)]) (rest := []) dX12_oneRoutine_88 ok_X12_need im_X12_need se_X12_need ml12_330 np_X12_need rfl rfl (Nat.le_of_ble_eq_true rfl) (Nat.le_of_ble_eq_true rfl) rfl (c_X12_need (d + 56) (σ := σ2) (c := 40) f6 (by omega) (by omega)) (fun r9 σ10 hp => ?_)
    obtain ⟨v11, rfl, f12, f13, f14, f15, f16, f17, f18⟩ := hp
    show Tm _ _ 91 b σ10 [(1, .int (iI p)), (0, .ref b)] [.int (iI v11)] _
    have yn0 := f12
    have yn1 := f13
    have yn2 := f14
    have yn3 := f15
    have yn4 := f16
    have yn5 := f17
    have yn6 := f18
    refine tm_if_ne (tgt := 96) dX12_oneRoutine_91 (by decide) ⟨by omega, by omega⟩ (fun h19 => ?_) (fun h19 => ?_)
    · have ynq := yn3 (by omega)
      have gx2 : GOX [30] ρ (qq 0) [31] σ10 (qq (ρ.1 19)) := gx1.nxt (fun x => gn_40 ynq.1 (ynq.2.1.any x))
      have pb2 : PBF _ σ10 := PBF.of pb1.2.2.1 yn1 (by decide) (by decide) (by decide) yn5
      have hd2 : HD ρ σ10 := hd1.pb (Fr.sub yn1 (by decide) (by decide) (by decide)) pb2
      have tk2 := ynq.2.2.1.1
      have pl2 : ρ.1 19 + 2 ≤ σ10.1 19 := by have z := ynq.2.2.2.1; have z2 := ad3.2.1 (by have z := ynq.1.1; omega); omega
      have R96 := f14
      refine tm_iconst dX12_oneRoutine_96 ?_
      refine tm_istore_n (L' := [(2, .int (iI 0)), (1, .int (iI p)), (0, .ref b)]) dX12_oneRoutine_97 rfl (by decide) rfl ?_
      refine tm_aload_n dX12_oneRoutine_98 rfl 2 rfl ?_
      refine tm_bipush dX12_oneRoutine_99 (by decide) ?_
      refine tm_callV (M := m_X12_oneRoutine) (pc := 101) (ix := 258) (M' := m_X12_isSign) (As := [.int (iI 41)]) (rest := []) dX12_oneRoutine_101 ok_X12_isSign im_X12_isSign se_X12_isSign ml12_258 np_X12_isSign rfl rfl (Nat.le_of_ble_eq_true rfl) (Nat.le_of_ble_eq_true rfl) rfl (c2_X12_isSign (d + 61) (σ := σ10) (c := 41) R96 (by omega)) (fun r20 σ21 hp => ?_)
      obtain ⟨v22, rfl, rfl, f23, f24, f25⟩ := hp
      show Tm _ _ 104 b σ10 [(2, .int (iI 0)), (1, .int (iI p)), (0, .ref b)] [.int (iI v22)] _
      have i41 := f24
      have n41_ := f25
      refine tm_if_ne (tgt := 111) dX12_oneRoutine_104 (by decide) ⟨by omega, by omega⟩ (fun h32 => ?_) (fun h32 => ?_)
      · refine tm_iconst dX12_oneRoutine_111 ?_
        refine tm_istore_n (L' := [(3, .int (iI 0)), (2, .int (iI 0)), (1, .int (iI p)), (0, .ref b)]) dX12_oneRoutine_112 rfl (by decide) rfl ?_
        refine tm_sub [0, 1, 2, 3] rfl (l_par (d + 56) (σ0 := σ10) (p := p) (ρ := ρ) f14 hoh hd2 (fun m44 mo45 σ46 F36 R37 f38 f39 f40 f41 f42 f43 => ?_) (fun v τ z1 z2 z3 z4 z5 => hret _ _ ((Fr.sub hd2.1 (by decide) (by decide) (by decide) : Fr [19, 20, 22, 23, 26, 27, 28, 29, 30, 31, 32, 33, 34, 39, 40, 43] [3, 4, 5, 6, 7, 8, 9, 35, 36, 37, 41, 42, 45] [24, 38, 44] ρ σ10).trans (Fr.sub z2 (by decide) (by decide) (by decide))) z3 (Or.inl z1) ((hd2.pb z2 z4).pbo) (fun q => absurd q (by omega)) (fun _ => z5)) _ (0) (0) σ10 Fr.rfl f14 (by omega) ynq.2.2.1 (PBF.nop pb2.2.2.1 (Fr.rfl : Fr [] [] [] _ _) (by decide) (by decide) (by decide)) ⟨fun q => absurd q (by decide), fun _ => Or.inl ⟨gx2, i41 (by omega)⟩⟩ (fun _ z2 _ => ⟨by decide, (hd2.2.2.1 (ρ.1 30) oh30.1 z2).1⟩) (Int.le_refl _) rfl)
        show Tm _ _ 252 b σ46 [(3, .int (iI mo45)), (2, .int (iI m44)), (1, .int (iI p)), (0, .ref b)] [] _
        have lp0 := f38
        have lp1 := f39
        have lp2 := f40
        have lp3 := f41
        have lp4 := f42
        have lp5 := f43
        have hd3 : HD ρ σ46 := hd2.pb F36 lp2
        have R252 := R37
        have e253 : σ46.1 25 = ρ.1 25 := hd3.1.1 25 (by decide)
        have e303 : σ46.1 30 = ρ.1 30 := hd3.1.1 30 (by decide)
        have tk3 := lp1.1
        have oh43 := hoh.2.2.2.2.2.2.1
        have s25 : σ.1 25 = ρ.1 25 := hd.1.1 25 (by decide)
        have s30 : σ.1 30 = ρ.1 30 := hd.1.1 30 (by decide)
        have s43 : σ46.1 43 = σ.1 43 := rs_F F36 (by decide) (rs_F f13 (by decide) (rs_F f5 (by decide) (rfl)))
        refine tm_aload_n dX12_oneRoutine_252 rfl 3 rfl ?_
        refine tm_getS (k := 25) (t := σ.1 25) dX12_oneRoutine_253 (by decide) fl12_255 rfl (rs_F F36 (by decide) (rs_F f13 (by decide) (rs_F f5 (by decide) (rfl)))) ?_
        have g47 := RG.s hR 25
        refine tm_iconst dX12_oneRoutine_256 ?_
        refine tm_icmp_ne (tgt := 298) dX12_oneRoutine_257 (by decide) ⟨by omega, by omega⟩ ⟨by decide, by decide⟩ (fun h48 => ?_) (fun h48 => ?_)
        · refine tm_sub [1, 2, 3] rfl (b_one298 (d) (σ := σ46) (p := p) (m := m44) (ρ := ρ) R37 hoh hd3 (show TOK σ46 from lp1) (lp3.go ⟨by unfold tks; rw [(show Fr [] [36, 45] [] σ46 σ46 from Fr.rfl).1 19 (by decide), (show Fr [] [36, 45] [] σ46 σ46 from Fr.rfl).1 20 (by decide), (show Fr [] [36, 45] [] σ46 σ46 from Fr.rfl).1 22 (by decide), (show Fr [] [36, 45] [] σ46 σ46 from Fr.rfl).1 23 (by decide), (show Fr [] [36, 45] [] σ46 σ46 from Fr.rfl).2.2 24 (by decide)], by unfold xs; rw [(show Fr [] [36, 45] [] σ46 σ46 from Fr.rfl).1 28 (by decide), (show Fr [] [36, 45] [] σ46 σ46 from Fr.rfl).1 29 (by decide), (show Fr [] [36, 45] [] σ46 σ46 from Fr.rfl).1 34 (by decide)], sv_fr (show Fr [] [36, 45] [] σ46 σ46 from Fr.rfl) (by decide) (by decide)⟩ (fun x => show (σ46.1 28, σ46.1 29, x) = (σ46.1 28, σ46.1 29, x) by rw [(show Fr [] [36, 45] [] σ46 σ46 from Fr.rfl).1 28 (by decide), (show Fr [] [36, 45] [] σ46 σ46 from Fr.rfl).1 29 (by decide)]) (show srt σ46 = srt (peP (m44) σ46) by unfold peP; rw [ifP_f (by omega)])) (fun z => absurd z (by omega)) (show ρ.1 19 + 2 ≤ σ46.1 19 by omega) hp (by omega) hret _  rfl)
        · have h431 := (hd3.2.2.2.2.1 (by omega)).1
          have h43e := oh43.2 (by omega)
          refine tm_aload_n dX12_oneRoutine_260 rfl 3 rfl ?_
          refine tm_get (k := 45) (v := .ref (b + 1 + 23)) lay_12 dX12_oneRoutine_261 (by decide) fl12_85 rfl ?_
          refine tm_aload_n dX12_oneRoutine_264 rfl 3 rfl ?_
          refine tm_getS (k := 43) (t := σ.1 43) dX12_oneRoutine_265 (by decide) fl12_376 rfl (rs_F F36 (by decide) (rs_F f13 (by decide) (rs_F f5 (by decide) (rfl)))) ?_
          have g49 := RG.s hR 43
          refine tm_iconst dX12_oneRoutine_268 ?_
          refine tm_isub dX12_oneRoutine_269 ?_
          refine tm_iload_n dX12_oneRoutine_270 rfl 1 rfl ?_
          refine tm_iast (z := (σ.1 43) - 1) (v := m44) dX12_oneRoutine_271 (show mT[23]? = some (45, 0, 260) from rfl) (by omega) (by omega) (by decide) ?_
          refine tm_aload_n dX12_oneRoutine_272 rfl 3 rfl ?_
          refine tm_callV (M := m_X12_oneRoutine) (pc := 273) (ix := 271) (M' := m_X12_isKept) (As := []) (rest := []) dX12_oneRoutine_273 ok_X12_isKept im_X12_isKept se_X12_isKept ml12_271 np_X12_isKept rfl rfl (Nat.le_of_ble_eq_true rfl) (Nat.le_of_ble_eq_true rfl) rfl (c_X12_isKept (d + 61) (σ := (sA 45 ((σ.1 43) - 1) (m44) σ46))  (R37.A (by omega))) (fun r50 σ51 hp => ?_)
          obtain ⟨v52, rfl, rfl, f53, f54⟩ := hp
          show Tm _ _ 276 b (sA 45 ((σ.1 43) - 1) (m44) σ46) [(3, .int (iI mo45)), (2, .int (iI m44)), (1, .int (iI p)), (0, .ref b)] [.int (iI v52)] _
          have k30 : (sA 45 ((σ.1 43) - 1) (m44) σ46).1 30 = σ.1 30 := rs_A (rs_F F36 (by decide) (rs_F f13 (by decide) (rs_F f5 (by decide) (rfl))))
          refine tm_if_eq (tgt := 298) dX12_oneRoutine_276 (by decide) ⟨by omega, by omega⟩ (fun h55 => ?_) (fun h55 => ?_)
          · refine tm_sub [1, 2, 3] rfl (b_one298 (d) (σ := (sA 45 ((σ.1 43) - 1) (m44) σ46)) (p := p) (m := m44) (ρ := ρ) (R37.A (by omega)) hoh (hd3.told (by omega) (show (σ.1 43) - 1 = ρ.1 43 by omega)) (show TOK (sA 45 ((σ.1 43) - 1) (m44) σ46) from lp1) (lp3.go ⟨by unfold tks; rw [(show Fr [] [36, 45] [] σ46 (sA 45 ((σ.1 43) - 1) (m44) σ46) from (Fr.rfl.A (by decide))).1 19 (by decide), (show Fr [] [36, 45] [] σ46 (sA 45 ((σ.1 43) - 1) (m44) σ46) from (Fr.rfl.A (by decide))).1 20 (by decide), (show Fr [] [36, 45] [] σ46 (sA 45 ((σ.1 43) - 1) (m44) σ46) from (Fr.rfl.A (by decide))).1 22 (by decide), (show Fr [] [36, 45] [] σ46 (sA 45 ((σ.1 43) - 1) (m44) σ46) from (Fr.rfl.A (by decide))).1 23 (by decide), (show Fr [] [36, 45] [] σ46 (sA 45 ((σ.1 43) - 1) (m44) σ46) from (Fr.rfl.A (by decide))).2.2 24 (by decide)], by unfold xs; rw [(show Fr [] [36, 45] [] σ46 (sA 45 ((σ.1 43) - 1) (m44) σ46) from (Fr.rfl.A (by decide))).1 28 (by decide), (show Fr [] [36, 45] [] σ46 (sA 45 ((σ.1 43) - 1) (m44) σ46) from (Fr.rfl.A (by decide))).1 29 (by decide), (show Fr [] [36, 45] [] σ46 (sA 45 ((σ.1 43) - 1) (m44) σ46) from (Fr.rfl.A (by decide))).1 34 (by decide)], sv_fr (show Fr [] [36, 45] [] σ46 (sA 45 ((σ.1 43) - 1) (m44) σ46) from (Fr.rfl.A (by decide))) (by decide) (by decide)⟩ (fun x => show ((sA 45 ((σ.1 43) - 1) (m44) σ46).1 28, (sA 45 ((σ.1 43) - 1) (m44) σ46).1 29, x) = (σ46.1 28, σ46.1 29, x) by rw [(show Fr [] [36, 45] [] σ46 (sA 45 ((σ.1 43) - 1) (m44) σ46) from (Fr.rfl.A (by decide))).1 28 (by decide), (show Fr [] [36, 45] [] σ46 (sA 45 ((σ.1 43) - 1) (m44) σ46) from (Fr.rfl.A (by decide))).1 29 (by decide)]) (show srt (sA 45 ((σ.1 43) - 1) (m44) σ46) = srt (peP (m44) σ46) by unfold peP; rw [ifP_t (by omega), ifP_f (by omega), s43])) (fun z1 z2 => absurd z2 (by omega)) (show ρ.1 19 + 2 ≤ σ46.1 19 by omega) hp (by omega) hret _  rfl)
          · refine tm_aload_n dX12_oneRoutine_279 rfl 3 rfl ?_
            refine tm_get (k := 36) (v := .ref (b + 1 + 17)) lay_12 dX12_oneRoutine_280 (by decide) fl12_66 rfl ?_
            refine tm_aload_n dX12_oneRoutine_283 rfl 3 rfl ?_
            refine tm_getS (k := 30) (t := σ.1 30) dX12_oneRoutine_284 (by decide) fl12_268 rfl (rs_A (rs_F F36 (by decide) (rs_F f13 (by decide) (rs_F f5 (by decide) (rfl))))) ?_
            have g56 := RG.s hR 30
            refine tm_iload_n dX12_oneRoutine_287 rfl 1 rfl ?_
            refine tm_iconst dX12_oneRoutine_288 ?_
            refine tm_icmp_le (tgt := 296) dX12_oneRoutine_289 (by decide) ⟨by omega, by omega⟩ ⟨by decide, by decide⟩ (fun h57 => ?_) (fun h57 => ?_)
            · refine tm_iload_n dX12_oneRoutine_296 rfl 1 rfl ?_
              refine tm_iast (z := σ.1 30) (v := m44) dX12_oneRoutine_297 (show mT[17]? = some (36, 0, 6) from rfl) (by omega) (by omega) (by decide) ?_
              refine tm_sub [1, 2, 3] rfl (b_one298 (d) (σ := (sA 36 (σ.1 30) (m44) (sA 45 ((σ.1 43) - 1) (m44) σ46))) (p := p) (m := m44) (ρ := ρ) ((R37.A (by omega)).A (by omega)) hoh ((hd3.told (by omega) (show (σ.1 43) - 1 = ρ.1 43 by omega)).par (by omega) (show σ.1 30 = ρ.1 30 by omega)) (show TOK (sA 36 (σ.1 30) (m44) (sA 45 ((σ.1 43) - 1) (m44) σ46)) from lp1) (lp3.go ⟨by unfold tks; rw [(show Fr [] [36, 45] [] σ46 (sA 36 (σ.1 30) (m44) (sA 45 ((σ.1 43) - 1) (m44) σ46)) from ((Fr.rfl.A (by decide)).A (by decide))).1 19 (by decide), (show Fr [] [36, 45] [] σ46 (sA 36 (σ.1 30) (m44) (sA 45 ((σ.1 43) - 1) (m44) σ46)) from ((Fr.rfl.A (by decide)).A (by decide))).1 20 (by decide), (show Fr [] [36, 45] [] σ46 (sA 36 (σ.1 30) (m44) (sA 45 ((σ.1 43) - 1) (m44) σ46)) from ((Fr.rfl.A (by decide)).A (by decide))).1 22 (by decide), (show Fr [] [36, 45] [] σ46 (sA 36 (σ.1 30) (m44) (sA 45 ((σ.1 43) - 1) (m44) σ46)) from ((Fr.rfl.A (by decide)).A (by decide))).1 23 (by decide), (show Fr [] [36, 45] [] σ46 (sA 36 (σ.1 30) (m44) (sA 45 ((σ.1 43) - 1) (m44) σ46)) from ((Fr.rfl.A (by decide)).A (by decide))).2.2 24 (by decide)], by unfold xs; rw [(show Fr [] [36, 45] [] σ46 (sA 36 (σ.1 30) (m44) (sA 45 ((σ.1 43) - 1) (m44) σ46)) from ((Fr.rfl.A (by decide)).A (by decide))).1 28 (by decide), (show Fr [] [36, 45] [] σ46 (sA 36 (σ.1 30) (m44) (sA 45 ((σ.1 43) - 1) (m44) σ46)) from ((Fr.rfl.A (by decide)).A (by decide))).1 29 (by decide), (show Fr [] [36, 45] [] σ46 (sA 36 (σ.1 30) (m44) (sA 45 ((σ.1 43) - 1) (m44) σ46)) from ((Fr.rfl.A (by decide)).A (by decide))).1 34 (by decide)], sv_fr (show Fr [] [36, 45] [] σ46 (sA 36 (σ.1 30) (m44) (sA 45 ((σ.1 43) - 1) (m44) σ46)) from ((Fr.rfl.A (by decide)).A (by decide))) (by decide) (by decide)⟩ (fun x => show ((sA 36 (σ.1 30) (m44) (sA 45 ((σ.1 43) - 1) (m44) σ46)).1 28, (sA 36 (σ.1 30) (m44) (sA 45 ((σ.1 43) - 1) (m44) σ46)).1 29, x) = (σ46.1 28, σ46.1 29, x) by rw [(show Fr [] [36, 45] [] σ46 (sA 36 (σ.1 30) (m44) (sA 45 ((σ.1 43) - 1) (m44) σ46)) from ((Fr.rfl.A (by decide)).A (by decide))).1 28 (by decide), (show Fr [] [36, 45] [] σ46 (sA 36 (σ.1 30) (m44) (sA 45 ((σ.1 43) - 1) (m44) σ46)) from ((Fr.rfl.A (by decide)).A (by decide))).1 29 (by decide)]) (show srt (sA 36 (σ.1 30) (m44) (sA 45 ((σ.1 43) - 1) (m44) σ46)) = srt (peP (m44) σ46) by unfold peP; rw [ifP_t (by omega), ifP_t (by omega)]; rw [if_neg (by omega), s43, e303, ← s30])) (fun z1 z2 z3 => by have y := lp4 z1 z2 z3; rw [show (sA 36 (σ.1 30) (m44) (sA 45 ((σ.1 43) - 1) (m44) σ46)).2.1 45 (ρ.1 43) = m44 from ra_o (by decide) (ra_at (by omega)), show (sA 36 (σ.1 30) (m44) (sA 45 ((σ.1 43) - 1) (m44) σ46)).2.1 36 (ρ.1 30) = m44 from ra_at (by omega), show (sA 36 (σ.1 30) (m44) (sA 45 ((σ.1 43) - 1) (m44) σ46)).2.1 35 (ρ.1 30) = σ46.2.1 35 (ρ.1 30) from ra_o (by decide) (ra_o (by decide) rfl)]; omega) (show ρ.1 19 + 2 ≤ σ46.1 19 by omega) hp (by omega) hret _  rfl)
            · refine tm_iconst dX12_oneRoutine_292 ?_
              refine tm_goto (tgt := 297) dX12_oneRoutine_293 (by decide) ?_
              refine tm_iast (z := σ.1 30) (v := 4) dX12_oneRoutine_297 (show mT[17]? = some (36, 0, 6) from rfl) (by omega) (by omega) (by decide) ?_
              refine tm_sub [1, 2, 3] rfl (b_one298 (d) (σ := (sA 36 (σ.1 30) (4) (sA 45 ((σ.1 43) - 1) (m44) σ46))) (p := p) (m := m44) (ρ := ρ) ((R37.A (by omega)).A (by omega)) hoh ((hd3.told (by omega) (show (σ.1 43) - 1 = ρ.1 43 by omega)).par (by omega) (show σ.1 30 = ρ.1 30 by omega)) (show TOK (sA 36 (σ.1 30) (4) (sA 45 ((σ.1 43) - 1) (m44) σ46)) from lp1) (lp3.go ⟨by unfold tks; rw [(show Fr [] [36, 45] [] σ46 (sA 36 (σ.1 30) (4) (sA 45 ((σ.1 43) - 1) (m44) σ46)) from ((Fr.rfl.A (by decide)).A (by decide))).1 19 (by decide), (show Fr [] [36, 45] [] σ46 (sA 36 (σ.1 30) (4) (sA 45 ((σ.1 43) - 1) (m44) σ46)) from ((Fr.rfl.A (by decide)).A (by decide))).1 20 (by decide), (show Fr [] [36, 45] [] σ46 (sA 36 (σ.1 30) (4) (sA 45 ((σ.1 43) - 1) (m44) σ46)) from ((Fr.rfl.A (by decide)).A (by decide))).1 22 (by decide), (show Fr [] [36, 45] [] σ46 (sA 36 (σ.1 30) (4) (sA 45 ((σ.1 43) - 1) (m44) σ46)) from ((Fr.rfl.A (by decide)).A (by decide))).1 23 (by decide), (show Fr [] [36, 45] [] σ46 (sA 36 (σ.1 30) (4) (sA 45 ((σ.1 43) - 1) (m44) σ46)) from ((Fr.rfl.A (by decide)).A (by decide))).2.2 24 (by decide)], by unfold xs; rw [(show Fr [] [36, 45] [] σ46 (sA 36 (σ.1 30) (4) (sA 45 ((σ.1 43) - 1) (m44) σ46)) from ((Fr.rfl.A (by decide)).A (by decide))).1 28 (by decide), (show Fr [] [36, 45] [] σ46 (sA 36 (σ.1 30) (4) (sA 45 ((σ.1 43) - 1) (m44) σ46)) from ((Fr.rfl.A (by decide)).A (by decide))).1 29 (by decide), (show Fr [] [36, 45] [] σ46 (sA 36 (σ.1 30) (4) (sA 45 ((σ.1 43) - 1) (m44) σ46)) from ((Fr.rfl.A (by decide)).A (by decide))).1 34 (by decide)], sv_fr (show Fr [] [36, 45] [] σ46 (sA 36 (σ.1 30) (4) (sA 45 ((σ.1 43) - 1) (m44) σ46)) from ((Fr.rfl.A (by decide)).A (by decide))) (by decide) (by decide)⟩ (fun x => show ((sA 36 (σ.1 30) (4) (sA 45 ((σ.1 43) - 1) (m44) σ46)).1 28, (sA 36 (σ.1 30) (4) (sA 45 ((σ.1 43) - 1) (m44) σ46)).1 29, x) = (σ46.1 28, σ46.1 29, x) by rw [(show Fr [] [36, 45] [] σ46 (sA 36 (σ.1 30) (4) (sA 45 ((σ.1 43) - 1) (m44) σ46)) from ((Fr.rfl.A (by decide)).A (by decide))).1 28 (by decide), (show Fr [] [36, 45] [] σ46 (sA 36 (σ.1 30) (4) (sA 45 ((σ.1 43) - 1) (m44) σ46)) from ((Fr.rfl.A (by decide)).A (by decide))).1 29 (by decide)]) (show srt (sA 36 (σ.1 30) (4) (sA 45 ((σ.1 43) - 1) (m44) σ46)) = srt (peP (m44) σ46) by unfold peP; rw [ifP_t (by omega), ifP_t (by omega)]; rw [if_pos (by omega), s43, e303, ← s30])) (fun z1 z2 z3 => by have y := lp4 z1 z2 z3; rw [show (sA 36 (σ.1 30) (4) (sA 45 ((σ.1 43) - 1) (m44) σ46)).2.1 45 (ρ.1 43) = m44 from ra_o (by decide) (ra_at (by omega)), show (sA 36 (σ.1 30) (4) (sA 45 ((σ.1 43) - 1) (m44) σ46)).2.1 36 (ρ.1 30) = 4 from ra_at (by omega), show (sA 36 (σ.1 30) (4) (sA 45 ((σ.1 43) - 1) (m44) σ46)).2.1 35 (ρ.1 30) = σ46.2.1 35 (ρ.1 30) from ra_o (by decide) (ra_o (by decide) rfl)]; omega) (show ρ.1 19 + 2 ≤ σ46.1 19 by omega) hp (by omega) hret _  rfl)
      · refine tm_iconst dX12_oneRoutine_107 ?_
        refine tm_goto (tgt := 112) dX12_oneRoutine_108 (by decide) ?_
        refine tm_istore_n (L' := [(3, .int (iI 1)), (2, .int (iI 0)), (1, .int (iI p)), (0, .ref b)]) dX12_oneRoutine_112 rfl (by decide) rfl ?_
        refine tm_sub [0, 1, 2, 3] rfl (l_par (d + 56) (σ0 := σ10) (p := p) (ρ := ρ) f14 hoh hd2 (fun m69 mo70 σ71 F61 R62 f63 f64 f65 f66 f67 f68 => ?_) (fun v τ z1 z2 z3 z4 z5 => hret _ _ ((Fr.sub hd2.1 (by decide) (by decide) (by decide) : Fr [19, 20, 22, 23, 26, 27, 28, 29, 30, 31, 32, 33, 34, 39, 40, 43] [3, 4, 5, 6, 7, 8, 9, 35, 36, 37, 41, 42, 45] [24, 38, 44] ρ σ10).trans (Fr.sub z2 (by decide) (by decide) (by decide))) z3 (Or.inl z1) ((hd2.pb z2 z4).pbo) (fun q => absurd q (by omega)) (fun _ => z5)) _ (0) (1) σ10 Fr.rfl f14 (by omega) ynq.2.2.1 (PBF.nop pb2.2.2.1 (Fr.rfl : Fr [] [] [] _ _) (by decide) (by decide) (by decide)) ⟨fun _ => gx2.nxt (fun x => g31n (n41_ (by omega))), fun q => absurd q (by decide)⟩ (fun _ z2 _ => ⟨by decide, (hd2.2.2.1 (ρ.1 30) oh30.1 z2).1⟩) (Int.le_refl _) rfl)
        show Tm _ _ 252 b σ71 [(3, .int (iI mo70)), (2, .int (iI m69)), (1, .int (iI p)), (0, .ref b)] [] _
        have lp0 := f63
        have lp1 := f64
        have lp2 := f65
        have lp3 := f66
        have lp4 := f67
        have lp5 := f68
        have hd3 : HD ρ σ71 := hd2.pb F61 lp2
        have R252 := R62
        have e253 : σ71.1 25 = ρ.1 25 := hd3.1.1 25 (by decide)
        have e303 : σ71.1 30 = ρ.1 30 := hd3.1.1 30 (by decide)
        have tk3 := lp1.1
        have oh43 := hoh.2.2.2.2.2.2.1
        have s25 : σ.1 25 = ρ.1 25 := hd.1.1 25 (by decide)
        have s30 : σ.1 30 = ρ.1 30 := hd.1.1 30 (by decide)
        have s43 : σ71.1 43 = σ.1 43 := rs_F F61 (by decide) (rs_F f13 (by decide) (rs_F f5 (by decide) (rfl)))
        refine tm_aload_n dX12_oneRoutine_252 rfl 3 rfl ?_
        refine tm_getS (k := 25) (t := σ.1 25) dX12_oneRoutine_253 (by decide) fl12_255 rfl (rs_F F61 (by decide) (rs_F f13 (by decide) (rs_F f5 (by decide) (rfl)))) ?_
        have g72 := RG.s hR 25
        refine tm_iconst dX12_oneRoutine_256 ?_
        refine tm_icmp_ne (tgt := 298) dX12_oneRoutine_257 (by decide) ⟨by omega, by omega⟩ ⟨by decide, by decide⟩ (fun h73 => ?_) (fun h73 => ?_)
        · refine tm_sub [1, 2, 3] rfl (b_one298 (d) (σ := σ71) (p := p) (m := m69) (ρ := ρ) R62 hoh hd3 (show TOK σ71 from lp1) (lp3.go ⟨by unfold tks; rw [(show Fr [] [36, 45] [] σ71 σ71 from Fr.rfl).1 19 (by decide), (show Fr [] [36, 45] [] σ71 σ71 from Fr.rfl).1 20 (by decide), (show Fr [] [36, 45] [] σ71 σ71 from Fr.rfl).1 22 (by decide), (show Fr [] [36, 45] [] σ71 σ71 from Fr.rfl).1 23 (by decide), (show Fr [] [36, 45] [] σ71 σ71 from Fr.rfl).2.2 24 (by decide)], by unfold xs; rw [(show Fr [] [36, 45] [] σ71 σ71 from Fr.rfl).1 28 (by decide), (show Fr [] [36, 45] [] σ71 σ71 from Fr.rfl).1 29 (by decide), (show Fr [] [36, 45] [] σ71 σ71 from Fr.rfl).1 34 (by decide)], sv_fr (show Fr [] [36, 45] [] σ71 σ71 from Fr.rfl) (by decide) (by decide)⟩ (fun x => show (σ71.1 28, σ71.1 29, x) = (σ71.1 28, σ71.1 29, x) by rw [(show Fr [] [36, 45] [] σ71 σ71 from Fr.rfl).1 28 (by decide), (show Fr [] [36, 45] [] σ71 σ71 from Fr.rfl).1 29 (by decide)]) (show srt σ71 = srt (peP (m69) σ71) by unfold peP; rw [ifP_f (by omega)])) (fun z => absurd z (by omega)) (show ρ.1 19 + 2 ≤ σ71.1 19 by omega) hp (by omega) hret _  rfl)
        · have h431 := (hd3.2.2.2.2.1 (by omega)).1
          have h43e := oh43.2 (by omega)
          refine tm_aload_n dX12_oneRoutine_260 rfl 3 rfl ?_
          refine tm_get (k := 45) (v := .ref (b + 1 + 23)) lay_12 dX12_oneRoutine_261 (by decide) fl12_85 rfl ?_
          refine tm_aload_n dX12_oneRoutine_264 rfl 3 rfl ?_
          refine tm_getS (k := 43) (t := σ.1 43) dX12_oneRoutine_265 (by decide) fl12_376 rfl (rs_F F61 (by decide) (rs_F f13 (by decide) (rs_F f5 (by decide) (rfl)))) ?_
          have g74 := RG.s hR 43
          refine tm_iconst dX12_oneRoutine_268 ?_
          refine tm_isub dX12_oneRoutine_269 ?_
          refine tm_iload_n dX12_oneRoutine_270 rfl 1 rfl ?_
          refine tm_iast (z := (σ.1 43) - 1) (v := m69) dX12_oneRoutine_271 (show mT[23]? = some (45, 0, 260) from rfl) (by omega) (by omega) (by decide) ?_
          refine tm_aload_n dX12_oneRoutine_272 rfl 3 rfl ?_
          refine tm_callV (M := m_X12_oneRoutine) (pc := 273) (ix := 271) (M' := m_X12_isKept) (As := []) (rest := []) dX12_oneRoutine_273 ok_X12_isKept im_X12_isKept se_X12_isKept ml12_271 np_X12_isKept rfl rfl (Nat.le_of_ble_eq_true rfl) (Nat.le_of_ble_eq_true rfl) rfl (c_X12_isKept (d + 61) (σ := (sA 45 ((σ.1 43) - 1) (m69) σ71))  (R62.A (by omega))) (fun r75 σ76 hp => ?_)
          obtain ⟨v77, rfl, rfl, f78, f79⟩ := hp
          show Tm _ _ 276 b (sA 45 ((σ.1 43) - 1) (m69) σ71) [(3, .int (iI mo70)), (2, .int (iI m69)), (1, .int (iI p)), (0, .ref b)] [.int (iI v77)] _
          have k30 : (sA 45 ((σ.1 43) - 1) (m69) σ71).1 30 = σ.1 30 := rs_A (rs_F F61 (by decide) (rs_F f13 (by decide) (rs_F f5 (by decide) (rfl))))
          refine tm_if_eq (tgt := 298) dX12_oneRoutine_276 (by decide) ⟨by omega, by omega⟩ (fun h80 => ?_) (fun h80 => ?_)
          · refine tm_sub [1, 2, 3] rfl (b_one298 (d) (σ := (sA 45 ((σ.1 43) - 1) (m69) σ71)) (p := p) (m := m69) (ρ := ρ) (R62.A (by omega)) hoh (hd3.told (by omega) (show (σ.1 43) - 1 = ρ.1 43 by omega)) (show TOK (sA 45 ((σ.1 43) - 1) (m69) σ71) from lp1) (lp3.go ⟨by unfold tks; rw [(show Fr [] [36, 45] [] σ71 (sA 45 ((σ.1 43) - 1) (m69) σ71) from (Fr.rfl.A (by decide))).1 19 (by decide), (show Fr [] [36, 45] [] σ71 (sA 45 ((σ.1 43) - 1) (m69) σ71) from (Fr.rfl.A (by decide))).1 20 (by decide), (show Fr [] [36, 45] [] σ71 (sA 45 ((σ.1 43) - 1) (m69) σ71) from (Fr.rfl.A (by decide))).1 22 (by decide), (show Fr [] [36, 45] [] σ71 (sA 45 ((σ.1 43) - 1) (m69) σ71) from (Fr.rfl.A (by decide))).1 23 (by decide), (show Fr [] [36, 45] [] σ71 (sA 45 ((σ.1 43) - 1) (m69) σ71) from (Fr.rfl.A (by decide))).2.2 24 (by decide)], by unfold xs; rw [(show Fr [] [36, 45] [] σ71 (sA 45 ((σ.1 43) - 1) (m69) σ71) from (Fr.rfl.A (by decide))).1 28 (by decide), (show Fr [] [36, 45] [] σ71 (sA 45 ((σ.1 43) - 1) (m69) σ71) from (Fr.rfl.A (by decide))).1 29 (by decide), (show Fr [] [36, 45] [] σ71 (sA 45 ((σ.1 43) - 1) (m69) σ71) from (Fr.rfl.A (by decide))).1 34 (by decide)], sv_fr (show Fr [] [36, 45] [] σ71 (sA 45 ((σ.1 43) - 1) (m69) σ71) from (Fr.rfl.A (by decide))) (by decide) (by decide)⟩ (fun x => show ((sA 45 ((σ.1 43) - 1) (m69) σ71).1 28, (sA 45 ((σ.1 43) - 1) (m69) σ71).1 29, x) = (σ71.1 28, σ71.1 29, x) by rw [(show Fr [] [36, 45] [] σ71 (sA 45 ((σ.1 43) - 1) (m69) σ71) from (Fr.rfl.A (by decide))).1 28 (by decide), (show Fr [] [36, 45] [] σ71 (sA 45 ((σ.1 43) - 1) (m69) σ71) from (Fr.rfl.A (by decide))).1 29 (by decide)]) (show srt (sA 45 ((σ.1 43) - 1) (m69) σ71) = srt (peP (m69) σ71) by unfold peP; rw [ifP_t (by omega), ifP_f (by omega), s43])) (fun z1 z2 => absurd z2 (by omega)) (show ρ.1 19 + 2 ≤ σ71.1 19 by omega) hp (by omega) hret _  rfl)
          · refine tm_aload_n dX12_oneRoutine_279 rfl 3 rfl ?_
            refine tm_get (k := 36) (v := .ref (b + 1 + 17)) lay_12 dX12_oneRoutine_280 (by decide) fl12_66 rfl ?_
            refine tm_aload_n dX12_oneRoutine_283 rfl 3 rfl ?_
            refine tm_getS (k := 30) (t := σ.1 30) dX12_oneRoutine_284 (by decide) fl12_268 rfl (rs_A (rs_F F61 (by decide) (rs_F f13 (by decide) (rs_F f5 (by decide) (rfl))))) ?_
            have g81 := RG.s hR 30
            refine tm_iload_n dX12_oneRoutine_287 rfl 1 rfl ?_
            refine tm_iconst dX12_oneRoutine_288 ?_
            refine tm_icmp_le (tgt := 296) dX12_oneRoutine_289 (by decide) ⟨by omega, by omega⟩ ⟨by decide, by decide⟩ (fun h82 => ?_) (fun h82 => ?_)
            · refine tm_iload_n dX12_oneRoutine_296 rfl 1 rfl ?_
              refine tm_iast (z := σ.1 30) (v := m69) dX12_oneRoutine_297 (show mT[17]? = some (36, 0, 6) from rfl) (by omega) (by omega) (by decide) ?_
              refine tm_sub [1, 2, 3] rfl (b_one298 (d) (σ := (sA 36 (σ.1 30) (m69) (sA 45 ((σ.1 43) - 1) (m69) σ71))) (p := p) (m := m69) (ρ := ρ) ((R62.A (by omega)).A (by omega)) hoh ((hd3.told (by omega) (show (σ.1 43) - 1 = ρ.1 43 by omega)).par (by omega) (show σ.1 30 = ρ.1 30 by omega)) (show TOK (sA 36 (σ.1 30) (m69) (sA 45 ((σ.1 43) - 1) (m69) σ71)) from lp1) (lp3.go ⟨by unfold tks; rw [(show Fr [] [36, 45] [] σ71 (sA 36 (σ.1 30) (m69) (sA 45 ((σ.1 43) - 1) (m69) σ71)) from ((Fr.rfl.A (by decide)).A (by decide))).1 19 (by decide), (show Fr [] [36, 45] [] σ71 (sA 36 (σ.1 30) (m69) (sA 45 ((σ.1 43) - 1) (m69) σ71)) from ((Fr.rfl.A (by decide)).A (by decide))).1 20 (by decide), (show Fr [] [36, 45] [] σ71 (sA 36 (σ.1 30) (m69) (sA 45 ((σ.1 43) - 1) (m69) σ71)) from ((Fr.rfl.A (by decide)).A (by decide))).1 22 (by decide), (show Fr [] [36, 45] [] σ71 (sA 36 (σ.1 30) (m69) (sA 45 ((σ.1 43) - 1) (m69) σ71)) from ((Fr.rfl.A (by decide)).A (by decide))).1 23 (by decide), (show Fr [] [36, 45] [] σ71 (sA 36 (σ.1 30) (m69) (sA 45 ((σ.1 43) - 1) (m69) σ71)) from ((Fr.rfl.A (by decide)).A (by decide))).2.2 24 (by decide)], by unfold xs; rw [(show Fr [] [36, 45] [] σ71 (sA 36 (σ.1 30) (m69) (sA 45 ((σ.1 43) - 1) (m69) σ71)) from ((Fr.rfl.A (by decide)).A (by decide))).1 28 (by decide), (show Fr [] [36, 45] [] σ71 (sA 36 (σ.1 30) (m69) (sA 45 ((σ.1 43) - 1) (m69) σ71)) from ((Fr.rfl.A (by decide)).A (by decide))).1 29 (by decide), (show Fr [] [36, 45] [] σ71 (sA 36 (σ.1 30) (m69) (sA 45 ((σ.1 43) - 1) (m69) σ71)) from ((Fr.rfl.A (by decide)).A (by decide))).1 34 (by decide)], sv_fr (show Fr [] [36, 45] [] σ71 (sA 36 (σ.1 30) (m69) (sA 45 ((σ.1 43) - 1) (m69) σ71)) from ((Fr.rfl.A (by decide)).A (by decide))) (by decide) (by decide)⟩ (fun x => show ((sA 36 (σ.1 30) (m69) (sA 45 ((σ.1 43) - 1) (m69) σ71)).1 28, (sA 36 (σ.1 30) (m69) (sA 45 ((σ.1 43) - 1) (m69) σ71)).1 29, x) = (σ71.1 28, σ71.1 29, x) by rw [(show Fr [] [36, 45] [] σ71 (sA 36 (σ.1 30) (m69) (sA 45 ((σ.1 43) - 1) (m69) σ71)) from ((Fr.rfl.A (by decide)).A (by decide))).1 28 (by decide), (show Fr [] [36, 45] [] σ71 (sA 36 (σ.1 30) (m69) (sA 45 ((σ.1 43) - 1) (m69) σ71)) from ((Fr.rfl.A (by decide)).A (by decide))).1 29 (by decide)]) (show srt (sA 36 (σ.1 30) (m69) (sA 45 ((σ.1 43) - 1) (m69) σ71)) = srt (peP (m69) σ71) by unfold peP; rw [ifP_t (by omega), ifP_t (by omega)]; rw [if_neg (by omega), s43, e303, ← s30])) (fun z1 z2 z3 => by have y := lp4 z1 z2 z3; rw [show (sA 36 (σ.1 30) (m69) (sA 45 ((σ.1 43) - 1) (m69) σ71)).2.1 45 (ρ.1 43) = m69 from ra_o (by decide) (ra_at (by omega)), show (sA 36 (σ.1 30) (m69) (sA 45 ((σ.1 43) - 1) (m69) σ71)).2.1 36 (ρ.1 30) = m69 from ra_at (by omega), show (sA 36 (σ.1 30) (m69) (sA 45 ((σ.1 43) - 1) (m69) σ71)).2.1 35 (ρ.1 30) = σ71.2.1 35 (ρ.1 30) from ra_o (by decide) (ra_o (by decide) rfl)]; omega) (show ρ.1 19 + 2 ≤ σ71.1 19 by omega) hp (by omega) hret _  rfl)
            · refine tm_iconst dX12_oneRoutine_292 ?_
              refine tm_goto (tgt := 297) dX12_oneRoutine_293 (by decide) ?_
              refine tm_iast (z := σ.1 30) (v := 4) dX12_oneRoutine_297 (show mT[17]? = some (36, 0, 6) from rfl) (by omega) (by omega) (by decide) ?_
              refine tm_sub [1, 2, 3] rfl (b_one298 (d) (σ := (sA 36 (σ.1 30) (4) (sA 45 ((σ.1 43) - 1) (m69) σ71))) (p := p) (m := m69) (ρ := ρ) ((R62.A (by omega)).A (by omega)) hoh ((hd3.told (by omega) (show (σ.1 43) - 1 = ρ.1 43 by omega)).par (by omega) (show σ.1 30 = ρ.1 30 by omega)) (show TOK (sA 36 (σ.1 30) (4) (sA 45 ((σ.1 43) - 1) (m69) σ71)) from lp1) (lp3.go ⟨by unfold tks; rw [(show Fr [] [36, 45] [] σ71 (sA 36 (σ.1 30) (4) (sA 45 ((σ.1 43) - 1) (m69) σ71)) from ((Fr.rfl.A (by decide)).A (by decide))).1 19 (by decide), (show Fr [] [36, 45] [] σ71 (sA 36 (σ.1 30) (4) (sA 45 ((σ.1 43) - 1) (m69) σ71)) from ((Fr.rfl.A (by decide)).A (by decide))).1 20 (by decide), (show Fr [] [36, 45] [] σ71 (sA 36 (σ.1 30) (4) (sA 45 ((σ.1 43) - 1) (m69) σ71)) from ((Fr.rfl.A (by decide)).A (by decide))).1 22 (by decide), (show Fr [] [36, 45] [] σ71 (sA 36 (σ.1 30) (4) (sA 45 ((σ.1 43) - 1) (m69) σ71)) from ((Fr.rfl.A (by decide)).A (by decide))).1 23 (by decide), (show Fr [] [36, 45] [] σ71 (sA 36 (σ.1 30) (4) (sA 45 ((σ.1 43) - 1) (m69) σ71)) from ((Fr.rfl.A (by decide)).A (by decide))).2.2 24 (by decide)], by unfold xs; rw [(show Fr [] [36, 45] [] σ71 (sA 36 (σ.1 30) (4) (sA 45 ((σ.1 43) - 1) (m69) σ71)) from ((Fr.rfl.A (by decide)).A (by decide))).1 28 (by decide), (show Fr [] [36, 45] [] σ71 (sA 36 (σ.1 30) (4) (sA 45 ((σ.1 43) - 1) (m69) σ71)) from ((Fr.rfl.A (by decide)).A (by decide))).1 29 (by decide), (show Fr [] [36, 45] [] σ71 (sA 36 (σ.1 30) (4) (sA 45 ((σ.1 43) - 1) (m69) σ71)) from ((Fr.rfl.A (by decide)).A (by decide))).1 34 (by decide)], sv_fr (show Fr [] [36, 45] [] σ71 (sA 36 (σ.1 30) (4) (sA 45 ((σ.1 43) - 1) (m69) σ71)) from ((Fr.rfl.A (by decide)).A (by decide))) (by decide) (by decide)⟩ (fun x => show ((sA 36 (σ.1 30) (4) (sA 45 ((σ.1 43) - 1) (m69) σ71)).1 28, (sA 36 (σ.1 30) (4) (sA 45 ((σ.1 43) - 1) (m69) σ71)).1 29, x) = (σ71.1 28, σ71.1 29, x) by rw [(show Fr [] [36, 45] [] σ71 (sA 36 (σ.1 30) (4) (sA 45 ((σ.1 43) - 1) (m69) σ71)) from ((Fr.rfl.A (by decide)).A (by decide))).1 28 (by decide), (show Fr [] [36, 45] [] σ71 (sA 36 (σ.1 30) (4) (sA 45 ((σ.1 43) - 1) (m69) σ71)) from ((Fr.rfl.A (by decide)).A (by decide))).1 29 (by decide)]) (show srt (sA 36 (σ.1 30) (4) (sA 45 ((σ.1 43) - 1) (m69) σ71)) = srt (peP (m69) σ71) by unfold peP; rw [ifP_t (by omega), ifP_t (by omega)]; rw [if_pos (by omega), s43, e303, ← s30])) (fun z1 z2 z3 => by have y := lp4 z1 z2 z3; rw [show (sA 36 (σ.1 30) (4) (sA 45 ((σ.1 43) - 1) (m69) σ71)).2.1 45 (ρ.1 43) = m69 from ra_o (by decide) (ra_at (by omega)), show (sA 36 (σ.1 30) (4) (sA 45 ((σ.1 43) - 1) (m69) σ71)).2.1 36 (ρ.1 30) = 4 from ra_at (by omega), show (sA 36 (σ.1 30) (4) (sA 45 ((σ.1 43) - 1) (m69) σ71)).2.1 35 (ρ.1 30) = σ71.2.1 35 (ρ.1 30) from ra_o (by decide) (ra_o (by decide) rfl)]; omega) (show ρ.1 19 + 2 ≤ σ71.1 19 by omega) hp (by omega) hret _  rfl)
    · refine tm_iconst dX12_oneRoutine_94 ?_
      exact tm_zret (v := 0) rfl (by decide) dX12_oneRoutine_95 (hret _ _ ((Fr.sub hd1.1 (by decide) (by decide) (by decide) : Fr [19, 20, 22, 23, 26, 27, 28, 29, 30, 31, 32, 33, 34, 39, 40, 43] [3, 4, 5, 6, 7, 8, 9, 35, 36, 37, 41, 42, 45] [24, 38, 44] ρ σ2).trans (Fr.sub yn1 (by decide) (by decide) (by decide))) f14 (by omega) ((hd1.pb (Fr.sub yn1 (by decide) (by decide) (by decide)) (PBF.of pb1.2.2.1 yn1 (by decide) (by decide) (by decide) yn5)).pbo) (fun q => absurd q (by omega)) (fun _ => gx1.fail (fun x => gf_40 (σ := sS 34 x σ2) (yn4 (by omega)) ((yn6 (by omega)).x x))))
