def PMN (ρ σ : MS) (m : Int) : Prop := ρ.1 25 = 1 → ρ.1 30 < 6 → σ.1 26 = 0 → m ≤ 4 ∧ m ≤ σ.2.1 35 (ρ.1 30)

theorem dX12_oneRoutine_113 : decode cX12_oneRoutine 113 = .ok (.iload_n 3, 1) := by decide +kernel
theorem dX12_oneRoutine_114 : decode cX12_oneRoutine 114 = .ok (.ifCond .eq 138, 3) := by decide +kernel
theorem dX12_oneRoutine_117 : decode cX12_oneRoutine 117 = .ok (.aload_n 0, 1) := by decide +kernel
theorem dX12_oneRoutine_118 : decode cX12_oneRoutine 118 = .ok (.invokevirtual 320, 3) := by decide +kernel
theorem dX12_oneRoutine_121 : decode cX12_oneRoutine 121 = .ok (.ifCond .ne 8, 3) := by decide +kernel
theorem dX12_oneRoutine_129 : decode cX12_oneRoutine 129 = .ok (.aload_n 0, 1) := by decide +kernel
theorem dX12_oneRoutine_130 : decode cX12_oneRoutine 130 = .ok (.getfield 255, 3) := by decide +kernel
theorem dX12_oneRoutine_133 : decode cX12_oneRoutine 133 = .ok (.iconst 1, 1) := by decide +kernel
theorem dX12_oneRoutine_134 : decode cX12_oneRoutine 134 = .ok (.if_icmp .ne 93, 3) := by decide +kernel
theorem dX12_oneRoutine_227 : decode cX12_oneRoutine 227 = .ok (.iinc 2 1, 3) := by decide +kernel
theorem dX12_oneRoutine_230 : decode cX12_oneRoutine 230 = .ok (.aload_n 0, 1) := by decide +kernel
theorem dX12_oneRoutine_231 : decode cX12_oneRoutine 231 = .ok (.invokevirtual 265, 3) := by decide +kernel
theorem dX12_oneRoutine_234 : decode cX12_oneRoutine 234 = .ok (.aload_n 0, 1) := by decide +kernel
theorem dX12_oneRoutine_235 : decode cX12_oneRoutine 235 = .ok (.bipush 44, 2) := by decide +kernel
theorem dX12_oneRoutine_237 : decode cX12_oneRoutine 237 = .ok (.invokevirtual 258, 3) := by decide +kernel
theorem dX12_oneRoutine_240 : decode cX12_oneRoutine 240 = .ok (.istore_n 3, 1) := by decide +kernel
theorem dX12_oneRoutine_241 : decode cX12_oneRoutine 241 = .ok (.iload_n 3, 1) := by decide +kernel
theorem dX12_oneRoutine_242 : decode cX12_oneRoutine 242 = .ok (.ifCond .eq (-129), 3) := by decide +kernel
theorem dX12_oneRoutine_245 : decode cX12_oneRoutine 245 = .ok (.aload_n 0, 1) := by decide +kernel
theorem dX12_oneRoutine_246 : decode cX12_oneRoutine 246 = .ok (.invokevirtual 265, 3) := by decide +kernel
theorem dX12_oneRoutine_249 : decode cX12_oneRoutine 249 = .ok (.goto (-136), 3) := by decide +kernel
theorem dX12_oneRoutine_137 : decode cX12_oneRoutine 137 = .ok (.iload_n 2, 1) := by decide +kernel
theorem dX12_oneRoutine_138 : decode cX12_oneRoutine 138 = .ok (.iconst 4, 1) := by decide +kernel
theorem dX12_oneRoutine_139 : decode cX12_oneRoutine 139 = .ok (.if_icmp .ne 12, 3) := by decide +kernel
theorem dX12_oneRoutine_151 : decode cX12_oneRoutine 151 = .ok (.iconst 0, 1) := by decide +kernel
theorem dX12_oneRoutine_152 : decode cX12_oneRoutine 152 = .ok (.istore 4, 2) := by decide +kernel
theorem dX12_oneRoutine_213 : decode cX12_oneRoutine 213 = .ok (.aload_n 0, 1) := by decide +kernel
theorem dX12_oneRoutine_214 : decode cX12_oneRoutine 214 = .ok (.aload_n 0, 1) := by decide +kernel
theorem dX12_oneRoutine_215 : decode cX12_oneRoutine 215 = .ok (.getfield 219, 3) := by decide +kernel
theorem dX12_oneRoutine_218 : decode cX12_oneRoutine 218 = .ok (.aload_n 0, 1) := by decide +kernel
theorem dX12_oneRoutine_219 : decode cX12_oneRoutine 219 = .ok (.getfield 216, 3) := by decide +kernel
theorem dX12_oneRoutine_222 : decode cX12_oneRoutine 222 = .ok (.invokevirtual 323, 3) := by decide +kernel
theorem dX12_oneRoutine_225 : decode cX12_oneRoutine 225 = .ok (.istore 4, 2) := by decide +kernel
theorem dX12_oneRoutine_142 : decode cX12_oneRoutine 142 = .ok (.aload_n 0, 1) := by decide +kernel
theorem dX12_oneRoutine_143 : decode cX12_oneRoutine 143 = .ok (.iconst 5, 1) := by decide +kernel
theorem dX12_oneRoutine_144 : decode cX12_oneRoutine 144 = .ok (.aload_n 0, 1) := by decide +kernel
theorem dX12_oneRoutine_145 : decode cX12_oneRoutine 145 = .ok (.getfield 216, 3) := by decide +kernel
theorem dX12_oneRoutine_148 : decode cX12_oneRoutine 148 = .ok (.invokevirtual 274, 3) := by decide +kernel
theorem dX12_oneRoutine_124 : decode cX12_oneRoutine 124 = .ok (.aload_n 0, 1) := by decide +kernel
theorem dX12_oneRoutine_125 : decode cX12_oneRoutine 125 = .ok (.invokevirtual 261, 3) := by decide +kernel
theorem dX12_oneRoutine_128 : decode cX12_oneRoutine 128 = .ok (.ireturn, 1) := by decide +kernel
set_option maxHeartbeats 4000000 in
set_option maxRecDepth 20000 in
theorem l_par (d : Nat) {b : Nat} {σ0 : MS} {p : Int} {ρ : MS} {post : Option Value → MS → Prop} (hR0 : RG σ0) (hoh : ORH ρ) (hd0 : HD ρ σ0) (hx_252 : ∀ (m : Int) (mo : Int) (σ : MS) , (Fr [19, 20, 22, 23, 26, 27] [35] [24, 38] σ0 σ) → (RG σ) → (0 ≤ m ∧ m ≤ 1200) → (TOK σ) → (PBF σ0 σ) → (PEN ρ σ m) → (PMN ρ σ (m)) → (σ0.1 19 ≤ σ.1 19) → Tm (d + 7) m_X12_oneRoutine 252 b σ [(3, .int (iI mo)), (2, .int (iI m)), (1, .int (iI p)), (0, .ref b)] [] post) (hr0 : ∀ (v : Int) (τ : MS), v = 0 → Fr [19, 20, 22, 23, 26, 27] [35] [24, 38] σ0 τ → RG τ → PBF σ0 τ → (∀ x, GOF [30] (sS 34 x ρ) (qq 0) τ) → post (some (.int (iI v))) τ) : ∀ (n : Nat) (m : Int) (mo : Int) (σ : MS) , (Fr [19, 20, 22, 23, 26, 27] [35] [24, 38] σ0 σ) → (RG σ) → ((0 ≤ m ∧ m ≤ σ.1 19 ∧ σ.1 19 ≤ 1200) ∧ (mo = 0 ∨ mo = 1)) → (TOK σ) → (PBF σ0 σ) → ((mo = 1 → GOX [30] ρ (qq 0) [32] σ (0, 0, 0, m, ρ.1 19)) ∧ (mo = 0 → PEN ρ σ m)) → (PMN ρ σ (m)) → (σ0.1 19 ≤ σ.1 19) → (1300 - σ.1 19).toNat = n → Tm (d + 7) m_X12_oneRoutine 113 b σ [(3, .int (iI mo)), (2, .int (iI m)), (1, .int (iI p)), (0, .ref b)] [] post := by
  intro n
  induction n using Nat.strongRecOn with
  | _ n ih =>
    intro m mo σ hF hR h0 htk hpb hgx hmn hpl hm
    have hd1 := hd0.pb hF hpb
    have e25p : σ.1 25 = ρ.1 25 := hd1.1.1 25 (by decide)
    have e30p : σ.1 30 = ρ.1 30 := hd1.1.1 30 (by decide)
    have oh30 := hoh.2.2.1
    have oht := hoh.1.1
    have e2125 := hF.1 25 (by decide)
    have e2130 := hF.1 30 (by decide)
    have tkh := htk.1
    refine tm_iload_n dX12_oneRoutine_113 rfl 0 rfl ?_
    refine tm_if_eq (tgt := 252) dX12_oneRoutine_114 (by decide) ⟨by omega, by omega⟩ (fun h1 => ?_) (fun h1 => ?_)
    · exact tm_sub [0, 1, 2, 3] rfl (hx_252 (m) (mo) σ (Fr.rfl.trans (Fr.sub hF (by decide) (by decide) (by decide))) hR (by omega) htk hpb (hgx.2 (by omega)) hmn hpl)
    · refine tm_aload_n dX12_oneRoutine_117 rfl 3 rfl ?_
      refine tm_callV (M := m_X12_oneRoutine) (pc := 118) (ix := 320) (M' := m_X12_isName) (As := []) (rest := []) dX12_oneRoutine_118 ok_X12_isName im_X12_isName se_X12_isName ml12_320 np_X12_isName rfl rfl (Nat.le_of_ble_eq_true rfl) (Nat.le_of_ble_eq_true rfl) rfl (c2_X12_isName (d + 5) (σ := σ)  hR) (fun r2 σ3 hp => ?_)
      obtain ⟨v4, rfl, rfl, f5, f6, f7⟩ := hp
      show Tm _ _ 121 b σ [(3, .int (iI mo)), (2, .int (iI m)), (1, .int (iI p)), (0, .ref b)] [.int (iI v4)] _
      have inm := f6
      have nnm_ := f7
      refine tm_if_ne (tgt := 129) dX12_oneRoutine_121 (by decide) ⟨by omega, by omega⟩ (fun h8 => ?_) (fun h8 => ?_)
      · have gx := hgx.1 (by omega)
        have nmw := inm (by omega)
        have hnz : σ.1 22 ≠ 0 := by have z := nmw.1; omega
        have plz := htk.2.1 hnz
        refine tm_aload_n dX12_oneRoutine_129 rfl 3 rfl ?_
        refine tm_getS (k := 25) (t := σ0.1 25) dX12_oneRoutine_130 (by decide) fl12_255 rfl (rs_F hF (by decide) (rfl)) ?_
        have g9 := RG.s hR0 25
        refine tm_iconst dX12_oneRoutine_133 ?_
        refine tm_icmp_ne (tgt := 227) dX12_oneRoutine_134 (by decide) ⟨by omega, by omega⟩ ⟨by decide, by decide⟩ (fun h10 => ?_) (fun h10 => ?_)
        · have pbn : PBF σ σ := PBF.nop hpb.2.2.1 (Fr.rfl : Fr [] [] [] σ σ) (by decide) (by decide) (by decide)
          have fn : Fr [26, 27] [35] [38] σ σ := Fr.rfl
          have mn2 : PMN ρ σ (m + 1) := fun z => absurd z (by omega)
          have srp : srt σ = srt (paP (σ.2.2 24 0) (σ.1 19) m σ) := by rw [paP_0 (by omega)]
          refine tm_iinc (q0 := 1) (L' := [(2, .int (iI (m + 1))), (3, .int (iI mo)), (1, .int (iI p)), (0, .ref b)]) dX12_oneRoutine_227 rfl (by decide) rfl ?_
          refine tm_aload_n dX12_oneRoutine_230 rfl 3 rfl ?_
          refine tm_callV (M := m_X12_oneRoutine) (pc := 231) (ix := 265) (M' := m_X12_advance) (As := []) (rest := []) dX12_oneRoutine_231 ok_X12_advance im_X12_advance se_X12_advance ml12_265 np_X12_advance rfl rfl (Nat.le_of_ble_eq_true rfl) (Nat.le_of_ble_eq_true rfl) rfl (c_X12_advance (d + 1) (σ := σ)  hR (by rw [fn.1 20 (by decide), fn.1 21 (by decide)]; omega)) (fun r11 σ12 hp => ?_)
          obtain ⟨rfl, f14, f15, f16, f17, f18⟩ := hp
          show Tm _ _ 234 b σ12 [(2, .int (iI (m + 1))), (3, .int (iI mo)), (1, .int (iI p)), (0, .ref b)] [] _
          have av0 := f14
          have av1 := f15
          have av2 := f16
          have av3 := f17
          have av4 := f18
          have gx2 : GOX [30] ρ (qq 0) [33] σ12 (0, 0, 0, m + 1, ρ.1 19) := gx.nxt (fun x => g32 (σ := sS 34 x σ) (τ := sS 34 x σ12) (q := (0, 0, 0, m, ρ.1 19)) nmw (show tks σ12 = advT (sv σ) (σ.1 20) by rw [av0.1, sv_fr fn (by decide) (by decide), fn.1 20 (by decide)]) (show (σ12.1 28, σ12.1 29, x) = (σ.1 28, σ.1 29, x) by rw [av1.1 28 (by decide), av1.1 29 (by decide), fn.1 28 (by decide), fn.1 29 (by decide)]) (show sv σ12 = sv σ by rw [av0.2.2.1, sv_fr fn (by decide) (by decide)]) (EFF.para ((show srt (sS 34 x σ12) = _ from av0.2.2.2).trans (srp.trans (srt_pa (A := σ) (σ := sS 34 x σ) rfl)))))
          have pb3 := pbn.trans (PBF.nop pbn.2.2.1 av1 (by decide) (by decide) (by decide) : PBF _ σ12)
          have pl3 : σ.1 19 < σ12.1 19 := by have z := av4; rw [fn.1 20 (by decide)] at z; omega
          have tk3 := av3.1
          have mn3 : PMN ρ σ12 (m + 1) := fun z1 z2 z3 => by rw [av1.2.1 35 (by decide)]; exact mn2 z1 z2 (by rw [av1.1 26 (by decide)] at z3; exact z3)
          refine tm_aload_n dX12_oneRoutine_234 rfl 3 rfl ?_
          refine tm_bipush dX12_oneRoutine_235 (by decide) ?_
          refine tm_callV (M := m_X12_oneRoutine) (pc := 237) (ix := 258) (M' := m_X12_isSign) (As := [.int (iI 44)]) (rest := []) dX12_oneRoutine_237 ok_X12_isSign im_X12_isSign se_X12_isSign ml12_258 np_X12_isSign rfl rfl (Nat.le_of_ble_eq_true rfl) (Nat.le_of_ble_eq_true rfl) rfl (c2_X12_isSign (d + 5) (σ := σ12) (c := 44) f16 (by omega)) (fun r19 σ20 hp => ?_)
          obtain ⟨v21, rfl, rfl, f22, f23, f24⟩ := hp
          show Tm _ _ 240 b σ12 [(2, .int (iI (m + 1))), (3, .int (iI mo)), (1, .int (iI p)), (0, .ref b)] [.int (iI v21)] _
          have i44 := f23
          have n44_ := f24
          refine tm_istore_n (L' := [(3, .int (iI v21)), (2, .int (iI (m + 1))), (1, .int (iI p)), (0, .ref b)]) dX12_oneRoutine_240 rfl (by decide) rfl ?_
          refine tm_iload_n dX12_oneRoutine_241 rfl 0 rfl ?_
          refine tm_if_eq (tgt := 113) dX12_oneRoutine_242 (by decide) ⟨by omega, by omega⟩ (fun h32 => ?_) (fun h32 => ?_)
          · exact tm_sub [0, 1, 2, 3] rfl (ih _ (by omega) (m + 1) (v21) σ12 ((Fr.rfl.trans (Fr.sub hF (by decide) (by decide) (by decide))).trans (Fr.sub f15 (by decide) (by decide) (by decide))) f16 (by omega) av3 (hpb.trans pb3) (⟨fun q => absurd q (by omega), fun _ => Or.inr ⟨gx2, n44_ (by omega)⟩⟩) mn3 (by omega) rfl)
          · refine tm_aload_n dX12_oneRoutine_245 rfl 3 rfl ?_
            refine tm_callV (M := m_X12_oneRoutine) (pc := 246) (ix := 265) (M' := m_X12_advance) (As := []) (rest := []) dX12_oneRoutine_246 ok_X12_advance im_X12_advance se_X12_advance ml12_265 np_X12_advance rfl rfl (Nat.le_of_ble_eq_true rfl) (Nat.le_of_ble_eq_true rfl) rfl (c_X12_advance (d + 1) (σ := σ12)  f16 (by omega)) (fun r33 σ34 hp => ?_)
            obtain ⟨rfl, f36, f37, f38, f39, f40⟩ := hp
            show Tm _ _ 249 b σ34 [(3, .int (iI v21)), (2, .int (iI (m + 1))), (1, .int (iI p)), (0, .ref b)] [] _
            refine tm_goto (tgt := 113) dX12_oneRoutine_249 (by decide) ?_
            exact tm_sub [0, 1, 2, 3] rfl (ih _ (by have z := f40; have z2 := f39.1; omega) (m + 1) (v21) σ34 (((Fr.rfl.trans (Fr.sub hF (by decide) (by decide) (by decide))).trans (Fr.sub f15 (by decide) (by decide) (by decide))).trans (Fr.sub f37 (by decide) (by decide) (by decide))) f38 (by have z := f40; have z2 := f39.1; omega) f39 (hpb.trans (pb3.trans (PBF.nop pb3.2.2.1 f37 (by decide) (by decide) (by decide)))) (⟨fun _ => gx2.nxt (fun x => g33y (i44 (by omega)) (f36.any x)), fun q => absurd q (by omega)⟩) (fun z1 z2 z3 => by rw [f37.2.1 35 (by decide)]; exact mn3 z1 z2 (by rw [f37.1 26 (by decide)] at z3; exact z3)) (by have z := f40; have z2 := f39.1; omega) rfl)
        · refine tm_iload_n dX12_oneRoutine_137 rfl 1 rfl ?_
          refine tm_iconst dX12_oneRoutine_138 ?_
          refine tm_icmp_ne (tgt := 151) dX12_oneRoutine_139 (by decide) ⟨by omega, by omega⟩ ⟨by decide, by decide⟩ (fun h41 => ?_) (fun h41 => ?_)
          · refine tm_iconst dX12_oneRoutine_151 ?_
            refine tm_istore (L' := [(4, .int (iI 0)), (3, .int (iI mo)), (2, .int (iI m)), (1, .int (iI p)), (0, .ref b)]) dX12_oneRoutine_152 (by decide) rfl ?_
            refine tm_sub [0, 1, 2, 3, 4] rfl (l_dup (d + 4) (σ0 := σ) (m := m) (mo := mo) (p := p) hR hpb.2.2.1 (by omega) (by omega) (fun i49 σ50 F44 R45 f46 f47 f48 => ?_) _ (0) σ Fr.rfl hR (by omega) (FLT.eq rfl) (fun _ j a c => absurd c (by omega)) DPN.zero rfl)
            show Tm _ _ 213 b σ50 [(4, .int (iI i49)), (3, .int (iI mo)), (2, .int (iI m)), (1, .int (iI p)), (0, .ref b)] [] _
            have du0 := f46
            have du1 := f47
            have du2 := f48
            refine tm_aload_n dX12_oneRoutine_213 rfl 4 rfl ?_
            refine tm_aload_n dX12_oneRoutine_214 rfl 4 rfl ?_
            refine tm_getW (t := σ.2.2 24 0) dX12_oneRoutine_215 fl12_219 (rj_F F44 (by decide) (rfl)) ?_
            refine tm_aload_n dX12_oneRoutine_218 rfl 4 rfl ?_
            refine tm_getS (k := 19) (t := σ.1 19) dX12_oneRoutine_219 (by decide) fl12_216 rfl (rs_F F44 (by decide) (rfl)) ?_
            have g51 := RG.s hR 19
            refine tm_callV (M := m_X12_oneRoutine) (pc := 222) (ix := 323) (M' := m_X12_nameOf) (As := [.long (σ.2.2 24 0), .int (iI (σ.1 19))]) (rest := []) dX12_oneRoutine_222 ok_X12_nameOf im_X12_nameOf se_X12_nameOf ml12_323 np_X12_nameOf rfl rfl (Nat.le_of_ble_eq_true rfl) (Nat.le_of_ble_eq_true rfl) rfl (c2_X12_nameOf (d + 4) (σ := σ50) (w := σ.2.2 24 0) (p := σ.1 19) R45 (hpb.2.2.1.fr (show Fr [26, 27] [] [] σ σ50 from (Fr.rfl.trans (Fr.sub F44 (by decide) (by decide) (by decide)))) (by decide)) (by rw [(show Fr [26, 27] [] [] σ σ50 from (Fr.rfl.trans (Fr.sub F44 (by decide) (by decide) (by decide)))).1 30 (by decide)]; omega) (by omega)) (fun r52 σ53 hp => ?_)
            obtain ⟨v54, rfl, f55, f56, f57, f58, f59, f60⟩ := hp
            show Tm _ _ 225 b σ53 [(4, .int (iI i49)), (3, .int (iI mo)), (2, .int (iI m)), (1, .int (iI p)), (0, .ref b)] [.int (iI v54)] _
            refine tm_istore (L' := [(4, .int (iI v54)), (3, .int (iI mo)), (2, .int (iI m)), (1, .int (iI p)), (0, .ref b)]) dX12_oneRoutine_225 (by decide) rfl ?_
            have nn4 := f60
            have srp : srt σ53 = srt (paP (σ.2.2 24 0) (σ.1 19) m σ) := by rw [paP_1 (by omega), ifP_f (by omega)]; exact congrArg srt ((f59).trans (congrArg (nmP (σ.2.2 24 0) (σ.1 19)) (du2.trans rfl)))
            have fn := (show Fr [26, 27] [35] [38] σ σ53 from ((Fr.rfl.trans (Fr.sub F44 (by decide) (by decide) (by decide))).trans (Fr.sub f55 (by decide) (by decide) (by decide))))
            have f13 := (show Fr [26, 27] [] [] σ σ50 from (Fr.rfl.trans (Fr.sub F44 (by decide) (by decide) (by decide))))
            have pbn : PBF σ σ53 := (PBF.of hpb.2.2.1 f13 (by decide) (by decide) (by decide) du0).trans f57
            have mn2 : PMN ρ σ53 (m + 1) := fun z1 z2 z3 => by
              have y1 : σ50.1 26 = 0 := Classical.byContradiction (fun y => f57.2.2.2.2.1.1 y z3)
              have y2 : σ.1 26 = 0 := Classical.byContradiction (fun y => du0.1 y y1)
              have y3 := hmn z1 z2 y2
              have y4 := nn4 ((f13.1 25 (by decide)).trans (by omega)) (by rw [f13.1 30 (by decide)]; omega) (by rw [f13.1 30 (by decide), f13.2.1 35 (by decide), f13.2.2 38 (by decide)]; exact du1 y1 (by omega)) z3
              rw [f13.1 30 (by decide), f13.2.1 35 (by decide), e30p] at y4
              omega
            refine tm_iinc (q0 := 2) (L' := [(2, .int (iI (m + 1))), (4, .int (iI v54)), (3, .int (iI mo)), (1, .int (iI p)), (0, .ref b)]) dX12_oneRoutine_227 rfl (by decide) rfl ?_
            refine tm_aload_n dX12_oneRoutine_230 rfl 4 rfl ?_
            refine tm_callV (M := m_X12_oneRoutine) (pc := 231) (ix := 265) (M' := m_X12_advance) (As := []) (rest := []) dX12_oneRoutine_231 ok_X12_advance im_X12_advance se_X12_advance ml12_265 np_X12_advance rfl rfl (Nat.le_of_ble_eq_true rfl) (Nat.le_of_ble_eq_true rfl) rfl (c_X12_advance (d + 1) (σ := σ53)  f56 (by rw [fn.1 20 (by decide), fn.1 21 (by decide)]; omega)) (fun r61 σ62 hp => ?_)
            obtain ⟨rfl, f64, f65, f66, f67, f68⟩ := hp
            show Tm _ _ 234 b σ62 [(2, .int (iI (m + 1))), (4, .int (iI v54)), (3, .int (iI mo)), (1, .int (iI p)), (0, .ref b)] [] _
            have av0 := f64
            have av1 := f65
            have av2 := f66
            have av3 := f67
            have av4 := f68
            have gx2 : GOX [30] ρ (qq 0) [33] σ62 (0, 0, 0, m + 1, ρ.1 19) := gx.nxt (fun x => g32 (σ := sS 34 x σ) (τ := sS 34 x σ62) (q := (0, 0, 0, m, ρ.1 19)) nmw (show tks σ62 = advT (sv σ) (σ.1 20) by rw [av0.1, sv_fr fn (by decide) (by decide), fn.1 20 (by decide)]) (show (σ62.1 28, σ62.1 29, x) = (σ.1 28, σ.1 29, x) by rw [av1.1 28 (by decide), av1.1 29 (by decide), fn.1 28 (by decide), fn.1 29 (by decide)]) (show sv σ62 = sv σ by rw [av0.2.2.1, sv_fr fn (by decide) (by decide)]) (EFF.para ((show srt (sS 34 x σ62) = _ from av0.2.2.2).trans (srp.trans (srt_pa (A := σ) (σ := sS 34 x σ) rfl)))))
            have pb3 := pbn.trans (PBF.nop pbn.2.2.1 av1 (by decide) (by decide) (by decide) : PBF _ σ62)
            have pl3 : σ.1 19 < σ62.1 19 := by have z := av4; rw [fn.1 20 (by decide)] at z; omega
            have tk3 := av3.1
            have mn3 : PMN ρ σ62 (m + 1) := fun z1 z2 z3 => by rw [av1.2.1 35 (by decide)]; exact mn2 z1 z2 (by rw [av1.1 26 (by decide)] at z3; exact z3)
            refine tm_aload_n dX12_oneRoutine_234 rfl 4 rfl ?_
            refine tm_bipush dX12_oneRoutine_235 (by decide) ?_
            refine tm_callV (M := m_X12_oneRoutine) (pc := 237) (ix := 258) (M' := m_X12_isSign) (As := [.int (iI 44)]) (rest := []) dX12_oneRoutine_237 ok_X12_isSign im_X12_isSign se_X12_isSign ml12_258 np_X12_isSign rfl rfl (Nat.le_of_ble_eq_true rfl) (Nat.le_of_ble_eq_true rfl) rfl (c2_X12_isSign (d + 5) (σ := σ62) (c := 44) f66 (by omega)) (fun r69 σ70 hp => ?_)
            obtain ⟨v71, rfl, rfl, f72, f73, f74⟩ := hp
            show Tm _ _ 240 b σ62 [(2, .int (iI (m + 1))), (4, .int (iI v54)), (3, .int (iI mo)), (1, .int (iI p)), (0, .ref b)] [.int (iI v71)] _
            have i44 := f73
            have n44_ := f74
            refine tm_istore_n (L' := [(3, .int (iI v71)), (2, .int (iI (m + 1))), (4, .int (iI v54)), (1, .int (iI p)), (0, .ref b)]) dX12_oneRoutine_240 rfl (by decide) rfl ?_
            refine tm_iload_n dX12_oneRoutine_241 rfl 0 rfl ?_
            refine tm_if_eq (tgt := 113) dX12_oneRoutine_242 (by decide) ⟨by omega, by omega⟩ (fun h75 => ?_) (fun h75 => ?_)
            · exact tm_sub [0, 1, 3, 4] rfl (ih _ (by omega) (m + 1) (v71) σ62 ((((Fr.rfl.trans (Fr.sub hF (by decide) (by decide) (by decide))).trans (Fr.sub F44 (by decide) (by decide) (by decide))).trans (Fr.sub f55 (by decide) (by decide) (by decide))).trans (Fr.sub f65 (by decide) (by decide) (by decide))) f66 (by omega) av3 (hpb.trans pb3) (⟨fun q => absurd q (by omega), fun _ => Or.inr ⟨gx2, n44_ (by omega)⟩⟩) mn3 (by omega) rfl)
            · refine tm_aload_n dX12_oneRoutine_245 rfl 4 rfl ?_
              refine tm_callV (M := m_X12_oneRoutine) (pc := 246) (ix := 265) (M' := m_X12_advance) (As := []) (rest := []) dX12_oneRoutine_246 ok_X12_advance im_X12_advance se_X12_advance ml12_265 np_X12_advance rfl rfl (Nat.le_of_ble_eq_true rfl) (Nat.le_of_ble_eq_true rfl) rfl (c_X12_advance (d + 1) (σ := σ62)  f66 (by omega)) (fun r76 σ77 hp => ?_)
              obtain ⟨rfl, f79, f80, f81, f82, f83⟩ := hp
              show Tm _ _ 249 b σ77 [(3, .int (iI v71)), (2, .int (iI (m + 1))), (4, .int (iI v54)), (1, .int (iI p)), (0, .ref b)] [] _
              refine tm_goto (tgt := 113) dX12_oneRoutine_249 (by decide) ?_
              exact tm_sub [0, 1, 3, 4] rfl (ih _ (by have z := f83; have z2 := f82.1; omega) (m + 1) (v71) σ77 (((((Fr.rfl.trans (Fr.sub hF (by decide) (by decide) (by decide))).trans (Fr.sub F44 (by decide) (by decide) (by decide))).trans (Fr.sub f55 (by decide) (by decide) (by decide))).trans (Fr.sub f65 (by decide) (by decide) (by decide))).trans (Fr.sub f80 (by decide) (by decide) (by decide))) f81 (by have z := f83; have z2 := f82.1; omega) f82 (hpb.trans (pb3.trans (PBF.nop pb3.2.2.1 f80 (by decide) (by decide) (by decide)))) (⟨fun _ => gx2.nxt (fun x => g33y (i44 (by omega)) (f79.any x)), fun q => absurd q (by omega)⟩) (fun z1 z2 z3 => by rw [f80.2.1 35 (by decide)]; exact mn3 z1 z2 (by rw [f80.1 26 (by decide)] at z3; exact z3)) (by have z := f83; have z2 := f82.1; omega) rfl)
          · refine tm_aload_n dX12_oneRoutine_142 rfl 3 rfl ?_
            refine tm_iconst dX12_oneRoutine_143 ?_
            refine tm_aload_n dX12_oneRoutine_144 rfl 3 rfl ?_
            refine tm_getS (k := 19) (t := σ.1 19) dX12_oneRoutine_145 (by decide) fl12_216 rfl (rfl) ?_
            have g84 := RG.s hR 19
            refine tm_callV (M := m_X12_oneRoutine) (pc := 148) (ix := 274) (M' := m_X12_note) (As := [.int (iI 5), .int (iI (σ.1 19))]) (rest := []) dX12_oneRoutine_148 ok_X12_note im_X12_note se_X12_note ml12_274 np_X12_note rfl rfl (Nat.le_of_ble_eq_true rfl) (Nat.le_of_ble_eq_true rfl) rfl (c2_X12_note (d + 5) (σ := σ) (f := 5) (p := σ.1 19) hR (by omega) (by omega)) (fun r85 σ86 hp => ?_)
            obtain ⟨rfl, f88, f89, f90, f91, f92⟩ := hp
            show Tm _ _ 151 b σ86 [(3, .int (iI mo)), (2, .int (iI m)), (1, .int (iI p)), (0, .ref b)] [] _
            have n4f := f90
            have n4n : σ86.1 26 ≠ 0 := f91 (by omega)
            have n4e : σ86 = ntP 5 (σ.1 19) σ := f92
            clear f91
            refine tm_iconst dX12_oneRoutine_151 ?_
            refine tm_istore (L' := [(4, .int (iI 0)), (3, .int (iI mo)), (2, .int (iI m)), (1, .int (iI p)), (0, .ref b)]) dX12_oneRoutine_152 (by decide) rfl ?_
            refine tm_sub [0, 1, 2, 3, 4] rfl (l_dup (d + 4) (σ0 := σ86) (m := m) (mo := mo) (p := p) f89 (hpb.2.2.1.fr f88 (by decide)) (by rw [f88.1 30 (by decide)]; omega) (by rw [f88.1 25 (by decide)]; omega) (fun i100 σ101 F95 R96 f97 f98 f99 => ?_) _ (0) σ86 Fr.rfl f89 (by omega) (FLT.eq rfl) (fun _ j a c => absurd c (by omega)) DPN.zero rfl)
            show Tm _ _ 213 b σ101 [(4, .int (iI i100)), (3, .int (iI mo)), (2, .int (iI m)), (1, .int (iI p)), (0, .ref b)] [] _
            have du0 := f97
            have du1 := f98
            have du2 := f99
            refine tm_aload_n dX12_oneRoutine_213 rfl 4 rfl ?_
            refine tm_aload_n dX12_oneRoutine_214 rfl 4 rfl ?_
            refine tm_getW (t := σ.2.2 24 0) dX12_oneRoutine_215 fl12_219 (rj_F F95 (by decide) (rj_F f88 (by decide) (rfl))) ?_
            refine tm_aload_n dX12_oneRoutine_218 rfl 4 rfl ?_
            refine tm_getS (k := 19) (t := σ.1 19) dX12_oneRoutine_219 (by decide) fl12_216 rfl (rs_F F95 (by decide) (rs_F f88 (by decide) (rfl))) ?_
            have g102 := RG.s hR 19
            refine tm_callV (M := m_X12_oneRoutine) (pc := 222) (ix := 323) (M' := m_X12_nameOf) (As := [.long (σ.2.2 24 0), .int (iI (σ.1 19))]) (rest := []) dX12_oneRoutine_222 ok_X12_nameOf im_X12_nameOf se_X12_nameOf ml12_323 np_X12_nameOf rfl rfl (Nat.le_of_ble_eq_true rfl) (Nat.le_of_ble_eq_true rfl) rfl (c2_X12_nameOf (d + 4) (σ := σ101) (w := σ.2.2 24 0) (p := σ.1 19) R96 (hpb.2.2.1.fr (show Fr [26, 27] [] [] σ σ101 from ((Fr.rfl.trans (Fr.sub f88 (by decide) (by decide) (by decide))).trans (Fr.sub F95 (by decide) (by decide) (by decide)))) (by decide)) (by rw [(show Fr [26, 27] [] [] σ σ101 from ((Fr.rfl.trans (Fr.sub f88 (by decide) (by decide) (by decide))).trans (Fr.sub F95 (by decide) (by decide) (by decide)))).1 30 (by decide)]; omega) (by omega)) (fun r103 σ104 hp => ?_)
            obtain ⟨v105, rfl, f106, f107, f108, f109, f110, f111⟩ := hp
            show Tm _ _ 225 b σ104 [(4, .int (iI i100)), (3, .int (iI mo)), (2, .int (iI m)), (1, .int (iI p)), (0, .ref b)] [.int (iI v105)] _
            refine tm_istore (L' := [(4, .int (iI v105)), (3, .int (iI mo)), (2, .int (iI m)), (1, .int (iI p)), (0, .ref b)]) dX12_oneRoutine_225 (by decide) rfl ?_
            have nn4 := f111
            have srp : srt σ104 = srt (paP (σ.2.2 24 0) (σ.1 19) m σ) := by rw [paP_1 (by omega), ifP_t (by omega)]; exact congrArg srt ((f110).trans (congrArg (nmP (σ.2.2 24 0) (σ.1 19)) (du2.trans (by rw [n4e, show (ntP 5 (σ.1 19) σ).1 19 = σ.1 19 from ntP_fr.1 19 (by decide)]))))
            have fn := (show Fr [26, 27] [35] [38] σ σ104 from (((Fr.rfl.trans (Fr.sub f88 (by decide) (by decide) (by decide))).trans (Fr.sub F95 (by decide) (by decide) (by decide))).trans (Fr.sub f106 (by decide) (by decide) (by decide))))
            have f13 := (show Fr [26, 27] [] [] σ σ101 from ((Fr.rfl.trans (Fr.sub f88 (by decide) (by decide) (by decide))).trans (Fr.sub F95 (by decide) (by decide) (by decide))))
            have pbn : PBF σ σ104 := (PBF.of hpb.2.2.1 f13 (by decide) (by decide) (by decide) (n4f.trans du0)).trans f108
            have mn2 : PMN ρ σ104 (m + 1) := fun z1 z2 z3 => by
              have y1 : σ101.1 26 = 0 := Classical.byContradiction (fun y => f108.2.2.2.2.1.1 y z3)
              have y2 : σ86.1 26 = 0 := Classical.byContradiction (fun y => du0.1 y y1)
              exact absurd y2 n4n
            refine tm_iinc (q0 := 2) (L' := [(2, .int (iI (m + 1))), (4, .int (iI v105)), (3, .int (iI mo)), (1, .int (iI p)), (0, .ref b)]) dX12_oneRoutine_227 rfl (by decide) rfl ?_
            refine tm_aload_n dX12_oneRoutine_230 rfl 4 rfl ?_
            refine tm_callV (M := m_X12_oneRoutine) (pc := 231) (ix := 265) (M' := m_X12_advance) (As := []) (rest := []) dX12_oneRoutine_231 ok_X12_advance im_X12_advance se_X12_advance ml12_265 np_X12_advance rfl rfl (Nat.le_of_ble_eq_true rfl) (Nat.le_of_ble_eq_true rfl) rfl (c_X12_advance (d + 1) (σ := σ104)  f107 (by rw [fn.1 20 (by decide), fn.1 21 (by decide)]; omega)) (fun r112 σ113 hp => ?_)
            obtain ⟨rfl, f115, f116, f117, f118, f119⟩ := hp
            show Tm _ _ 234 b σ113 [(2, .int (iI (m + 1))), (4, .int (iI v105)), (3, .int (iI mo)), (1, .int (iI p)), (0, .ref b)] [] _
            have av0 := f115
            have av1 := f116
            have av2 := f117
            have av3 := f118
            have av4 := f119
            have gx2 : GOX [30] ρ (qq 0) [33] σ113 (0, 0, 0, m + 1, ρ.1 19) := gx.nxt (fun x => g32 (σ := sS 34 x σ) (τ := sS 34 x σ113) (q := (0, 0, 0, m, ρ.1 19)) nmw (show tks σ113 = advT (sv σ) (σ.1 20) by rw [av0.1, sv_fr fn (by decide) (by decide), fn.1 20 (by decide)]) (show (σ113.1 28, σ113.1 29, x) = (σ.1 28, σ.1 29, x) by rw [av1.1 28 (by decide), av1.1 29 (by decide), fn.1 28 (by decide), fn.1 29 (by decide)]) (show sv σ113 = sv σ by rw [av0.2.2.1, sv_fr fn (by decide) (by decide)]) (EFF.para ((show srt (sS 34 x σ113) = _ from av0.2.2.2).trans (srp.trans (srt_pa (A := σ) (σ := sS 34 x σ) rfl)))))
            have pb3 := pbn.trans (PBF.nop pbn.2.2.1 av1 (by decide) (by decide) (by decide) : PBF _ σ113)
            have pl3 : σ.1 19 < σ113.1 19 := by have z := av4; rw [fn.1 20 (by decide)] at z; omega
            have tk3 := av3.1
            have mn3 : PMN ρ σ113 (m + 1) := fun z1 z2 z3 => by rw [av1.2.1 35 (by decide)]; exact mn2 z1 z2 (by rw [av1.1 26 (by decide)] at z3; exact z3)
            refine tm_aload_n dX12_oneRoutine_234 rfl 4 rfl ?_
            refine tm_bipush dX12_oneRoutine_235 (by decide) ?_
            refine tm_callV (M := m_X12_oneRoutine) (pc := 237) (ix := 258) (M' := m_X12_isSign) (As := [.int (iI 44)]) (rest := []) dX12_oneRoutine_237 ok_X12_isSign im_X12_isSign se_X12_isSign ml12_258 np_X12_isSign rfl rfl (Nat.le_of_ble_eq_true rfl) (Nat.le_of_ble_eq_true rfl) rfl (c2_X12_isSign (d + 5) (σ := σ113) (c := 44) f117 (by omega)) (fun r120 σ121 hp => ?_)
            obtain ⟨v122, rfl, rfl, f123, f124, f125⟩ := hp
            show Tm _ _ 240 b σ113 [(2, .int (iI (m + 1))), (4, .int (iI v105)), (3, .int (iI mo)), (1, .int (iI p)), (0, .ref b)] [.int (iI v122)] _
            have i44 := f124
            have n44_ := f125
            refine tm_istore_n (L' := [(3, .int (iI v122)), (2, .int (iI (m + 1))), (4, .int (iI v105)), (1, .int (iI p)), (0, .ref b)]) dX12_oneRoutine_240 rfl (by decide) rfl ?_
            refine tm_iload_n dX12_oneRoutine_241 rfl 0 rfl ?_
            refine tm_if_eq (tgt := 113) dX12_oneRoutine_242 (by decide) ⟨by omega, by omega⟩ (fun h126 => ?_) (fun h126 => ?_)
            · exact tm_sub [0, 1, 3, 4] rfl (ih _ (by omega) (m + 1) (v122) σ113 (((((Fr.rfl.trans (Fr.sub hF (by decide) (by decide) (by decide))).trans (Fr.sub f88 (by decide) (by decide) (by decide))).trans (Fr.sub F95 (by decide) (by decide) (by decide))).trans (Fr.sub f106 (by decide) (by decide) (by decide))).trans (Fr.sub f116 (by decide) (by decide) (by decide))) f117 (by omega) av3 (hpb.trans pb3) (⟨fun q => absurd q (by omega), fun _ => Or.inr ⟨gx2, n44_ (by omega)⟩⟩) mn3 (by omega) rfl)
            · refine tm_aload_n dX12_oneRoutine_245 rfl 4 rfl ?_
              refine tm_callV (M := m_X12_oneRoutine) (pc := 246) (ix := 265) (M' := m_X12_advance) (As := []) (rest := []) dX12_oneRoutine_246 ok_X12_advance im_X12_advance se_X12_advance ml12_265 np_X12_advance rfl rfl (Nat.le_of_ble_eq_true rfl) (Nat.le_of_ble_eq_true rfl) rfl (c_X12_advance (d + 1) (σ := σ113)  f117 (by omega)) (fun r127 σ128 hp => ?_)
              obtain ⟨rfl, f130, f131, f132, f133, f134⟩ := hp
              show Tm _ _ 249 b σ128 [(3, .int (iI v122)), (2, .int (iI (m + 1))), (4, .int (iI v105)), (1, .int (iI p)), (0, .ref b)] [] _
              refine tm_goto (tgt := 113) dX12_oneRoutine_249 (by decide) ?_
              exact tm_sub [0, 1, 3, 4] rfl (ih _ (by have z := f134; have z2 := f133.1; omega) (m + 1) (v122) σ128 ((((((Fr.rfl.trans (Fr.sub hF (by decide) (by decide) (by decide))).trans (Fr.sub f88 (by decide) (by decide) (by decide))).trans (Fr.sub F95 (by decide) (by decide) (by decide))).trans (Fr.sub f106 (by decide) (by decide) (by decide))).trans (Fr.sub f116 (by decide) (by decide) (by decide))).trans (Fr.sub f131 (by decide) (by decide) (by decide))) f132 (by have z := f134; have z2 := f133.1; omega) f133 (hpb.trans (pb3.trans (PBF.nop pb3.2.2.1 f131 (by decide) (by decide) (by decide)))) (⟨fun _ => gx2.nxt (fun x => g33y (i44 (by omega)) (f130.any x)), fun q => absurd q (by omega)⟩) (fun z1 z2 z3 => by rw [f131.2.1 35 (by decide)]; exact mn3 z1 z2 (by rw [f131.1 26 (by decide)] at z3; exact z3)) (by have z := f134; have z2 := f133.1; omega) rfl)
      · refine tm_aload_n dX12_oneRoutine_124 rfl 3 rfl ?_
        refine tm_callV (M := m_X12_oneRoutine) (pc := 125) (ix := 261) (M' := m_X12_wrong) (As := []) (rest := []) dX12_oneRoutine_125 ok_X12_wrong im_X12_wrong se_X12_wrong ml12_261 np_X12_wrong rfl rfl (Nat.le_of_ble_eq_true rfl) (Nat.le_of_ble_eq_true rfl) rfl (c_X12_wrong (d + 5) (σ := σ)  hR) (fun r135 σ136 hp => ?_)
        obtain ⟨v137, rfl, f138, f139, f140, f141, f142, f143⟩ := hp
        show Tm _ _ 128 b σ136 [(3, .int (iI mo)), (2, .int (iI m)), (1, .int (iI p)), (0, .ref b)] [.int (iI v137)] _
        exact tm_zret (v := v137) rfl (by omega) dX12_oneRoutine_128 (hr0 _ _ f138 ((Fr.rfl.trans (Fr.sub hF (by decide) (by decide) (by decide))).trans (Fr.sub f139 (by decide) (by decide) (by decide))) f140 (hpb.trans (PBF.of hpb.2.2.1 f139 (by decide) (by decide) (by decide) (FLT.wr f142 f143))) ((hgx.1 (by omega)).fail (fun x => g32f (σ := sS 34 x σ) (nnm_ (by omega)) ((WRG.of f143).x x))))
