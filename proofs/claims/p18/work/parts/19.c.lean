section
def PMN (ρ σ : MS) (m : Int) : Prop := ρ.1 25 = 1 → ρ.1 30 < 6 → σ.1 26 = 0 → m ≤ 4 ∧ m ≤ σ.2.1 35 (ρ.1 30)

theorem dX12_oneRoutine_113 : decode cX12_oneRoutine 113 = .ok (.iload_n 3, 1) := by decide +kernel
theorem dX12_oneRoutine_114 : decode cX12_oneRoutine 114 = .ok (.ifCond .eq 138, 3) := by decide +kernel
theorem dX12_oneRoutine_117 : decode cX12_oneRoutine 117 = .ok (.aload_n 0, 1) := by decide +kernel
theorem dX12_oneRoutine_118 : decode cX12_oneRoutine 118 = .ok (.invokevirtual 320, 3) := by decide +kernel
theorem dX12_oneRoutine_121 : decode cX12_oneRoutine 121 = .ok (.ifCond .ne 8, 3) := by decide +kernel
theorem dX12_oneRoutine_129 : decode cX12_oneRoutine 129 = .ok (.aload_n 0, 1) := by decide +kernel
theorem dX12_oneRoutine_130 : decode cX12_oneRoutine 130 = .ok (.getfield 255, 3) := by decide +kernel
theorem dX12_oneRoutine_133 : decode cX12_oneRoutine 133 = .ok (.iconst 1, 1) := by decide +kernel
theorem dX12_oneRoutine_134 : decode cX12_oneRoutine 134 = .ok (.if_icmp .ne 93, 3) := by decide +kernel
theorem dX12_oneRoutine_227 : decode cX12_oneRoutine 227 = .ok (.iinc 2 1, 3) := by decide +kernel
theorem dX12_oneRoutine_230 : decode cX12_oneRoutine 230 = .ok (.aload_n 0, 1) := by decide +kernel
theorem dX12_oneRoutine_231 : decode cX12_oneRoutine 231 = .ok (.invokevirtual 265, 3) := by decide +kernel
theorem dX12_oneRoutine_234 : decode cX12_oneRoutine 234 = .ok (.aload_n 0, 1) := by decide +kernel
theorem dX12_oneRoutine_235 : decode cX12_oneRoutine 235 = .ok (.bipush 44, 2) := by decide +kernel
theorem dX12_oneRoutine_237 : decode cX12_oneRoutine 237 = .ok (.invokevirtual 258, 3) := by decide +kernel
theorem dX12_oneRoutine_240 : decode cX12_oneRoutine 240 = .ok (.istore_n 3, 1) := by decide +kernel
theorem dX12_oneRoutine_241 : decode cX12_oneRoutine 241 = .ok (.iload_n 3, 1) := by decide +kernel
theorem dX12_oneRoutine_242 : decode cX12_oneRoutine 242 = .ok (.ifCond .eq (-129), 3) := by decide +kernel
theorem dX12_oneRoutine_245 : decode cX12_oneRoutine 245 = .ok (.aload_n 0, 1) := by decide +kernel
theorem dX12_oneRoutine_246 : decode cX12_oneRoutine 246 = .ok (.invokevirtual 265, 3) := by decide +kernel
theorem dX12_oneRoutine_249 : decode cX12_oneRoutine 249 = .ok (.goto (-136), 3) := by decide +kernel
theorem dX12_oneRoutine_137 : decode cX12_oneRoutine 137 = .ok (.iload_n 2, 1) := by decide +kernel
theorem dX12_oneRoutine_138 : decode cX12_oneRoutine 138 = .ok (.iconst 4, 1) := by decide +kernel
theorem dX12_oneRoutine_139 : decode cX12_oneRoutine 139 = .ok (.if_icmp .ne 12, 3) := by decide +kernel
theorem dX12_oneRoutine_151 : decode cX12_oneRoutine 151 = .ok (.iconst 0, 1) := by decide +kernel
theorem dX12_oneRoutine_152 : decode cX12_oneRoutine 152 = .ok (.istore 4, 2) := by decide +kernel
theorem dX12_oneRoutine_213 : decode cX12_oneRoutine 213 = .ok (.aload_n 0, 1) := by decide +kernel
theorem dX12_oneRoutine_214 : decode cX12_oneRoutine 214 = .ok (.aload_n 0, 1) := by decide +kernel
theorem dX12_oneRoutine_215 : decode cX12_oneRoutine 215 = .ok (.getfield 219, 3) := by decide +kernel
theorem dX12_oneRoutine_218 : decode cX12_oneRoutine 218 = .ok (.aload_n 0, 1) := by decide +kernel
theorem dX12_oneRoutine_219 : decode cX12_oneRoutine 219 = .ok (.getfield 216, 3) := by decide +kernel
theorem dX12_oneRoutine_222 : decode cX12_oneRoutine 222 = .ok (.invokevirtual 323, 3) := by decide +kernel
theorem dX12_oneRoutine_225 : decode cX12_oneRoutine 225 = .ok (.istore 4, 2) := by decide +kernel
theorem dX12_oneRoutine_142 : decode cX12_oneRoutine 142 = .ok (.aload_n 0, 1) := by decide +kernel
theorem dX12_oneRoutine_143 : decode cX12_oneRoutine 143 = .ok (.iconst 5, 1) := by decide +kernel
theorem dX12_oneRoutine_144 : decode cX12_oneRoutine 144 = .ok (.aload_n 0, 1) := by decide +kernel
theorem dX12_oneRoutine_145 : decode cX12_oneRoutine 145 = .ok (.getfield 216, 3) := by decide +kernel
theorem dX12_oneRoutine_148 : decode cX12_oneRoutine 148 = .ok (.invokevirtual 274, 3) := by decide +kernel
theorem dX12_oneRoutine_124 : decode cX12_oneRoutine 124 = .ok (.aload_n 0, 1) := by decide +kernel
theorem dX12_oneRoutine_125 : decode cX12_oneRoutine 125 = .ok (.invokevirtual 261, 3) := by decide +kernel
theorem dX12_oneRoutine_128 : decode cX12_oneRoutine 128 = .ok (.ireturn, 1) := by decide +kernel
set_option maxHeartbeats 4000000 in
set_option maxRecDepth 20000 in
theorem l_par (d : Nat) {b : Nat} {σ0 : MS} {p : Int} {ρ : MS} {post : Option Value → MS → Prop} (hR0 : RG σ0) (hoh : ORH ρ) (hd0 : HD ρ σ0) (hx_252 : ∀ (m : Int) (mo : Int) (σ : MS) , (Fr [19, 20, 22, 23, 26, 27] [35] [24, 38] σ0 σ) → (RG σ) → (0 ≤ m ∧ m ≤ 1200) → (TOK σ) → (PBF σ0 σ) → (PEN ρ σ m) → (PMN ρ σ (m)) → (σ0.1 19 ≤ σ.1 19) → Tm (d + 7) m_X12_oneRoutine 252 b σ [(3, .int (iI mo)), (2, .int (iI m)), (1, .int (iI p)), (0, .ref b)] [] post) (hr0 : ∀ (v : Int) (τ : MS), v = 0 → Fr [19, 20, 22, 23, 26, 27] [35] [24, 38] σ0 τ → RG τ → PBF σ0 τ → (∀ x, GOF [30] (sS 34 x ρ) (qq 0) τ) → post (some (.int (iI v))) τ) : ∀ (n : Nat) (m : Int) (mo : Int) (σ : MS) , (Fr [19, 20, 22, 23, 26, 27] [35] [24, 38] σ0 σ) → (RG σ) → ((0 ≤ m ∧ m ≤ σ.1 19 ∧ σ.1 19 ≤ 1200) ∧ (mo = 0 ∨ mo = 1)) → (TOK σ) → (PBF σ0 σ) → ((mo = 1 → GOX [30] ρ (qq 0) [32] σ (0, 0, 0, m, ρ.1 19)) ∧ (mo = 0 → PEN ρ σ m)) → (PMN ρ σ (m)) → (σ0.1 19 ≤ σ.1 19) → (1300 - σ.1 19).toNat = n → Tm (d + 7) m_X12_oneRoutine 113 b σ [(3, .int (iI mo)), (2, .int (iI m)), (1, .int (iI p)), (0, .ref b)] [] post := by
  intro n
  induction n using Nat.strongRecOn with
  | _ n ih =>
    intro m mo σ hF hR h0 htk hpb hgx hmn hpl hm
    have hd1 := hd0.pb hF hpb
    have e25p : σ.1 25 = ρ.1 25 := hd1.1.1 25 (by decide)
    have e30p : σ.1 30 = ρ.1 30 := hd1.1.1 30 (by decide)
    have oh30 := hoh.2.2.1
    have oht := hoh.1.1
    have e2125 := hF.1 25 (by decide)
    have e2130 := hF.1 30 (by decide)
    have tkh := htk.1
    refine tm_iload_n dX12_oneRoutine_113 rfl 0 rfl ?_
    refine tm_if_eq (tgt := 252) dX12_oneRoutine_114 (by decide) ⟨by omega, by omega⟩ (fun h1 => ?_) (fun h1 => ?_)
    · exact tm_sub [0, 1, 2, 3] rfl (hx_252 (m) (mo) σ (Fr.rfl.trans (Fr.sub hF (by decide) (by decide) (by decide))) hR (by omega) htk hpb (hgx.2 (by omega)) hmn hpl)
    · refine tm_aload_n dX12_oneRoutine_117 rfl 3 rfl ?_
      refine tm_callV (M := m_X12_oneRoutine) (pc := 118) (ix := 320) (M' := m_X12_isName) (As := []) (rest := []) dX12_oneRoutine_118 ok_X12_isName im_X12_isName se_X12_isName ml12_320 np_X12_isName rfl rfl (Nat.le_of_ble_eq_true rfl) (Nat.le_of_ble_eq_true rfl) rfl (c2_X12_isName (d + 5) (σ := σ)  hR) (fun r2 σ3 hp => ?_)
      obtain ⟨v4, rfl, rfl, f5, f6, f7⟩ := hp
      show Tm _ _ 121 b σ [(3, .int (iI mo)), (2, .int (iI m)), (1, .int (iI p)), (0, .ref b)] [.int (iI v4)] _
      have inm := f6
      have nnm_ := f7
      refine tm_if_ne (tgt := 129) dX12_oneRoutine_121 (by decide) ⟨by omega, by omega⟩ (fun h8 => ?_) (fun h8 => ?_)
      · have gx := hgx.1 (by omega)
        have nmw := inm (by omega)
        have hnz : σ.1 22 ≠ 0 := by have z := nmw.1; omega
        have plz := htk.2.1 hnz
        refine tm_aload_n dX12_oneRoutine_129 rfl 3 rfl ?_
        refine tm_getS (k := 25) (t := σ0.1 25) dX12_oneRoutine_130 (by decide) fl12_255 rfl (rs_F hF (by decide) (rfl)) ?_
        have g9 := RG.s hR0 25
        refine tm_iconst dX12_oneRoutine_133 ?_
        refine tm_icmp_ne (tgt := 227) dX12_oneRoutine_134 (by decide) ⟨by omega, by omega⟩ ⟨by decide, by decide⟩ (fun h10 => ?_) (fun h10 => ?_)
        · have pbn : PBF σ σ := PBF.nop hpb.2.2.1 (Fr.rfl : Fr [] [] [] σ σ) (by decide) (by decide) (by decide)
          have fn : Fr [26, 27] [35] [38] σ σ := Fr.rfl
          have mn2 : PMN ρ σ (m + 1) := fun z => absurd z (by omega)
          have srp : srt σ = srt (paP (σ.2.2 24 0) (σ.1 19) m σ) := by rw [paP_0 (by omega)]
          refine tm_iinc (q0 := 1) (L' := [(2, .int (iI (m + 1))), (3, .int (iI mo)), (1, .int (iI p)), (0, .ref b)]) dX12_oneRoutine_227 rfl (by decide) rfl ?_
          refine tm_aload_n dX12_oneRoutine_230 rfl 3 rfl ?_
          refine tm_callV (M := m_X12_oneRoutine) (pc := 231) (ix := 265) (M' := m_X12_advance) (As := []) (rest := []) dX12_oneRoutine_231 ok_X12_advance im_X12_advance se_X12_advance ml12_265 np_X12_advance rfl rfl (Nat.le_of_ble_eq_true rfl) (Nat.le_of_ble_eq_true rfl) rfl (c_X12_advance (d + 1) (σ := σ)  hR (by rw [fn.1 20 (by decide), fn.1 21 (by decide)]; omega)) (fun r11 σ12 hp => ?_)
          obtain ⟨rfl, f14, f15, f16, f17, f18⟩ := hp
          show Tm _ _ 234 b σ12 [(2, .int (iI (m + 1))), (3, .int (iI mo)), (1, .int (iI p)), (0, .ref b)] [] _
          have av0 := f14
          have av1 := f15
          have av2 := f16
          have av3 := f17
          have av4 := f18
          have gx2 : GOX [30] ρ (qq 0) [33] σ12 (0, 0, 0, m + 1, ρ.1 19) := gx.nxt (fun x => wx32 (σ := sS 34 x σ) (τ := sS 34 x σ12) (q := (0, 0, 0, m, ρ.1 19)) nmw (show tks σ12 = advT (sv σ) (σ.1 20) by rw [av0.1, sv_fr fn (by decide) (by decide), fn.1 20 (by decide)]) (show (σ12.1 28, σ12.1 29, x) = (σ.1 28, σ.1 29, x) by rw [av1.1 28 (by decide), av1.1 29 (by decide), fn.1 28 (by decide), fn.1 29 (by decide)]) (show sv σ12 = sv σ by rw [av0.2.2.1, sv_fr fn (by decide) (by decide)]) (EFF.para ((show srt (sS 34 x σ12) = _ from av0.2.2.2).trans (srp.trans (srt_pa (A := σ) (σ := sS 34 x σ) rfl)))))
          have pb3 := pbn.trans (PBF.nop pbn.2.2.1 av1 (by decide) (by decide) (by decide) : PBF _ σ12)
          have pl3 : σ.1 19 < σ12.1 19 := by have z := av4; rw [fn.1 20 (by decide)] at z; omega
          have tk3 := av3.1
          have mn3 : PMN ρ σ12 (m + 1) := fun z1 z2 z3 => by rw [av1.2.1 35 (by decide)]; exact mn2 z1 z2 (by rw [av1.1 26 (by decide)] at z3; exact z3)
          refine tm_aload_n dX12_oneRoutine_234 rfl 3 rfl ?_
          refine tm_bipush dX12_oneRoutine_235 (by decide) ?_
          refine tm_callV (M := m_X12_oneRoutine) (pc := 237) (ix := 258) (M' := m_X12_isSign) (As := [.int (iI 44)]) (rest := []) dX12_oneRoutine_237 ok_X12_isSign im_X12_isSign se_X12_isSign ml12_258 np_X12_isSign rfl rfl (Nat.le_of_ble_eq_true rfl) (Nat.le_of_ble_eq_true rfl) rfl (c2_X12_isSign (d + 5) (σ := σ12) (c := 44) f16 (by omega)) (fun r19 σ20 hp => ?_)
          obtain ⟨v21, rfl, rfl, f22, f23, f24⟩ := hp
          show Tm _ _ 240 b σ12 [(2, .int (iI (m + 1))), (3, .int (iI mo)), (1, .int (iI p)), (0, .ref b)] [.int (iI v21)] _
          have i44 := f23
          have n44_ := f24
          refine tm_istore_n (L' := [(3, .int (iI v21)), (2, .int (iI (m + 1))), (1, .int (iI p)), (0, .ref b)]) dX12_oneRoutine_240 rfl (by decide) rfl ?_
          refine tm_iload_n dX12_oneRoutine_241 rfl 0 rfl ?_
          refine tm_if_eq (tgt := 113) dX12_oneRoutine_242 (by decide) ⟨by omega, by omega⟩ (fun h32 => ?_) (fun h32 => ?_)
          · exact tm_sub [0, 1, 2, 3] rfl (ih _ (by omega) (m + 1) (v21) σ12 ((Fr.rfl.trans (Fr.sub hF (by decide) (by decide) (by decide))).trans (Fr.sub f15 (by decide) (by decide) (by decide))) f16 (by omega) av3 (hpb.trans pb3) (⟨fun q => absurd q (by omega), fun _ => Or.inr ⟨gx2, n44_ (by omega)⟩⟩) mn3 (by omega) rfl)
          · refine tm_aload_n dX12_oneRoutine_245 rfl 3 rfl ?_
            refine tm_callV (M := m_X12_oneRoutine) (pc := 246) (ix := 265) (M' := m_X12_advance) (As := []) (rest := []) dX12_oneRoutine_246 ok_X12_advance im_X12_advance se_X12_advance ml12_265 np_X12_advance rfl rfl (Nat.le_of_ble_eq_true rfl) (Nat.le_of_ble_eq_true rfl) rfl (c_X12_advance (d + 1) (σ := σ12)  f16 (by omega)) (fun r33 σ34 hp => ?_)
            obtain ⟨rfl, f36, f37, f38, f39, f40⟩ := hp
            show Tm _ _ 249 b σ34 [(3, .int (iI v21)), (2, .int (iI (m + 1))), (1, .int (iI p)), (0, .ref b)] [] _
            refine tm_goto (tgt := 113) dX12_oneRoutine_249 (by decide) ?_
            exact tm_sub [0, 1, 2, 3] rfl (ih _ (by have z := f40; have z2 := f39.1; omega) (m + 1) (v21) σ34 (((Fr.rfl.trans (Fr.sub hF (by decide) (by decide) (by decide))).trans (Fr.sub f15 (by decide) (by decide) (by decide))).trans (Fr.sub f37 (by decide) (by decide) (by decide))) f38 (by have z := f40; have z2 := f39.1; omega) f39 (hpb.trans (pb3.trans (PBF.nop pb3.2.2.1 f37 (by decide) (by decide) (by decide)))) (⟨fun _ => gx2.nxt (fun x => wx33y (i44 (by omega)) (f36.any x)), fun q => absurd q (by omega)⟩) (fun z1 z2 z3 => by rw [f37.2.1 35 (by decide)]; exact mn3 z1 z2 (by rw [f37.1 26 (by decide)] at z3; exact z3)) (by have z := f40; have z2 := f39.1; omega) rfl)
        · refine tm_iload_n dX12_oneRoutine_137 rfl 1 rfl ?_
          refine tm_iconst dX12_oneRoutine_138 ?_
          refine tm_icmp_ne (tgt := 151) dX12_oneRoutine_139 (by decide) ⟨by omega, by omega⟩ ⟨by decide, by decide⟩ (fun h41 => ?_) (fun h41 => ?_)
          · refine tm_iconst dX12_oneRoutine_151 ?_
            refine tm_istore (L' := [(4, .int (iI 0)), (3, .int (iI mo)), (2, .int (iI m)), (1, .int (iI p)), (0, .ref b)]) dX12_oneRoutine_152 (by decide) rfl ?_
            refine tm_sub [0, 1, 2, 3, 4] rfl (l_dup (d + 4) (σ0 := σ) (m := m) (mo := mo) (p := p) hR hpb.2.2.1 (by omega) (by omega) (fun i49 σ50 F44 R45 f46 f47 f48 => ?_) _ (0) σ Fr.rfl hR (by omega) (FLT.eq rfl) (fun _ j a c => absurd c (by omega)) DPN.zero rfl)
            show Tm _ _ 213 b σ50 [(4, .int (iI i49)), (3, .int (iI mo)), (2, .int (iI m)), (1, .int (iI p)), (0, .ref b)] [] _
            have du0 := f46
            have du1 := f47
            have du2 := f48
            refine tm_aload_n dX12_oneRoutine_213 rfl 4 rfl ?_
            refine tm_aload_n dX12_oneRoutine_214 rfl 4 rfl ?_
            refine tm_getW (t := σ.2.2 24 0) dX12_oneRoutine_215 fl12_219 (rj_F F44 (by decide) (rfl)) ?_
            refine tm_aload_n dX12_oneRoutine_218 rfl 4 rfl ?_
            refine tm_getS (k := 19) (t := σ.1 19) dX12_oneRoutine_219 (by decide) fl12_216 rfl (rs_F F44 (by decide) (rfl)) ?_
            have g51 := RG.s hR 19
            refine tm_callV (M := m_X12_oneRoutine) (pc := 222) (ix := 323) (M' := m_X12_nameOf) (As := [.long (σ.2.2 24 0), .int (iI (σ.1 19))]) (rest := []) dX12_oneRoutine_222 ok_X12_nameOf im_X12_nameOf se_X12_nameOf ml12_323 np_X12_nameOf rfl rfl (Nat.le_of_ble_eq_true rfl) (Nat.le_of_ble_eq_true rfl) rfl (c2_X12_nameOf (d + 4) (σ := σ50) (w := σ.2.2 24 0) (p := σ.1 19) R45 (hpb.2.2.1.fr (show Fr [26, 27] [] [] σ σ50 from (Fr.rfl.trans (Fr.sub F44 (by decide) (by decide) (by decide)))) (by decide)) (by rw [(show Fr [26, 27] [] [] σ σ50 from (Fr.rfl.trans (Fr.sub F44 (by decide) (by decide) (by decide)))).1 30 (by decide)]; omega) (by omega)) (fun r52 σ53 hp => ?_)
            obtain ⟨v54, rfl, f55, f56, f57, f58, f59, f60⟩ := hp
            show Tm _ _ 225 b σ53 [(4, .int (iI i49)), (3, .int (iI mo)), (2, .int (iI m)), (1, .int (iI p)), (0, .ref b)] [.int (iI v54)] _
            refine tm_istore (L' := [(4, .int (iI v54)), (3, .int (iI mo)), (2, .int (iI m)), (1, .int (iI p)), (0, .ref b)]) dX12_oneRoutine_225 (by decide) rfl ?_
            have nn4 := f60
            have srp : srt σ53 = srt (paP (σ.2.2 24 0) (σ.1 19) m σ) := by rw [paP_1 (by omega), ifP_f (by omega)]; exact congrArg srt ((f59).trans (congrArg (nmP (σ.2.2 24 0) (σ.1 19)) (du2.trans rfl)))
            have fn := (show Fr [26, 27] [35] [38] σ σ53 from ((Fr.rfl.trans (Fr.sub F44 (by decide) (by decide) (by decide))).trans (Fr.sub f55 (by decide) (by decide) (by decide))))
            have f13 := (show Fr [26, 27] [] [] σ σ50 from (Fr.rfl.trans (Fr.sub F44 (by decide) (by decide) (by decide))))
            have pbn : PBF σ σ53 := (PBF.of hpb.2.2.1 f13 (by decide) (by decide) (by decide) du0).trans f57
            have mn2 : PMN ρ σ53 (m + 1) := fun z1 z2 z3 => by
              have y1 : σ50.1 26 = 0 := Classical.byContradiction (fun y => f57.2.2.2.2.1.1 y z3)
              have y2 : σ.1 26 = 0 := Classical.byContradiction (fun y => du0.1 y y1)
              have y3 := hmn z1 z2 y2
              have y4 := nn4 ((f13.1 25 (by decide)).trans (by omega)) (by rw [f13.1 30 (by decide)]; omega) (by rw [f13.1 30 (by decide), f13.2.1 35 (by decide), f13.2.2 38 (by decide)]; exact du1 y1 (by omega)) z3
              rw [f13.1 30 (by decide), f13.2.1 35 (by decide), e30p] at y4
              omega
            refine tm_iinc (q0 := 2) (L' := [(2, .int (iI (m + 1))), (4, .int (iI v54)), (3, .int (iI mo)), (1, .int (iI p)), (0, .ref b)]) dX12_oneRoutine_227 rfl (by decide) rfl ?_
            refine tm_aload_n dX12_oneRoutine_230 rfl 4 rfl ?_
            refine tm_callV (M := m_X12_oneRoutine) (pc := 231) (ix := 265) (M' := m_X12_advance) (As := []) (rest := []) dX12_oneRoutine_231 ok_X12_advance im_X12_advance se_X12_advance ml12_265 np_X12_advance rfl rfl (Nat.le_of_ble_eq_true rfl) (Nat.le_of_ble_eq_true rfl) rfl (c_X12_advance (d + 1) (σ := σ53)  f56 (by rw [fn.1 20 (by decide), fn.1 21 (by decide)]; omega)) (fun r61 σ62 hp => ?_)
            obtain ⟨rfl, f64, f65, f66, f67, f68⟩ := hp
            show Tm _ _ 234 b σ62 [(2, .int (iI (m + 1))), (4, .int (iI v54)), (3, .int (iI mo)), (1, .int (iI p)), (0, .ref b)] [] _
            have av0 := f64
            have av1 := f65
            have av2 := f66
            have av3 := f67
            have av4 := f68
            have gx2 : GOX [30] ρ (qq 0) [33] σ62 (0, 0, 0, m + 1, ρ.1 19) := gx.nxt (fun x => wx32 (σ := sS 34 x σ) (τ := sS 34 x σ62) (q := (0, 0, 0, m, ρ.1 19)) nmw (show tks σ62 = advT (sv σ) (σ.1 20) by rw [av0.1, sv_fr fn (by decide) (by decide), fn.1 20 (by decide)]) (show (σ62.1 28, σ62.1 29, x) = (σ.1 28, σ.1 29, x) by rw [av1.1 28 (by decide), av1.1 29 (by decide), fn.1 28 (by decide), fn.1 29 (by decide)]) (show sv σ62 = sv σ by rw [av0.2.2.1, sv_fr fn (by decide) (by decide)]) (EFF.para ((show srt (sS 34 x σ62) = _ from av0.2.2.2).trans (srp.trans (srt_pa (A := σ) (σ := sS 34 x σ) rfl)))))
            have pb3 := pbn.trans (PBF.nop pbn.2.2.1 av1 (by decide) (by decide) (by decide) : PBF _ σ62)
            have pl3 : σ.1 19 < σ62.1 19 := by have z := av4; rw [fn.1 20 (by decide)] at z; omega
            have tk3 := av3.1
            have mn3 : PMN ρ σ62 (m + 1) := fun z1 z2 z3 => by rw [av1.2.1 35 (by decide)]; exact mn2 z1 z2 (by rw [av1.1 26 (by decide)] at z3; exact z3)
            refine tm_aload_n dX12_oneRoutine_234 rfl 4 rfl ?_
            refine tm_bipush dX12_oneRoutine_235 (by decide) ?_
            refine tm_callV (M := m_X12_oneRoutine) (pc := 237) (ix := 258) (M' := m_X12_isSign) (As := [.int (iI 44)]) (rest := []) dX12_oneRoutine_237 ok_X12_isSign im_X12_isSign se_X12_isSign ml12_258 np_X12_isSign rfl rfl (Nat.le_of_ble_eq_true rfl) (Nat.le_of_ble_eq_true rfl) rfl (c2_X12_isSign (d + 5) (σ := σ62) (c := 44) f66 (by omega)) (fun r69 σ70 hp => ?_)
            obtain ⟨v71, rfl, rfl, f72, f73, f74⟩ := hp
            show Tm _ _ 240 b σ62 [(2, .int (iI (m + 1))), (4, .int (iI v54)), (3, .int (iI mo)), (1, .int (iI p)), (0, .ref b)] [.int (iI v71)] _
            have i44 := f73
            have n44_ := f74
            refine tm_istore_n (L' := [(3, .int (iI v71)), (2, .int (iI (m + 1))), (4, .int (iI v54)), (1, .int (iI p)), (0, .ref b)]) dX12_oneRoutine_240 rfl (by decide) rfl ?_
            refine tm_iload_n dX12_oneRoutine_241 rfl 0 rfl ?_
            refine tm_if_eq (tgt := 113) dX12_oneRoutine_242 (by decide) ⟨by omega, by omega⟩ (fun h75 => ?_) (fun h75 => ?_)
            · exact tm_sub [0, 1, 3, 4] rfl (ih _ (by omega) (m + 1) (v71) σ62 ((((Fr.rfl.trans (Fr.sub hF (by decide) (by decide) (by decide))).trans (Fr.sub F44 (by decide) (by decide) (by decide))).trans (Fr.sub f55 (by decide) (by decide) (by decide))).trans (Fr.sub f65 (by decide) (by decide) (by decide))) f66 (by omega) av3 (hpb.trans pb3) (⟨fun q => absurd q (by omega), fun _ => Or.inr ⟨gx2, n44_ (by omega)⟩⟩) mn3 (by omega) rfl)
            · refine tm_aload_n dX12_oneRoutine_245 rfl 4 rfl ?_
              refine tm_callV (M := m_X12_oneRoutine) (pc := 246) (ix := 265) (M' := m_X12_advance) (As := []) (rest := []) dX12_oneRoutine_246 ok_X12_advance im_X12_advance se_X12_advance ml12_265 np_X12_advance rfl rfl (Nat.le_of_ble_eq_true rfl) (Nat.le_of_ble_eq_true rfl) rfl (c_X12_advance (d + 1) (σ := σ62)  f66 (by omega)) (fun r76 σ77 hp => ?_)
              obtain ⟨rfl, f79, f80, f81, f82, f83⟩ := hp
              show Tm _ _ 249 b σ77 [(3, .int (iI v71)), (2, .int (iI (m + 1))), (4, .int (iI v54)), (1, .int (iI p)), (0, .ref b)] [] _
              refine tm_goto (tgt := 113) dX12_oneRoutine_249 (by decide) ?_
              exact tm_sub [0, 1, 3, 4] rfl (ih _ (by have z := f83; have z2 := f82.1; omega) (m + 1) (v71) σ77 (((((Fr.rfl.trans (Fr.sub hF (by decide) (by decide) (by decide))).trans (Fr.sub F44 (by decide) (by decide) (by decide))).trans (Fr.sub f55 (by decide) (by decide) (by decide))).trans (Fr.sub f65 (by decide) (by decide) (by decide))).trans (Fr.sub f80 (by decide) (by decide) (by decide))) f81 (by have z := f83; have z2 := f82.1; omega) f82 (hpb.trans (pb3.trans (PBF.nop pb3.2.2.1 f80 (by decide) (by decide) (by decide)))) (⟨fun _ => gx2.nxt (fun x => wx33y (i44 (by omega)) (f79.any x)), fun q => absurd q (by omega)⟩) (fun z1 z2 z3 => by rw [f80.2.1 35 (by decide)]; exact mn3 z1 z2 (by rw [f80.1 26 (by decide)] at z3; exact z3)) (by have z := f83; have z2 := f82.1; omega) rfl)
          · refine tm_aload_n dX12_oneRoutine_142 rfl 3 rfl ?_
            refine tm_iconst dX12_oneRoutine_143 ?_
            refine tm_aload_n dX12_oneRoutine_144 rfl 3 rfl ?_
            refine tm_getS (k := 19) (t := σ.1 19) dX12_oneRoutine_145 (by decide) fl12_216 rfl (rfl) ?_
            have g84 := RG.s hR 19
            refine tm_callV (M := m_X12_oneRoutine) (pc := 148) (ix := 274) (M' := m_X12_note) (As := [.int (iI 5), .int (iI (σ.1 19))]) (rest := []) dX12_oneRoutine_148 ok_X12_note im_X12_note se_X12_note ml12_274 np_X12_note rfl rfl (Nat.le_of_ble_eq_true rfl) (Nat.le_of_ble_eq_true rfl) rfl (c2_X12_note (d + 5) (σ := σ) (f := 5) (p := σ.1 19) hR (by omega) (by omega)) (fun r85 σ86 hp => ?_)
            obtain ⟨rfl, f88, f89, f90, f91, f92⟩ := hp
            show Tm _ _ 151 b σ86 [(3, .int (iI mo)), (2, .int (iI m)), (1, .int (iI p)), (0, .ref b)] [] _
            have n4f := f90
            have n4n : σ86.1 26 ≠ 0 := f91 (by omega)
            have n4e : σ86 = ntP 5 (σ.1 19) σ := f92
            clear f91
            refine tm_iconst dX12_oneRoutine_151 ?_
            refine tm_istore (L' := [(4, .int (iI 0)), (3, .int (iI mo)), (2, .int (iI m)), (1, .int (iI p)), (0, .ref b)]) dX12_oneRoutine_152 (by decide) rfl ?_
            refine tm_sub [0, 1, 2, 3, 4] rfl (l_dup (d + 4) (σ0 := σ86) (m := m) (mo := mo) (p := p) f89 (hpb.2.2.1.fr f88 (by decide)) (by rw [f88.1 30 (by decide)]; omega) (by rw [f88.1 25 (by decide)]; omega) (fun i100 σ101 F95 R96 f97 f98 f99 => ?_) _ (0) σ86 Fr.rfl f89 (by omega) (FLT.eq rfl) (fun _ j a c => absurd c (by omega)) DPN.zero rfl)
            show Tm _ _ 213 b σ101 [(4, .int (iI i100)), (3, .int (iI mo)), (2, .int (iI m)), (1, .int (iI p)), (0, .ref b)] [] _
            have du0 := f97
            have du1 := f98
            have du2 := f99
            refine tm_aload_n dX12_oneRoutine_213 rfl 4 rfl ?_
            refine tm_aload_n dX12_oneRoutine_214 rfl 4 rfl ?_
            refine tm_getW (t := σ.2.2 24 0) dX12_oneRoutine_215 fl12_219 (rj_F F95 (by decide) (rj_F f88 (by decide) (rfl))) ?_
            refine tm_aload_n dX12_oneRoutine_218 rfl 4 rfl ?_
            refine tm_getS (k := 19) (t := σ.1 19) dX12_oneRoutine_219 (by decide) fl12_216 rfl (rs_F F95 (by decide) (rs_F f88 (by decide) (rfl))) ?_
            have g102 := RG.s hR 19
            refine tm_callV (M := m_X12_oneRoutine) (pc := 222) (ix := 323) (M' := m_X12_nameOf) (As := [.long (σ.2.2 24 0), .int (iI (σ.1 19))]) (rest := []) dX12_oneRoutine_222 ok_X12_nameOf im_X12_nameOf se_X12_nameOf ml12_323 np_X12_nameOf rfl rfl (Nat.le_of_ble_eq_true rfl) (Nat.le_of_ble_eq_true rfl) rfl (c2_X12_nameOf (d + 4) (σ := σ101) (w := σ.2.2 24 0) (p := σ.1 19) R96 (hpb.2.2.1.fr (show Fr [26, 27] [] [] σ σ101 from ((Fr.rfl.trans (Fr.sub f88 (by decide) (by decide) (by decide))).trans (Fr.sub F95 (by decide) (by decide) (by decide)))) (by decide)) (by rw [(show Fr [26, 27] [] [] σ σ101 from ((Fr.rfl.trans (Fr.sub f88 (by decide) (by decide) (by decide))).trans (Fr.sub F95 (by decide) (by decide) (by decide)))).1 30 (by decide)]; omega) (by omega)) (fun r103 σ104 hp => ?_)
            obtain ⟨v105, rfl, f106, f107, f108, f109, f110, f111⟩ := hp
            show Tm _ _ 225 b σ104 [(4, .int (iI i100)), (3, .int (iI mo)), (2, .int (iI m)), (1, .int (iI p)), (0, .ref b)] [.int (iI v105)] _
            refine tm_istore (L' := [(4, .int (iI v105)), (3, .int (iI mo)), (2, .int (iI m)), (1, .int (iI p)), (0, .ref b)]) dX12_oneRoutine_225 (by decide) rfl ?_
            have nn4 := f111
            have srp : srt σ104 = srt (paP (σ.2.2 24 0) (σ.1 19) m σ) := by rw [paP_1 (by omega), ifP_t (by omega)]; exact congrArg srt ((f110).trans (congrArg (nmP (σ.2.2 24 0) (σ.1 19)) (du2.trans (by rw [n4e, show (ntP 5 (σ.1 19) σ).1 19 = σ.1 19 from ntP_fr.1 19 (by decide)]))))
            have fn := (show Fr [26, 27] [35] [38] σ σ104 from (((Fr.rfl.trans (Fr.sub f88 (by decide) (by decide) (by decide))).trans (Fr.sub F95 (by decide) (by decide) (by decide))).trans (Fr.sub f106 (by decide) (by decide) (by decide))))
            have f13 := (show Fr [26, 27] [] [] σ σ101 from ((Fr.rfl.trans (Fr.sub f88 (by decide) (by decide) (by decide))).trans (Fr.sub F95 (by decide) (by decide) (by decide))))
            have pbn : PBF σ σ104 := (PBF.of hpb.2.2.1 f13 (by decide) (by decide) (by decide) (n4f.trans du0)).trans f108
            have mn2 : PMN ρ σ104 (m + 1) := fun z1 z2 z3 => by
              have y1 : σ101.1 26 = 0 := Classical.byContradiction (fun y => f108.2.2.2.2.1.1 y z3)
              have y2 : σ86.1 26 = 0 := Classical.byContradiction (fun y => du0.1 y y1)
              exact absurd y2 n4n
            refine tm_iinc (q0 := 2) (L' := [(2, .int (iI (m + 1))), (4, .int (iI v105)), (3, .int (iI mo)), (1, .int (iI p)), (0, .ref b)]) dX12_oneRoutine_227 rfl (by decide) rfl ?_
            refine tm_aload_n dX12_oneRoutine_230 rfl 4 rfl ?_
            refine tm_callV (M := m_X12_oneRoutine) (pc := 231) (ix := 265) (M' := m_X12_advance) (As := []) (rest := []) dX12_oneRoutine_231 ok_X12_advance im_X12_advance se_X12_advance ml12_265 np_X12_advance rfl rfl (Nat.le_of_ble_eq_true rfl) (Nat.le_of_ble_eq_true rfl) rfl (c_X12_advance (d + 1) (σ := σ104)  f107 (by rw [fn.1 20 (by decide), fn.1 21 (by decide)]; omega)) (fun r112 σ113 hp => ?_)
            obtain ⟨rfl, f115, f116, f117, f118, f119⟩ := hp
            show Tm _ _ 234 b σ113 [(2, .int (iI (m + 1))), (4, .int (iI v105)), (3, .int (iI mo)), (1, .int (iI p)), (0, .ref b)] [] _
            have av0 := f115
            have av1 := f116
            have av2 := f117
            have av3 := f118
            have av4 := f119
            have gx2 : GOX [30] ρ (qq 0) [33] σ113 (0, 0, 0, m + 1, ρ.1 19) := gx.nxt (fun x => wx32 (σ := sS 34 x σ) (τ := sS 34 x σ113) (q := (0, 0, 0, m, ρ.1 19)) nmw (show tks σ113 = advT (sv σ) (σ.1 20) by rw [av0.1, sv_fr fn (by decide) (by decide), fn.1 20 (by decide)]) (show (σ113.1 28, σ113.1 29, x) = (σ.1 28, σ.1 29, x) by rw [av1.1 28 (by decide), av1.1 29 (by decide), fn.1 28 (by decide), fn.1 29 (by decide)]) (show sv σ113 = sv σ by rw [av0.2.2.1, sv_fr fn (by decide) (by decide)]) (EFF.para ((show srt (sS 34 x σ113) = _ from av0.2.2.2).trans (srp.trans (srt_pa (A := σ) (σ := sS 34 x σ) rfl)))))
            have pb3 := pbn.trans (PBF.nop pbn.2.2.1 av1 (by decide) (by decide) (by decide) : PBF _ σ113)
            have pl3 : σ.1 19 < σ113.1 19 := by have z := av4; rw [fn.1 20 (by decide)] at z; omega
            have tk3 := av3.1
            have mn3 : PMN ρ σ113 (m + 1) := fun z1 z2 z3 => by rw [av1.2.1 35 (by decide)]; exact mn2 z1 z2 (by rw [av1.1 26 (by decide)] at z3; exact z3)
            refine tm_aload_n dX12_oneRoutine_234 rfl 4 rfl ?_
            refine tm_bipush dX12_oneRoutine_235 (by decide) ?_
            refine tm_callV (M := m_X12_oneRoutine) (pc := 237) (ix := 258) (M' := m_X12_isSign) (As := [.int (iI 44)]) (rest := []) dX12_oneRoutine_237 ok_X12_isSign im_X12_isSign se_X12_isSign ml12_258 np_X12_isSign rfl rfl (Nat.le_of_ble_eq_true rfl) (Nat.le_of_ble_eq_true rfl) rfl (c2_X12_isSign (d + 5) (σ := σ113) (c := 44) f117 (by omega)) (fun r120 σ121 hp => ?_)
            obtain ⟨v122, rfl, rfl, f123, f124, f125⟩ := hp
            show Tm _ _ 240 b σ113 [(2, .int (iI (m + 1))), (4, .int (iI v105)), (3, .int (iI mo)), (1, .int (iI p)), (0, .ref b)] [.int (iI v122)] _
            have i44 := f124
            have n44_ := f125
            refine tm_istore_n (L' := [(3, .int (iI v122)), (2, .int (iI (m + 1))), (4, .int (iI v105)), (1, .int (iI p)), (0, .ref b)]) dX12_oneRoutine_240 rfl (by decide) rfl ?_
            refine tm_iload_n dX12_oneRoutine_241 rfl 0 rfl ?_
            refine tm_if_eq (tgt := 113) dX12_oneRoutine_242 (by decide) ⟨by omega, by omega⟩ (fun h126 => ?_) (fun h126 => ?_)
            · exact tm_sub [0, 1, 3, 4] rfl (ih _ (by omega) (m + 1) (v122) σ113 (((((Fr.rfl.trans (Fr.sub hF (by decide) (by decide) (by decide))).trans (Fr.sub f88 (by decide) (by decide) (by decide))).trans (Fr.sub F95 (by decide) (by decide) (by decide))).trans (Fr.sub f106 (by decide) (by decide) (by decide))).trans (Fr.sub f116 (by decide) (by decide) (by decide))) f117 (by omega) av3 (hpb.trans pb3) (⟨fun q => absurd q (by omega), fun _ => Or.inr ⟨gx2, n44_ (by omega)⟩⟩) mn3 (by omega) rfl)
            · refine tm_aload_n dX12_oneRoutine_245 rfl 4 rfl ?_
              refine tm_callV (M := m_X12_oneRoutine) (pc := 246) (ix := 265) (M' := m_X12_advance) (As := []) (rest := []) dX12_oneRoutine_246 ok_X12_advance im_X12_advance se_X12_advance ml12_265 np_X12_advance rfl rfl (Nat.le_of_ble_eq_true rfl) (Nat.le_of_ble_eq_true rfl) rfl (c_X12_advance (d + 1) (σ := σ113)  f117 (by omega)) (fun r127 σ128 hp => ?_)
              obtain ⟨rfl, f130, f131, f132, f133, f134⟩ := hp
              show Tm _ _ 249 b σ128 [(3, .int (iI v122)), (2, .int (iI (m + 1))), (4, .int (iI v105)), (1, .int (iI p)), (0, .ref b)] [] _
              refine tm_goto (tgt := 113) dX12_oneRoutine_249 (by decide) ?_
              exact tm_sub [0, 1, 3, 4] rfl (ih _ (by have z := f134; have z2 := f133.1; omega) (m + 1) (v122) σ128 ((((((Fr.rfl.trans (Fr.sub hF (by decide) (by decide) (by decide))).trans (Fr.sub f88 (by decide) (by decide) (by decide))).trans (Fr.sub F95 (by decide) (by decide) (by decide))).trans (Fr.sub f106 (by decide) (by decide) (by decide))).trans (Fr.sub f116 (by decide) (by decide) (by decide))).trans (Fr.sub f131 (by decide) (by decide) (by decide))) f132 (by have z := f134; have z2 := f133.1; omega) f133 (hpb.trans (pb3.trans (PBF.nop pb3.2.2.1 f131 (by decide) (by decide) (by decide)))) (⟨fun _ => gx2.nxt (fun x => wx33y (i44 (by omega)) (f130.any x)), fun q => absurd q (by omega)⟩) (fun z1 z2 z3 => by rw [f131.2.1 35 (by decide)]; exact mn3 z1 z2 (by rw [f131.1 26 (by decide)] at z3; exact z3)) (by have z := f134; have z2 := f133.1; omega) rfl)
      · refine tm_aload_n dX12_oneRoutine_124 rfl 3 rfl ?_
        refine tm_callV (M := m_X12_oneRoutine) (pc := 125) (ix := 261) (M' := m_X12_wrong) (As := []) (rest := []) dX12_oneRoutine_125 ok_X12_wrong im_X12_wrong se_X12_wrong ml12_261 np_X12_wrong rfl rfl (Nat.le_of_ble_eq_true rfl) (Nat.le_of_ble_eq_true rfl) rfl (c_X12_wrong (d + 5) (σ := σ)  hR) (fun r135 σ136 hp => ?_)
        obtain ⟨v137, rfl, f138, f139, f140, f141, f142, f143⟩ := hp
        show Tm _ _ 128 b σ136 [(3, .int (iI mo)), (2, .int (iI m)), (1, .int (iI p)), (0, .ref b)] [.int (iI v137)] _
        exact tm_zret (v := v137) rfl (by omega) dX12_oneRoutine_128 (hr0 _ _ f138 ((Fr.rfl.trans (Fr.sub hF (by decide) (by decide) (by decide))).trans (Fr.sub f139 (by decide) (by decide) (by decide))) f140 (hpb.trans (PBF.of hpb.2.2.1 f139 (by decide) (by decide) (by decide) (FLT.wr f142 f143))) ((hgx.1 (by omega)).fail (fun x => g32f (σ := sS 34 x σ) (nnm_ (by omega)) ((WRG.of f143).x x))))
end
section
theorem dX12_oneRoutine_298 : decode cX12_oneRoutine 298 = .ok (.aload_n 0, 1) := by decide +kernel
theorem dX12_oneRoutine_299 : decode cX12_oneRoutine 299 = .ok (.bipush 41, 2) := by decide +kernel
theorem dX12_oneRoutine_301 : decode cX12_oneRoutine 301 = .ok (.invokevirtual 330, 3) := by decide +kernel
theorem dX12_oneRoutine_304 : decode cX12_oneRoutine 304 = .ok (.ifCond .ne 5, 3) := by decide +kernel
theorem dX12_oneRoutine_309 : decode cX12_oneRoutine 309 = .ok (.aload_n 0, 1) := by decide +kernel
theorem dX12_oneRoutine_310 : decode cX12_oneRoutine 310 = .ok (.aload_n 0, 1) := by decide +kernel
theorem dX12_oneRoutine_311 : decode cX12_oneRoutine 311 = .ok (.invokevirtual 271, 3) := by decide +kernel
theorem dX12_oneRoutine_314 : decode cX12_oneRoutine 314 = .ok (.ifCond .eq 15, 3) := by decide +kernel
theorem dX12_oneRoutine_329 : decode cX12_oneRoutine 329 = .ok (.iconst 0, 1) := by decide +kernel
theorem dX12_oneRoutine_330 : decode cX12_oneRoutine 330 = .ok (.putfield 291, 3) := by decide +kernel
theorem dX12_oneRoutine_333 : decode cX12_oneRoutine 333 = .ok (.aload_n 0, 1) := by decide +kernel
theorem dX12_oneRoutine_334 : decode cX12_oneRoutine 334 = .ok (.iconst 0, 1) := by decide +kernel
theorem dX12_oneRoutine_335 : decode cX12_oneRoutine 335 = .ok (.putfield 370, 3) := by decide +kernel
theorem dX12_oneRoutine_338 : decode cX12_oneRoutine 338 = .ok (.aload_n 0, 1) := by decide +kernel
theorem dX12_oneRoutine_339 : decode cX12_oneRoutine 339 = .ok (.iconst 0, 1) := by decide +kernel
theorem dX12_oneRoutine_340 : decode cX12_oneRoutine 340 = .ok (.putfield 278, 3) := by decide +kernel
theorem dX12_oneRoutine_343 : decode cX12_oneRoutine 343 = .ok (.aload_n 0, 1) := by decide +kernel
theorem dX12_oneRoutine_344 : decode cX12_oneRoutine 344 = .ok (.invokevirtual 373, 3) := by decide +kernel
theorem dX12_oneRoutine_347 : decode cX12_oneRoutine 347 = .ok (.ifCond .ne 5, 3) := by decide +kernel
theorem dX12_oneRoutine_352 : decode cX12_oneRoutine 352 = .ok (.aload_n 0, 1) := by decide +kernel
theorem dX12_oneRoutine_353 : decode cX12_oneRoutine 353 = .ok (.bipush 7, 2) := by decide +kernel
theorem dX12_oneRoutine_355 : decode cX12_oneRoutine 355 = .ok (.iconst 0, 1) := by decide +kernel
theorem dX12_oneRoutine_356 : decode cX12_oneRoutine 356 = .ok (.iconst 0, 1) := by decide +kernel
theorem dX12_oneRoutine_357 : decode cX12_oneRoutine 357 = .ok (.invokevirtual 294, 3) := by decide +kernel
theorem dX12_oneRoutine_360 : decode cX12_oneRoutine 360 = .ok (.istore 4, 2) := by decide +kernel
theorem dX12_oneRoutine_362 : decode cX12_oneRoutine 362 = .ok (.aload_n 0, 1) := by decide +kernel
theorem dX12_oneRoutine_363 : decode cX12_oneRoutine 363 = .ok (.iload 4, 2) := by decide +kernel
theorem dX12_oneRoutine_365 : decode cX12_oneRoutine 365 = .ok (.iconst 0, 1) := by decide +kernel
theorem dX12_oneRoutine_366 : decode cX12_oneRoutine 366 = .ok (.iconst 1, 1) := by decide +kernel
theorem dX12_oneRoutine_367 : decode cX12_oneRoutine 367 = .ok (.iconst 0, 1) := by decide +kernel
theorem dX12_oneRoutine_368 : decode cX12_oneRoutine 368 = .ok (.invokevirtual 298, 3) := by decide +kernel
theorem dX12_oneRoutine_371 : decode cX12_oneRoutine 371 = .ok (.aload_n 0, 1) := by decide +kernel
theorem dX12_oneRoutine_372 : decode cX12_oneRoutine 372 = .ok (.getfield 255, 3) := by decide +kernel
theorem dX12_oneRoutine_375 : decode cX12_oneRoutine 375 = .ok (.iconst 2, 1) := by decide +kernel
theorem dX12_oneRoutine_376 : decode cX12_oneRoutine 376 = .ok (.if_icmp .ne 18, 3) := by decide +kernel
theorem dX12_oneRoutine_394 : decode cX12_oneRoutine 394 = .ok (.aload_n 0, 1) := by decide +kernel
theorem dX12_oneRoutine_395 : decode cX12_oneRoutine 395 = .ok (.getfield 255, 3) := by decide +kernel
theorem dX12_oneRoutine_398 : decode cX12_oneRoutine 398 = .ok (.iconst 3, 1) := by decide +kernel
theorem dX12_oneRoutine_399 : decode cX12_oneRoutine 399 = .ok (.if_icmp .ne 16, 3) := by decide +kernel
theorem dX12_oneRoutine_415 : decode cX12_oneRoutine 415 = .ok (.aload_n 0, 1) := by decide +kernel
theorem dX12_oneRoutine_416 : decode cX12_oneRoutine 416 = .ok (.dup, 1) := by decide +kernel
theorem dX12_oneRoutine_417 : decode cX12_oneRoutine 417 = .ok (.getfield 268, 3) := by decide +kernel
theorem dX12_oneRoutine_420 : decode cX12_oneRoutine 420 = .ok (.iconst 1, 1) := by decide +kernel
theorem dX12_oneRoutine_421 : decode cX12_oneRoutine 421 = .ok (.iadd, 1) := by decide +kernel
theorem dX12_oneRoutine_422 : decode cX12_oneRoutine 422 = .ok (.putfield 268, 3) := by decide +kernel
theorem dX12_oneRoutine_425 : decode cX12_oneRoutine 425 = .ok (.iconst 1, 1) := by decide +kernel
theorem dX12_oneRoutine_426 : decode cX12_oneRoutine 426 = .ok (.ireturn, 1) := by decide +kernel
theorem dX12_oneRoutine_402 : decode cX12_oneRoutine 402 = .ok (.aload_n 0, 1) := by decide +kernel
theorem dX12_oneRoutine_403 : decode cX12_oneRoutine 403 = .ok (.getfield 32, 3) := by decide +kernel
theorem dX12_oneRoutine_406 : decode cX12_oneRoutine 406 = .ok (.aload_n 0, 1) := by decide +kernel
theorem dX12_oneRoutine_407 : decode cX12_oneRoutine 407 = .ok (.getfield 268, 3) := by decide +kernel
theorem dX12_oneRoutine_410 : decode cX12_oneRoutine 410 = .ok (.aload_n 0, 1) := by decide +kernel
theorem dX12_oneRoutine_411 : decode cX12_oneRoutine 411 = .ok (.getfield 278, 3) := by decide +kernel
theorem dX12_oneRoutine_414 : decode cX12_oneRoutine 414 = .ok (.iastore, 1) := by decide +kernel
theorem dX12_oneRoutine_379 : decode cX12_oneRoutine 379 = .ok (.aload_n 0, 1) := by decide +kernel
theorem dX12_oneRoutine_380 : decode cX12_oneRoutine 380 = .ok (.getfield 278, 3) := by decide +kernel
theorem dX12_oneRoutine_383 : decode cX12_oneRoutine 383 = .ok (.bipush 120, 2) := by decide +kernel
theorem dX12_oneRoutine_385 : decode cX12_oneRoutine 385 = .ok (.if_icmp .le 9, 3) := by decide +kernel
theorem dX12_oneRoutine_388 : decode cX12_oneRoutine 388 = .ok (.aload_n 0, 1) := by decide +kernel
theorem dX12_oneRoutine_389 : decode cX12_oneRoutine 389 = .ok (.iconst 5, 1) := by decide +kernel
theorem dX12_oneRoutine_390 : decode cX12_oneRoutine 390 = .ok (.iload_n 1, 1) := by decide +kernel
theorem dX12_oneRoutine_391 : decode cX12_oneRoutine 391 = .ok (.invokevirtual 274, 3) := by decide +kernel
theorem dX12_oneRoutine_350 : decode cX12_oneRoutine 350 = .ok (.iconst 0, 1) := by decide +kernel
theorem dX12_oneRoutine_351 : decode cX12_oneRoutine 351 = .ok (.ireturn, 1) := by decide +kernel
theorem dX12_oneRoutine_317 : decode cX12_oneRoutine 317 = .ok (.aload_n 0, 1) := by decide +kernel
theorem dX12_oneRoutine_318 : decode cX12_oneRoutine 318 = .ok (.getfield 63, 3) := by decide +kernel
theorem dX12_oneRoutine_321 : decode cX12_oneRoutine 321 = .ok (.aload_n 0, 1) := by decide +kernel
theorem dX12_oneRoutine_322 : decode cX12_oneRoutine 322 = .ok (.getfield 268, 3) := by decide +kernel
theorem dX12_oneRoutine_325 : decode cX12_oneRoutine 325 = .ok (.iaload, 1) := by decide +kernel
theorem dX12_oneRoutine_326 : decode cX12_oneRoutine 326 = .ok (.goto 4, 3) := by decide +kernel
theorem dX12_oneRoutine_307 : decode cX12_oneRoutine 307 = .ok (.iconst 0, 1) := by decide +kernel
theorem dX12_oneRoutine_308 : decode cX12_oneRoutine 308 = .ok (.ireturn, 1) := by decide +kernel
set_option maxHeartbeats 4000000 in
set_option maxRecDepth 20000 in
theorem b_one298 (d : Nat) {b : Nat} {σ : MS} {p : Int} {m : Int} {ρ : MS} {post : Option Value → MS → Prop} (hR : RG σ) (hoh : ORH ρ) (hd : HD ρ σ) (htk : TOK σ) (hgx : GOX [30] ρ (qq 0) [141, 35] σ (0, 0, 0, m, ρ.1 19)) (hpa : PAM ρ σ) (hpl : ρ.1 19 + 2 ≤ σ.1 19) (hp : p = ρ.1 19) (h_p : -2147483648 ≤ p ∧ p ≤ 2147483647) (hret : ∀ (v : Int) (τ : MS), Fr [19, 20, 22, 23, 26, 27, 28, 29, 30, 31, 32, 33, 34, 39, 40, 43] [3, 4, 5, 6, 7, 8, 9, 35, 36, 37, 41, 42, 45] [24, 38, 44] ρ τ → RG τ → (v = 0 ∨ v = 1) → PBO ρ τ → (v = 1 → ORQ ρ τ) → (v = 0 → ∀ x, GOF [30] (sS 34 x ρ) (qq 0) τ) → post (some (.int (iI v))) τ) : ∀ (n : Nat) , ((0 : Int)).toNat = n → Tm (d + 63) m_X12_oneRoutine 298 b σ [(2, .int (iI m)), (1, .int (iI p)), (0, .ref b)] [] post := by
  intro n
  induction n using Nat.strongRecOn with
  | _ n ih =>
    intro   hm
    have ohr := hoh
    have tkh := htk.1
    have e25h : σ.1 25 = ρ.1 25 := hd.1.1 25 (by decide)
    have e30h : σ.1 30 = ρ.1 30 := hd.1.1 30 (by decide)
    have oh25 := hoh.2.1
    have oh30 := hoh.2.2.1
    have oh31 := hoh.2.2.2.1
    have e31h : σ.1 31 = ρ.1 31 := hd.1.1 31 (by decide)
    have oht := hoh.1.1
    refine tm_aload_n dX12_oneRoutine_298 rfl 2 rfl ?_
    refine tm_bipush dX12_oneRoutine_299 (by decide) ?_
    refine tm_callV (M := m_X12_oneRoutine) (pc := 301) (ix := 330) (M' := m_X12_need) (As := [.int (iI 41)]) (rest := []) dX12_oneRoutine_301 ok_X12_need im_X12_need se_X12_need ml12_330 np_X12_need rfl rfl (Nat.le_of_ble_eq_true rfl) (Nat.le_of_ble_eq_true rfl) rfl (c_X12_need (d + 56) (σ := σ) (c := 41) hR (by omega) (by omega)) (fun r1 σ2 hp => ?_)
    obtain ⟨v3, rfl, f4, f5, f6, f7, f8, f9, f10⟩ := hp
    show Tm _ _ 304 b σ2 [(2, .int (iI m)), (1, .int (iI p)), (0, .ref b)] [.int (iI v3)] _
    have yn0 := f4
    have yn1 := f5
    have yn2 := f6
    have yn3 := f7
    have yn4 := f8
    have yn5 := f9
    have yn6 := f10
    refine tm_if_ne (tgt := 309) dX12_oneRoutine_304 (by decide) ⟨by omega, by omega⟩ (fun h11 => ?_) (fun h11 => ?_)
    · have ynq := yn3 (by omega)
      have gx3 : GOX [30] ρ (qq 0) [35] σ2 (0, 0, 0, m, ρ.1 19) := hgx.nxt (fun x => wxn_41 ynq.1 (ynq.2.1.any x))
      have nn9 : NN σ2 := hd.2.2.1.fr yn1 (by decide)
      have e259 : σ2.1 25 = σ.1 25 := yn1.1 25 (by decide)
      have e309 : σ2.1 30 = σ.1 30 := yn1.1 30 (by decide)
      have e319 : σ2.1 31 = σ.1 31 := yn1.1 31 (by decide)
      have tk9 := ynq.2.2.1.1
      have pl9 := ynq.2.2.2.1
      have sz9 := htk.2.1 (by have z := ynq.1.1; omega)
      have R309 := f6
      have pbo9 : PBO ρ σ2 := hd.pbo.nd yn1 yn5
      refine tm_aload_n dX12_oneRoutine_309 rfl 2 rfl ?_
      refine tm_aload_n dX12_oneRoutine_310 rfl 2 rfl ?_
      refine tm_callV (M := m_X12_oneRoutine) (pc := 311) (ix := 271) (M' := m_X12_isKept) (As := []) (rest := [.ref b]) dX12_oneRoutine_311 ok_X12_isKept im_X12_isKept se_X12_isKept ml12_271 np_X12_isKept rfl rfl (Nat.le_of_ble_eq_true rfl) (Nat.le_of_ble_eq_true rfl) rfl (c_X12_isKept (d + 61) (σ := σ2)  R309) (fun r12 σ13 hp => ?_)
      obtain ⟨v14, rfl, rfl, f15, f16⟩ := hp
      show Tm _ _ 314 b σ2 [(2, .int (iI m)), (1, .int (iI p)), (0, .ref b)] [.int (iI v14), .ref b] _
      refine tm_if_eq (tgt := 329) dX12_oneRoutine_314 (by decide) ⟨by omega, by omega⟩ (fun h17 => ?_) (fun h17 => ?_)
      · refine tm_iconst dX12_oneRoutine_329 ?_
        refine tm_putS (k := 32) (v := 0) lay_12 dX12_oneRoutine_330 (by decide) fl12_291 rfl (tyX12_ok 32 (by decide)) rfl rfl rfl ?_
        refine tm_aload_n dX12_oneRoutine_333 rfl 2 rfl ?_
        refine tm_iconst dX12_oneRoutine_334 ?_
        refine tm_putS (k := 33) (v := 0) lay_12 dX12_oneRoutine_335 (by decide) fl12_370 rfl (tyX12_ok 33 (by decide)) rfl rfl rfl ?_
        refine tm_aload_n dX12_oneRoutine_338 rfl 2 rfl ?_
        refine tm_iconst dX12_oneRoutine_339 ?_
        refine tm_putS (k := 34) (v := 0) lay_12 dX12_oneRoutine_340 (by decide) fl12_278 rfl (tyX12_ok 34 (by decide)) rfl rfl rfl ?_
        have g35_ : ∀ x, GOS [30] (sS 34 x ρ) (qq 0) [28, 51, 34] (sS 34 0 (sS 33 0 (sS 32 0 σ2))) (qq (ρ.1 19)) [] := fun x => (gx3 x).1.then (g35 ⟨rfl, rfl, rfl, rfl⟩)
        have rdn : RDY (sS 34 0 (sS 33 0 (sS 32 0 σ2))) := RDY.new ynq.2.2.1 (by omega) (by omega) (by omega) (by omega)
        have pboA : PBO ρ (sS 34 0 (sS 33 0 (sS 32 0 σ2))) := pbo9.fr (show Fr [32, 33, 34] [] [] σ2 (sS 34 0 (sS 33 0 (sS 32 0 σ2))) from (((Fr.rfl.S (by decide)).S (by decide)).S (by decide))) (by decide) (by decide) (by decide)
        have e30A : (sS 34 0 (sS 33 0 (sS 32 0 σ2))).1 30 = ρ.1 30 := e309.trans e30h
        have svA : sv (sS 34 0 (sS 33 0 (sS 32 0 σ2))) = sv ρ := (sv_fr yn1 (by decide) (by decide) : sv σ2 = sv σ).trans (sv_fr hd.1 (by decide) (by decide))
        have hdm1 : HDM ρ [28, 51, 34] (sS 34 0 (sS 33 0 (sS 32 0 σ2))) (qq (ρ.1 19)) [(11, 0, 0, [])] [] := HDM.begin (σ := σ2) gx3 svA rfl (fun z => ⟨⟨pboA.2.2.2.2.1, e30A, by show (0 : Int) ≤ 0; decide⟩, (pboA.2.1 (by omega)).1, (pboA.2.1 (by omega)).2.1, (pboA.2.1 (by omega)).2.2.2.1, (pboA.2.1 (by omega)).2.2.2.2.2.2, fun j _ => congrFun ((yn1.2.1 37 (by decide)).trans (hd.1.2.1 37 (by decide))) j⟩) (e319.trans e31h) ((yn1.2.1 37 (by decide)).trans (hd.1.2.1 37 (by decide))) rfl rfl (fun r6 => by first | (exfalso; omega) | (rw [← e30h]; exact (congrFun (yn1.2.1 35 (by decide)) (σ.1 30)).symm)) ((yn1.1 39 (by decide)).trans (hd.1.1 39 (by decide))) ((yn1.1 40 (by decide)).trans (hd.1.1 40 (by decide)))
        have e28s : (sS 34 0 (sS 33 0 (sS 32 0 σ2))).1 28 = 0 := (yn1.1 28 (by decide)).trans ((hd.1.1 28 (by decide)).trans hoh.2.2.2.2.1.1)
        have e29s : (sS 34 0 (sS 33 0 (sS 32 0 σ2))).1 29 = 0 := (yn1.1 29 (by decide)).trans ((hd.1.1 29 (by decide)).trans hoh.2.2.2.2.1.2)
        refine tm_aload_n dX12_oneRoutine_343 rfl 2 rfl ?_
        refine tm_callV (M := m_X12_oneRoutine) (pc := 344) (ix := 373) (M' := m_X12_block) (As := []) (rest := []) dX12_oneRoutine_344 ok_X12_block im_X12_block se_X12_block ml12_373 np_X12_block rfl rfl (Nat.le_of_ble_eq_true rfl) (Nat.le_of_ble_eq_true rfl) rfl (c_blk6 (d) (σ := (sS 34 0 (sS 33 0 (sS 32 0 σ2))))  (((f6.S (by omega)).S (by omega)).S (by omega)) rdn nn9 e28s e29s pboA.2.2.2.2.2.2) (fun r18 σ19 hp => ?_)
        obtain ⟨v20, rfl, f21, f22, f23, f24, f25, f26⟩ := hp
        show Tm _ _ 347 b σ19 [(2, .int (iI m)), (1, .int (iI p)), (0, .ref b)] [.int (iI v20)] _
        have bp0 := f21
        have bp1 := f22
        have bp2 := f23
        have bp3 := f24
        have bp4 := f25
        have bp5 := f26
        refine tm_if_ne (tgt := 352) dX12_oneRoutine_347 (by decide) ⟨by omega, by omega⟩ (fun h32 => ?_) (fun h32 => ?_)
        · obtain ⟨lgb, bt, bs, bf, b28, b29⟩ := bp4 (by omega)
          have rdb := bt.2.2.1.2
          have tkb := bt.2.2.1.1.1
          have pboB : PBO ρ σ19 := pboA.pb e30A bp3 (by show (0 : Int) ≤ 0; decide) bp1 (by decide) (by decide) (by decide)
          have e30B : σ19.1 30 = ρ.1 30 := bp3.2.2.2.2.2.2.2.trans e30A
          refine tm_aload_n dX12_oneRoutine_352 rfl 2 rfl ?_
          refine tm_bipush dX12_oneRoutine_353 (by decide) ?_
          refine tm_iconst dX12_oneRoutine_355 ?_
          refine tm_iconst dX12_oneRoutine_356 ?_
          refine tm_callV (M := m_X12_oneRoutine) (pc := 357) (ix := 294) (M' := m_X12_put) (As := [.int (iI 7), .int (iI 0), .int (iI 0)]) (rest := []) dX12_oneRoutine_357 ok_X12_put im_X12_put se_X12_put ml12_294 np_X12_put rfl rfl (Nat.le_of_ble_eq_true rfl) (Nat.le_of_ble_eq_true rfl) rfl (c_X12_put (d + 60) (σ := σ19) (k := 7) (e := 0) (o := 0) f23 (by rw [show σ19.1 30 = σ.1 30 from rs_F f22 (by decide) (rs_o (by decide) (rs_o (by decide) (rs_o (by decide) (rs_F f5 (by decide) (rfl))))), show σ19.1 34 = σ19.1 34 from rfl]; omega) (by omega) (by omega) (by omega)) (fun r33 σ34 hp => ?_)
          obtain ⟨v35, rfl, f36, f37, f38, f39, f40, f41, f42, f43⟩ := hp
          show Tm _ _ 360 b σ34 [(2, .int (iI m)), (1, .int (iI p)), (0, .ref b)] [.int (iI v35)] _
          have jvP := f38
          have jnP := f39
          have jiP := f40
          have joP := f41
          have jrP := f42
          have jzP := f43
          refine tm_istore (L' := [(4, .int (iI v35)), (2, .int (iI m)), (1, .int (iI p)), (0, .ref b)]) dX12_oneRoutine_360 (by decide) rfl ?_
          refine tm_aload_n dX12_oneRoutine_362 rfl 3 rfl ?_
          refine tm_iload dX12_oneRoutine_363 0 rfl ?_
          refine tm_iconst dX12_oneRoutine_365 ?_
          refine tm_iconst dX12_oneRoutine_366 ?_
          refine tm_iconst dX12_oneRoutine_367 ?_
          refine tm_callV (M := m_X12_oneRoutine) (pc := 368) (ix := 298) (M' := m_X12_setArg) (As := [.int (iI v35), .int (iI 0), .int (iI 1), .int (iI 0)]) (rest := []) dX12_oneRoutine_368 ok_X12_setArg im_X12_setArg se_X12_setArg ml12_298 np_X12_setArg rfl rfl (Nat.le_of_ble_eq_true rfl) (Nat.le_of_ble_eq_true rfl) rfl (c_X12_setArg (d + 61) (σ := σ34) (x := v35) (i := 0) (k := 1) (w := 0) (by omega)) (fun r44 σ45 hp => ?_)
          obtain ⟨rfl, f47⟩ := hp
          subst f47
          show Tm _ _ 371 b (fArg (v35) (0) (1) (0) σ34) [(4, .int (iI v35)), (2, .int (iI m)), (1, .int (iI p)), (0, .ref b)] [] _
          have jvP : _ = PXx σ19 := jvP
          have fAP := (show Fr [33, 34] [3, 4, 5, 6, 7, 8] [] σ19 (fArg (v35) (0) (1) (0) σ34) from ((Fr.rfl.trans (Fr.sub f36 (by decide) (by decide) (by decide))).trans (Fr.sub fArg_fr (by decide) (by decide) (by decide))))
          have eAP : (fArg (v35) (0) (1) (0) σ34).1 34 = σ19.1 34 + 1 := jnP
          have pbP : PBF σ19 (fArg (v35) (0) (1) (0) σ34) := PBF.it bt.nn fAP (by decide) (by decide) (by decide) eAP jvP (joP.trans (OFF.arg (by decide) (by decide)))
          have tbP : TBm σ19 (fArg (v35) (0) (1) (0) σ34) := TBm.of fAP (by decide) (by decide) (by decide) (by decide)
          have ptP : PIT σ19 (fArg (v35) (0) (1) (0) σ34) (mkI 7 0 0 1 0 0) := by exact PIT.at jvP eAP (joP.trans (OFF.arg (by decide) (by decide))) (ri_one jzP)
          have fP := (show Fr [34] [3, 4, 5, 6, 7, 8] [] σ19 (fArg (v35) (0) (1) (0) σ34) from ((Fr.rfl.trans (Fr.sub f36 (by decide) (by decide) (by decide))).trans (Fr.sub fArg_fr (by decide) (by decide) (by decide))))
          have okP : OKI (fArg (v35) (0) (1) (0) σ34) 1 (PXx σ19) := by rw [← jvP]; exact oki_arg1 jiP (Or.inr (Or.inr (Or.inl rfl))) (fun q => absurd q (by decide)) (fun q => absurd q (by decide)) (by omega)
          have k7P : (fArg (v35) (0) (1) (0) σ34).2.1 3 (PXx σ19) = 7 := by rw [← jvP]; exact jiP.1
          have gall : ∀ x, GOS [30] (sS 34 x ρ) (qq 0) [34] (fArg (v35) (0) (1) (0) σ34) (qq (ρ.1 19)) lgb := fun x => ((g35_ x).then ((bt.2.2.2.2.2 (ρ.1 19)).1.more [51, 34])).and ((g51 (CHG.put fP (by decide) (by decide) (by decide) eAP) : GOS [51] σ19 (qq (ρ.1 19)) [] (fArg (v35) (0) (1) (0) σ34) (qq (ρ.1 19)) []).more [34])
          have nrl : nR (lgb ++ [(0, (fArg (v35) (0) (1) (0) σ34).1 34, 0)]) = 1 := by rw [nR_app, (bt.2.2.2.2.2 0).1.nr0 (by decide)]; rfl
          have pboC : PBO ρ (fArg (v35) (0) (1) (0) σ34) := pboB.pb e30B pbP rdb.2.2.1.1 fP (by decide) (by decide) (by decide)
          have e30C : (fArg (v35) (0) (1) (0) σ34).1 30 = ρ.1 30 := (fP.1 30 (by decide)).trans e30B
          have e25C : (fArg (v35) (0) (1) (0) σ34).1 25 = ρ.1 25 := pboC.2.2.2.2.1
          have R371 : RG (fArg (v35) (0) (1) (0) σ34) := ((f37).arg (by omega) (by omega))
          have svB : sv σ19 = sv ρ := (bt.2.2.2.2.2 0).1.1.trans svA
          have svC : sv (fArg (v35) (0) (1) (0) σ34) = sv ρ := (sv_fr fP (by decide) (by decide)).trans svB
          have hdm2 := hdm1.then svA ((bt.2.2.2.2.2 (ρ.1 19)).more [51, 34] [(11, 0, 0, [])])
          have hdm3 : HDM ρ [34] (fArg (v35) (0) (1) (0) σ34) (qq (ρ.1 19)) [] lgb := hdm2.and svB ((u51R (CHG.put fP (by decide) (by decide) (by decide) eAP) ptP fAP nfr33 (fP.1 33 (by decide)) : GOM [51] σ19 (qq (ρ.1 19)) [(11, 0, 0, [])] [] (fArg (v35) (0) (1) (0) σ34) (qq (ρ.1 19)) [] []).more [34] [])
          refine tm_aload_n dX12_oneRoutine_371 rfl 3 rfl ?_
          refine tm_getS (k := 25) (t := σ.1 25) dX12_oneRoutine_372 (by decide) fl12_255 rfl (rs_F fArg_fr (by decide) (rs_F f36 (by decide) (rs_F f22 (by decide) (rs_o (by decide) (rs_o (by decide) (rs_o (by decide) (rs_F f5 (by decide) (rfl)))))))) ?_
          have g48 := RG.s hR 25
          refine tm_iconst dX12_oneRoutine_375 ?_
          refine tm_icmp_ne (tgt := 394) dX12_oneRoutine_376 (by decide) ⟨by omega, by omega⟩ ⟨by decide, by decide⟩ (fun h49 => ?_) (fun h49 => ?_)
          · refine tm_aload_n dX12_oneRoutine_394 rfl 3 rfl ?_
            refine tm_getS (k := 25) (t := σ.1 25) dX12_oneRoutine_395 (by decide) fl12_255 rfl (rs_F fArg_fr (by decide) (rs_F f36 (by decide) (rs_F f22 (by decide) (rs_o (by decide) (rs_o (by decide) (rs_o (by decide) (rs_F f5 (by decide) (rfl)))))))) ?_
            have g50 := RG.s hR 25
            refine tm_iconst dX12_oneRoutine_398 ?_
            refine tm_icmp_ne (tgt := 415) dX12_oneRoutine_399 (by decide) ⟨by omega, by omega⟩ ⟨by decide, by decide⟩ (fun h51 => ?_) (fun h51 => ?_)
            · refine tm_aload_n dX12_oneRoutine_415 rfl 3 rfl ?_
              refine tm_dup dX12_oneRoutine_416 rfl ?_
              refine tm_getS (k := 30) (t := σ.1 30) dX12_oneRoutine_417 (by decide) fl12_268 rfl (rs_F fArg_fr (by decide) (rs_F f36 (by decide) (rs_F f22 (by decide) (rs_o (by decide) (rs_o (by decide) (rs_o (by decide) (rs_F f5 (by decide) (rfl)))))))) ?_
              have g52 := RG.s hR 30
              refine tm_iconst dX12_oneRoutine_420 ?_
              refine tm_iadd dX12_oneRoutine_421 ?_
              refine tm_putS (k := 30) (v := (σ.1 30) + 1) lay_12 dX12_oneRoutine_422 (by decide) fl12_268 rfl (tyX12_ok 30 (by decide)) rfl rfl rfl ?_
              refine tm_iconst dX12_oneRoutine_425 ?_
              have ffz := (show Fr [26, 27, 30] [9] [] (fArg (v35) (0) (1) (0) σ34) (sS 30 ((σ.1 30) + 1) (fArg (v35) (0) (1) (0) σ34)) from (Fr.rfl.S (by decide)))
              have flz : FLT (fArg (v35) (0) (1) (0) σ34) (sS 30 ((σ.1 30) + 1) (fArg (v35) (0) (1) (0) σ34)) := (FLT.eq rfl)
              have pboZ : PBO ρ (sS 30 ((σ.1 30) + 1) (fArg (v35) (0) (1) (0) σ34)) := pboC.fin ffz flz (fun j _ => rfl)
              have srz : srt (sS 30 ((σ.1 30) + 1) (fArg (v35) (0) (1) (0) σ34)) = srt (reP (ρ.1 19) ((fArg (v35) (0) (1) (0) σ34).1 34) (fArg (v35) (0) (1) (0) σ34)) := by have z9 : (fArg (v35) (0) (1) (0) σ34).1 30 = σ.1 30 := by { omega }; unfold reP; rw [if_neg (by omega), z9]
              have vwz := vw_fr ffz (by decide) (by decide) (by decide)
              have samz : SAM (fArg (v35) (0) (1) (0) σ34) (sS 30 ((σ.1 30) + 1) (fArg (v35) (0) (1) (0) σ34)) := by unfold vw at vwz; exact ⟨congrArg Prod.fst vwz, congrArg (fun z => z.2.1) vwz, congrArg (fun z => z.2.2) vwz⟩
              have gz : ∀ x, GOS [30] (sS 34 x ρ) (qq 0) [] (sS 30 ((σ.1 30) + 1) (fArg (v35) (0) (1) (0) σ34)) (qq 0) (lgb ++ [(0, (fArg (v35) (0) (1) (0) σ34).1 34, 0)]) := fun x => (gall x).trans (g34 (q := qq (ρ.1 19)) samz (EFF.rend srz))
              have tkz : TOK (sS 30 ((σ.1 30) + 1) (fArg (v35) (0) (1) (0) σ34)) := by unfold TOK; rw [ffz.1 19 (by decide), ffz.1 20 (by decide), ffz.1 21 (by decide), ffz.1 22 (by decide), ffz.1 23 (by decide), fP.1 19 (by decide), fP.1 20 (by decide), fP.1 21 (by decide), fP.1 22 (by decide), fP.1 23 (by decide)]; exact bt.2.2.1.1
              have e30z : (sS 30 ((σ.1 30) + 1) (fArg (v35) (0) (1) (0) σ34)).1 30 = ρ.1 30 + 1 := by rw [show (sS 30 ((σ.1 30) + 1) (fArg (v35) (0) (1) (0) σ34)).1 30 = (σ.1 30) + 1 from rs_eq]; omega
              have e19z : (sS 30 ((σ.1 30) + 1) (fArg (v35) (0) (1) (0) σ34)).1 19 = σ19.1 19 := (ffz.1 19 (by decide)).trans (fP.1 19 (by decide))
              have e31z : (sS 30 ((σ.1 30) + 1) (fArg (v35) (0) (1) (0) σ34)).1 31 = σ19.1 31 := (ffz.1 31 (by decide)).trans (fP.1 31 (by decide))
              have e28z : (sS 30 ((σ.1 30) + 1) (fArg (v35) (0) (1) (0) σ34)).1 28 = 0 := by rw [ffz.1 28 (by decide), fP.1 28 (by decide), b28]; exact e28s
              have e29z : (sS 30 ((σ.1 30) + 1) (fArg (v35) (0) (1) (0) σ34)).1 29 = 0 := by rw [ffz.1 29 (by decide), fP.1 29 (by decide), b29]; exact e29s
              have pcz := bt.2.1
              unfold PBC at pcz
              have pl5 : ρ.1 19 + 5 ≤ (sS 30 ((σ.1 30) + 1) (fArg (v35) (0) (1) (0) σ34)).1 19 := by have z6 := bp3.2.2.2.2.2.1; have z7 : (sS 34 0 (sS 33 0 (sS 32 0 σ2))).1 19 = σ2.1 19 := rfl; have z8 : (sS 34 0 (sS 33 0 (sS 32 0 σ2))).1 34 = 0 := rfl; omega
              exact tm_zret (v := 1) rfl (by decide) dX12_oneRoutine_426 (hret _ _ ((Fr.sub hd.1 (by decide) (by decide) (by decide) : Fr [19, 20, 22, 23, 26, 27, 28, 29, 30, 31, 32, 33, 34, 39, 40, 43] [3, 4, 5, 6, 7, 8, 9, 35, 36, 37, 41, 42, 45] [24, 38, 44] ρ σ).trans ((((((((Fr.rfl.trans (Fr.sub f5 (by decide) (by decide) (by decide))).S (by decide)).S (by decide)).S (by decide)).trans (Fr.sub f22 (by decide) (by decide) (by decide))).trans (Fr.sub f36 (by decide) (by decide) (by decide))).trans (Fr.sub fArg_fr (by decide) (by decide) (by decide))).S (by decide))) (((f37).arg (by omega) (by omega)).S (by omega)) (by omega) pboZ (fun _ => ⟨tkz, ⟨e30z, pl5, by omega, e28z, e29z⟩, _, gz, nrl, (fun z => absurd z (by omega)), (fun z => absurd z (by omega)), (fun z => P1O.mk hd hpa z (show Fr [19, 20, 22, 23, 26, 27, 28, 29, 30, 31, 32, 33, 34, 39, 40] [3, 4, 5, 6, 7, 8, 9, 35, 37, 41, 42] [24, 38] σ (sS 30 ((σ.1 30) + 1) (fArg (v35) (0) (1) (0) σ34)) from ((((((((Fr.rfl.trans (Fr.sub f5 (by decide) (by decide) (by decide))).S (by decide)).S (by decide)).S (by decide)).trans (Fr.sub f22 (by decide) (by decide) (by decide))).trans (Fr.sub f36 (by decide) (by decide) (by decide))).trans (Fr.sub fArg_fr (by decide) (by decide) (by decide))).S (by decide))) (by decide) (by decide) ((show FLT σ (sS 34 0 (sS 33 0 (sS 32 0 σ2))) from yn5).trans ((bp3.2.2.2.2.1).trans ((pbP.2.2.2.2.1).trans flz))) (fun r => ⟨by have y1 := (bp3.2.2.2.1 r).1; have y2 := (pbP.2.2.2.1 r).1; have y3 : (sS 34 0 (sS 33 0 (sS 32 0 σ2))).2.1 35 r = σ.2.1 35 r := congrFun (yn1.2.1 35 (by decide)) r; have y4 : (sS 30 ((σ.1 30) + 1) (fArg (v35) (0) (1) (0) σ34)).2.1 35 r = (fArg (v35) (0) (1) (0) σ34).2.1 35 r := congrFun (ffz.2.1 35 (by decide)) r; omega, fun y => by have y1 := (bp3.2.2.2.1 r).2 (by rw [e30A]; exact y); have y2 := (pbP.2.2.2.1 r).2 (by rw [e30B]; exact y); have y3 : (sS 34 0 (sS 33 0 (sS 32 0 σ2))).2.1 35 r = σ.2.1 35 r := congrFun (yn1.2.1 35 (by decide)) r; have y4 : (sS 30 ((σ.1 30) + 1) (fArg (v35) (0) (1) (0) σ34)).2.1 35 r = (fArg (v35) (0) (1) (0) σ34).2.1 35 r := congrFun (ffz.2.1 35 (by decide)) r; omega⟩)), (fun z => absurd z (by omega))⟩) (fun q => absurd q (by decide)))
            · have vw3 := vw_fr (show Fr [30] [] [] (fArg (v35) (0) (1) (0) σ34) (sS 30 ((fArg (v35) (0) (1) (0) σ34).1 30 + 1) (fArg (v35) (0) (1) (0) σ34)) from Fr.rfl.S (by decide)) (by decide) (by decide) (by decide)
              have sam3 : SAM (fArg (v35) (0) (1) (0) σ34) (sS 30 ((fArg (v35) (0) (1) (0) σ34).1 30 + 1) (fArg (v35) (0) (1) (0) σ34)) := by unfold vw at vw3; exact ⟨congrArg Prod.fst vw3, congrArg (fun z => z.2.1) vw3, congrArg (fun z => z.2.2) vw3⟩
              have srz3 : srt (sS 30 ((fArg (v35) (0) (1) (0) σ34).1 30 + 1) (fArg (v35) (0) (1) (0) σ34)) = srt (reP (ρ.1 19) ((fArg (v35) (0) (1) (0) σ34).1 34) (fArg (v35) (0) (1) (0) σ34)) := by unfold reP; rw [if_neg (by omega)]
              have gz3 : ∀ x, GOS [30] (sS 34 x ρ) (qq 0) [] (sS 30 ((fArg (v35) (0) (1) (0) σ34).1 30 + 1) (fArg (v35) (0) (1) (0) σ34)) (qq 0) (lgb ++ [(0, (fArg (v35) (0) (1) (0) σ34).1 34, 0)]) := fun x => (gall x).trans (g34 (q := qq (ρ.1 19)) sam3 (EFF.rend srz3))
              have hq8 := hoh.2.2.2.2.2.2.2 (by omega) _ _ gz3
              have r6 : ρ.1 30 < 6 := hq8.1 (by rw [nrl]; decide)
              have hq9 := hq8.2
              clear hq8
              have i120 : (fArg (v35) (0) (1) (0) σ34).1 34 ≤ 120 := (hq9 (0, (fArg (v35) (0) (1) (0) σ34).1 34, 0) (List.mem_append_right _ (List.mem_singleton.mpr rfl))).1 rfl
              refine tm_aload_n dX12_oneRoutine_402 rfl 3 rfl ?_
              refine tm_get (k := 9) (v := .ref (b + 1 + 7)) lay_12 dX12_oneRoutine_403 (by decide) fl12_32 rfl ?_
              refine tm_aload_n dX12_oneRoutine_406 rfl 3 rfl ?_
              refine tm_getS (k := 30) (t := σ.1 30) dX12_oneRoutine_407 (by decide) fl12_268 rfl (rs_F fArg_fr (by decide) (rs_F f36 (by decide) (rs_F f22 (by decide) (rs_o (by decide) (rs_o (by decide) (rs_o (by decide) (rs_F f5 (by decide) (rfl)))))))) ?_
              have g53 := RG.s hR 30
              refine tm_aload_n dX12_oneRoutine_410 rfl 3 rfl ?_
              refine tm_getS (k := 34) (t := σ34.1 34) dX12_oneRoutine_411 (by decide) fl12_278 rfl (rs_F fArg_fr (by decide) (rfl)) ?_
              have g54 := RG.s f37 34
              refine tm_iast (z := σ.1 30) (v := σ34.1 34) dX12_oneRoutine_414 (show mT[7]? = some (9, 0, 13) from rfl) (by omega) (by omega) (by decide) ?_
              refine tm_aload_n dX12_oneRoutine_415 rfl 3 rfl ?_
              refine tm_dup dX12_oneRoutine_416 rfl ?_
              refine tm_getS (k := 30) (t := σ.1 30) dX12_oneRoutine_417 (by decide) fl12_268 rfl (rs_A (rs_F fArg_fr (by decide) (rs_F f36 (by decide) (rs_F f22 (by decide) (rs_o (by decide) (rs_o (by decide) (rs_o (by decide) (rs_F f5 (by decide) (rfl))))))))) ?_
              have g55 := RG.s hR 30
              refine tm_iconst dX12_oneRoutine_420 ?_
              refine tm_iadd dX12_oneRoutine_421 ?_
              refine tm_putS (k := 30) (v := (σ.1 30) + 1) lay_12 dX12_oneRoutine_422 (by decide) fl12_268 rfl (tyX12_ok 30 (by decide)) rfl rfl rfl ?_
              refine tm_iconst dX12_oneRoutine_425 ?_
              have ffz := (show Fr [26, 27, 30] [9] [] (fArg (v35) (0) (1) (0) σ34) (sS 30 ((σ.1 30) + 1) (sA 9 (σ.1 30) (σ34.1 34) (fArg (v35) (0) (1) (0) σ34))) from ((Fr.rfl.A (by decide)).S (by decide)))
              have flz : FLT (fArg (v35) (0) (1) (0) σ34) (sS 30 ((σ.1 30) + 1) (sA 9 (σ.1 30) (σ34.1 34) (fArg (v35) (0) (1) (0) σ34))) := (FLT.eq rfl)
              have pboZ : PBO ρ (sS 30 ((σ.1 30) + 1) (sA 9 (σ.1 30) (σ34.1 34) (fArg (v35) (0) (1) (0) σ34))) := pboC.fin ffz flz (fun j z => ra_ne (by omega) rfl)
              have srz : srt (sS 30 ((σ.1 30) + 1) (sA 9 (σ.1 30) (σ34.1 34) (fArg (v35) (0) (1) (0) σ34))) = srt (reP (ρ.1 19) ((fArg (v35) (0) (1) (0) σ34).1 34) (fArg (v35) (0) (1) (0) σ34)) := by have z9 : (fArg (v35) (0) (1) (0) σ34).1 30 = σ.1 30 := by { omega }; unfold reP; rw [if_neg (by omega), z9]; rfl
              have vwz := vw_fr ffz (by decide) (by decide) (by decide)
              have samz : SAM (fArg (v35) (0) (1) (0) σ34) (sS 30 ((σ.1 30) + 1) (sA 9 (σ.1 30) (σ34.1 34) (fArg (v35) (0) (1) (0) σ34))) := by unfold vw at vwz; exact ⟨congrArg Prod.fst vwz, congrArg (fun z => z.2.1) vwz, congrArg (fun z => z.2.2) vwz⟩
              have gz : ∀ x, GOS [30] (sS 34 x ρ) (qq 0) [] (sS 30 ((σ.1 30) + 1) (sA 9 (σ.1 30) (σ34.1 34) (fArg (v35) (0) (1) (0) σ34))) (qq 0) (lgb ++ [(0, (fArg (v35) (0) (1) (0) σ34).1 34, 0)]) := fun x => (gall x).trans (g34 (q := qq (ρ.1 19)) samz (EFF.rend srz))
              have tkz : TOK (sS 30 ((σ.1 30) + 1) (sA 9 (σ.1 30) (σ34.1 34) (fArg (v35) (0) (1) (0) σ34))) := by unfold TOK; rw [ffz.1 19 (by decide), ffz.1 20 (by decide), ffz.1 21 (by decide), ffz.1 22 (by decide), ffz.1 23 (by decide), fP.1 19 (by decide), fP.1 20 (by decide), fP.1 21 (by decide), fP.1 22 (by decide), fP.1 23 (by decide)]; exact bt.2.2.1.1
              have e30z : (sS 30 ((σ.1 30) + 1) (sA 9 (σ.1 30) (σ34.1 34) (fArg (v35) (0) (1) (0) σ34))).1 30 = ρ.1 30 + 1 := by rw [show (sS 30 ((σ.1 30) + 1) (sA 9 (σ.1 30) (σ34.1 34) (fArg (v35) (0) (1) (0) σ34))).1 30 = (σ.1 30) + 1 from rs_eq]; omega
              have e19z : (sS 30 ((σ.1 30) + 1) (sA 9 (σ.1 30) (σ34.1 34) (fArg (v35) (0) (1) (0) σ34))).1 19 = σ19.1 19 := (ffz.1 19 (by decide)).trans (fP.1 19 (by decide))
              have e31z : (sS 30 ((σ.1 30) + 1) (sA 9 (σ.1 30) (σ34.1 34) (fArg (v35) (0) (1) (0) σ34))).1 31 = σ19.1 31 := (ffz.1 31 (by decide)).trans (fP.1 31 (by decide))
              have e28z : (sS 30 ((σ.1 30) + 1) (sA 9 (σ.1 30) (σ34.1 34) (fArg (v35) (0) (1) (0) σ34))).1 28 = 0 := by rw [ffz.1 28 (by decide), fP.1 28 (by decide), b28]; exact e28s
              have e29z : (sS 30 ((σ.1 30) + 1) (sA 9 (σ.1 30) (σ34.1 34) (fArg (v35) (0) (1) (0) σ34))).1 29 = 0 := by rw [ffz.1 29 (by decide), fP.1 29 (by decide), b29]; exact e29s
              have pcz := bt.2.1
              unfold PBC at pcz
              have pl5 : ρ.1 19 + 5 ≤ (sS 30 ((σ.1 30) + 1) (sA 9 (σ.1 30) (σ34.1 34) (fArg (v35) (0) (1) (0) σ34))).1 19 := by have z6 := bp3.2.2.2.2.2.1; have z7 : (sS 34 0 (sS 33 0 (sS 32 0 σ2))).1 19 = σ2.1 19 := rfl; have z8 : (sS 34 0 (sS 33 0 (sS 32 0 σ2))).1 34 = 0 := rfl; omega
              exact tm_zret (v := 1) rfl (by decide) dX12_oneRoutine_426 (hret _ _ ((Fr.sub hd.1 (by decide) (by decide) (by decide) : Fr [19, 20, 22, 23, 26, 27, 28, 29, 30, 31, 32, 33, 34, 39, 40, 43] [3, 4, 5, 6, 7, 8, 9, 35, 36, 37, 41, 42, 45] [24, 38, 44] ρ σ).trans (((((((((Fr.rfl.trans (Fr.sub f5 (by decide) (by decide) (by decide))).S (by decide)).S (by decide)).S (by decide)).trans (Fr.sub f22 (by decide) (by decide) (by decide))).trans (Fr.sub f36 (by decide) (by decide) (by decide))).trans (Fr.sub fArg_fr (by decide) (by decide) (by decide))).A (by decide)).S (by decide))) ((((f37).arg (by omega) (by omega)).A (by omega)).S (by omega)) (by omega) pboZ (fun _ => ⟨tkz, ⟨e30z, pl5, by omega, e28z, e29z⟩, _, gz, nrl, (fun z => HDM.rmo hdm3 z svC samz (by omega) (by omega) (ffz.1 31 (by decide)) (ffz.1 39 (by decide)) (ffz.1 40 (by decide)) (ffz.2.1 37 (by decide)) (ffz.ri (by decide)) (by rw [e30C, ← e30h]; exact (ra_eq : (sA 9 (σ.1 30) _ _).2.1 9 (σ.1 30) = _))), (fun z => absurd z (by omega)), (fun z => absurd z (by omega)), (fun z => by have q := PLI.mk bs bf (show (sS 34 0 (sS 33 0 (sS 32 0 σ2))).1 25 = 3 by have y8 : (sS 34 0 (sS 33 0 (sS 32 0 σ2))).1 25 = σ2.1 25 := rfl; omega) (by omega) rfl rfl bp3 bt.2.1 (fun e he => (hq9 e (List.mem_append_left _ he)).tb (pboA.2.1 (by omega)).2.2.2) (by omega) pbP eAP okP k7P bt.2.2.2.1 tbP (show Fr [30] [9] [] (fArg (v35) (0) (1) (0) σ34) (sS 30 ((σ.1 30) + 1) (sA 9 (σ.1 30) (σ34.1 34) (fArg (v35) (0) (1) (0) σ34))) from ((Fr.rfl.A (by decide)).S (by decide))) (by rw [e30A, ← e30h]; exact (ra_eq : (sA 9 (σ.1 30) _ _).2.1 9 (σ.1 30) = _)); rw [e30A] at q; exact q)⟩) (fun q => absurd q (by decide)))
          · refine tm_aload_n dX12_oneRoutine_379 rfl 3 rfl ?_
            refine tm_getS (k := 34) (t := σ34.1 34) dX12_oneRoutine_380 (by decide) fl12_278 rfl (rs_F fArg_fr (by decide) (rfl)) ?_
            have g56 := RG.s f37 34
            refine tm_bipush dX12_oneRoutine_383 (by decide) ?_
            refine tm_icmp_le (tgt := 394) dX12_oneRoutine_385 (by decide) ⟨by omega, by omega⟩ ⟨by decide, by decide⟩ (fun h57 => ?_) (fun h57 => ?_)
            · refine tm_aload_n dX12_oneRoutine_394 rfl 3 rfl ?_
              refine tm_getS (k := 25) (t := σ.1 25) dX12_oneRoutine_395 (by decide) fl12_255 rfl (rs_F fArg_fr (by decide) (rs_F f36 (by decide) (rs_F f22 (by decide) (rs_o (by decide) (rs_o (by decide) (rs_o (by decide) (rs_F f5 (by decide) (rfl)))))))) ?_
              have g58 := RG.s hR 25
              refine tm_iconst dX12_oneRoutine_398 ?_
              refine tm_icmp_ne (tgt := 415) dX12_oneRoutine_399 (by decide) ⟨by omega, by omega⟩ ⟨by decide, by decide⟩ (fun h59 => ?_) (fun h59 => ?_)
              · refine tm_aload_n dX12_oneRoutine_415 rfl 3 rfl ?_
                refine tm_dup dX12_oneRoutine_416 rfl ?_
                refine tm_getS (k := 30) (t := σ.1 30) dX12_oneRoutine_417 (by decide) fl12_268 rfl (rs_F fArg_fr (by decide) (rs_F f36 (by decide) (rs_F f22 (by decide) (rs_o (by decide) (rs_o (by decide) (rs_o (by decide) (rs_F f5 (by decide) (rfl)))))))) ?_
                have g60 := RG.s hR 30
                refine tm_iconst dX12_oneRoutine_420 ?_
                refine tm_iadd dX12_oneRoutine_421 ?_
                refine tm_putS (k := 30) (v := (σ.1 30) + 1) lay_12 dX12_oneRoutine_422 (by decide) fl12_268 rfl (tyX12_ok 30 (by decide)) rfl rfl rfl ?_
                refine tm_iconst dX12_oneRoutine_425 ?_
                have ffz := (show Fr [26, 27, 30] [9] [] (fArg (v35) (0) (1) (0) σ34) (sS 30 ((σ.1 30) + 1) (fArg (v35) (0) (1) (0) σ34)) from (Fr.rfl.S (by decide)))
                have flz : FLT (fArg (v35) (0) (1) (0) σ34) (sS 30 ((σ.1 30) + 1) (fArg (v35) (0) (1) (0) σ34)) := (FLT.eq rfl)
                have pboZ : PBO ρ (sS 30 ((σ.1 30) + 1) (fArg (v35) (0) (1) (0) σ34)) := pboC.fin ffz flz (fun j _ => rfl)
                have srz : srt (sS 30 ((σ.1 30) + 1) (fArg (v35) (0) (1) (0) σ34)) = srt (reP (ρ.1 19) ((fArg (v35) (0) (1) (0) σ34).1 34) (fArg (v35) (0) (1) (0) σ34)) := by have z9 : (fArg (v35) (0) (1) (0) σ34).1 30 = σ.1 30 := by { omega }; unfold reP; rw [if_neg (by omega), z9]
                have vwz := vw_fr ffz (by decide) (by decide) (by decide)
                have samz : SAM (fArg (v35) (0) (1) (0) σ34) (sS 30 ((σ.1 30) + 1) (fArg (v35) (0) (1) (0) σ34)) := by unfold vw at vwz; exact ⟨congrArg Prod.fst vwz, congrArg (fun z => z.2.1) vwz, congrArg (fun z => z.2.2) vwz⟩
                have gz : ∀ x, GOS [30] (sS 34 x ρ) (qq 0) [] (sS 30 ((σ.1 30) + 1) (fArg (v35) (0) (1) (0) σ34)) (qq 0) (lgb ++ [(0, (fArg (v35) (0) (1) (0) σ34).1 34, 0)]) := fun x => (gall x).trans (g34 (q := qq (ρ.1 19)) samz (EFF.rend srz))
                have tkz : TOK (sS 30 ((σ.1 30) + 1) (fArg (v35) (0) (1) (0) σ34)) := by unfold TOK; rw [ffz.1 19 (by decide), ffz.1 20 (by decide), ffz.1 21 (by decide), ffz.1 22 (by decide), ffz.1 23 (by decide), fP.1 19 (by decide), fP.1 20 (by decide), fP.1 21 (by decide), fP.1 22 (by decide), fP.1 23 (by decide)]; exact bt.2.2.1.1
                have e30z : (sS 30 ((σ.1 30) + 1) (fArg (v35) (0) (1) (0) σ34)).1 30 = ρ.1 30 + 1 := by rw [show (sS 30 ((σ.1 30) + 1) (fArg (v35) (0) (1) (0) σ34)).1 30 = (σ.1 30) + 1 from rs_eq]; omega
                have e19z : (sS 30 ((σ.1 30) + 1) (fArg (v35) (0) (1) (0) σ34)).1 19 = σ19.1 19 := (ffz.1 19 (by decide)).trans (fP.1 19 (by decide))
                have e31z : (sS 30 ((σ.1 30) + 1) (fArg (v35) (0) (1) (0) σ34)).1 31 = σ19.1 31 := (ffz.1 31 (by decide)).trans (fP.1 31 (by decide))
                have e28z : (sS 30 ((σ.1 30) + 1) (fArg (v35) (0) (1) (0) σ34)).1 28 = 0 := by rw [ffz.1 28 (by decide), fP.1 28 (by decide), b28]; exact e28s
                have e29z : (sS 30 ((σ.1 30) + 1) (fArg (v35) (0) (1) (0) σ34)).1 29 = 0 := by rw [ffz.1 29 (by decide), fP.1 29 (by decide), b29]; exact e29s
                have pcz := bt.2.1
                unfold PBC at pcz
                have pl5 : ρ.1 19 + 5 ≤ (sS 30 ((σ.1 30) + 1) (fArg (v35) (0) (1) (0) σ34)).1 19 := by have z6 := bp3.2.2.2.2.2.1; have z7 : (sS 34 0 (sS 33 0 (sS 32 0 σ2))).1 19 = σ2.1 19 := rfl; have z8 : (sS 34 0 (sS 33 0 (sS 32 0 σ2))).1 34 = 0 := rfl; omega
                exact tm_zret (v := 1) rfl (by decide) dX12_oneRoutine_426 (hret _ _ ((Fr.sub hd.1 (by decide) (by decide) (by decide) : Fr [19, 20, 22, 23, 26, 27, 28, 29, 30, 31, 32, 33, 34, 39, 40, 43] [3, 4, 5, 6, 7, 8, 9, 35, 36, 37, 41, 42, 45] [24, 38, 44] ρ σ).trans ((((((((Fr.rfl.trans (Fr.sub f5 (by decide) (by decide) (by decide))).S (by decide)).S (by decide)).S (by decide)).trans (Fr.sub f22 (by decide) (by decide) (by decide))).trans (Fr.sub f36 (by decide) (by decide) (by decide))).trans (Fr.sub fArg_fr (by decide) (by decide) (by decide))).S (by decide))) (((f37).arg (by omega) (by omega)).S (by omega)) (by omega) pboZ (fun _ => ⟨tkz, ⟨e30z, pl5, by omega, e28z, e29z⟩, _, gz, nrl, (fun z => absurd z (by omega)), (fun z1 z2 e he => by rcases List.mem_append.mp he with y | y; exact (bt.2.2.2.2.1 (by have y8 : (sS 34 0 (sS 33 0 (sS 32 0 σ2))).1 25 = σ2.1 25 := rfl; omega) (by by_cases y9 : σ19.1 26 = 0; exact y9; exact absurd z2 (((pbP.2.2.2.2.1).trans flz).1 y9)) e y).bt (pboA.2.1 (by omega)).2.2.2; rw [List.mem_singleton.mp y]; exact ⟨fun _ => by show (fArg (v35) (0) (1) (0) σ34).1 34 ≤ 120; omega, fun q => absurd (show (0 : Int) = 1 from q) (by decide)⟩), (fun z => absurd z (by omega)), (fun z => absurd z (by omega))⟩) (fun q => absurd q (by decide)))
              · have vw3 := vw_fr (show Fr [30] [] [] (fArg (v35) (0) (1) (0) σ34) (sS 30 ((fArg (v35) (0) (1) (0) σ34).1 30 + 1) (fArg (v35) (0) (1) (0) σ34)) from Fr.rfl.S (by decide)) (by decide) (by decide) (by decide)
                have sam3 : SAM (fArg (v35) (0) (1) (0) σ34) (sS 30 ((fArg (v35) (0) (1) (0) σ34).1 30 + 1) (fArg (v35) (0) (1) (0) σ34)) := by unfold vw at vw3; exact ⟨congrArg Prod.fst vw3, congrArg (fun z => z.2.1) vw3, congrArg (fun z => z.2.2) vw3⟩
                have srz3 : srt (sS 30 ((fArg (v35) (0) (1) (0) σ34).1 30 + 1) (fArg (v35) (0) (1) (0) σ34)) = srt (reP (ρ.1 19) ((fArg (v35) (0) (1) (0) σ34).1 34) (fArg (v35) (0) (1) (0) σ34)) := by unfold reP; rw [if_neg (by omega)]
                have gz3 : ∀ x, GOS [30] (sS 34 x ρ) (qq 0) [] (sS 30 ((fArg (v35) (0) (1) (0) σ34).1 30 + 1) (fArg (v35) (0) (1) (0) σ34)) (qq 0) (lgb ++ [(0, (fArg (v35) (0) (1) (0) σ34).1 34, 0)]) := fun x => (gall x).trans (g34 (q := qq (ρ.1 19)) sam3 (EFF.rend srz3))
                have hq8 := hoh.2.2.2.2.2.2.2 (by omega) _ _ gz3
                have r6 : ρ.1 30 < 6 := hq8.1 (by rw [nrl]; decide)
                have hq9 := hq8.2
                clear hq8
                have i120 : (fArg (v35) (0) (1) (0) σ34).1 34 ≤ 120 := (hq9 (0, (fArg (v35) (0) (1) (0) σ34).1 34, 0) (List.mem_append_right _ (List.mem_singleton.mpr rfl))).1 rfl
                refine tm_aload_n dX12_oneRoutine_402 rfl 3 rfl ?_
                refine tm_get (k := 9) (v := .ref (b + 1 + 7)) lay_12 dX12_oneRoutine_403 (by decide) fl12_32 rfl ?_
                refine tm_aload_n dX12_oneRoutine_406 rfl 3 rfl ?_
                refine tm_getS (k := 30) (t := σ.1 30) dX12_oneRoutine_407 (by decide) fl12_268 rfl (rs_F fArg_fr (by decide) (rs_F f36 (by decide) (rs_F f22 (by decide) (rs_o (by decide) (rs_o (by decide) (rs_o (by decide) (rs_F f5 (by decide) (rfl)))))))) ?_
                have g61 := RG.s hR 30
                refine tm_aload_n dX12_oneRoutine_410 rfl 3 rfl ?_
                refine tm_getS (k := 34) (t := σ34.1 34) dX12_oneRoutine_411 (by decide) fl12_278 rfl (rs_F fArg_fr (by decide) (rfl)) ?_
                have g62 := RG.s f37 34
                refine tm_iast (z := σ.1 30) (v := σ34.1 34) dX12_oneRoutine_414 (show mT[7]? = some (9, 0, 13) from rfl) (by omega) (by omega) (by decide) ?_
                refine tm_aload_n dX12_oneRoutine_415 rfl 3 rfl ?_
                refine tm_dup dX12_oneRoutine_416 rfl ?_
                refine tm_getS (k := 30) (t := σ.1 30) dX12_oneRoutine_417 (by decide) fl12_268 rfl (rs_A (rs_F fArg_fr (by decide) (rs_F f36 (by decide) (rs_F f22 (by decide) (rs_o (by decide) (rs_o (by decide) (rs_o (by decide) (rs_F f5 (by decide) (rfl))))))))) ?_
                have g63 := RG.s hR 30
                refine tm_iconst dX12_oneRoutine_420 ?_
                refine tm_iadd dX12_oneRoutine_421 ?_
                refine tm_putS (k := 30) (v := (σ.1 30) + 1) lay_12 dX12_oneRoutine_422 (by decide) fl12_268 rfl (tyX12_ok 30 (by decide)) rfl rfl rfl ?_
                refine tm_iconst dX12_oneRoutine_425 ?_
                exact tm_zret (v := 1) rfl (by decide) dX12_oneRoutine_426 ((by exfalso; omega))
            · refine tm_aload_n dX12_oneRoutine_388 rfl 3 rfl ?_
              refine tm_iconst dX12_oneRoutine_389 ?_
              refine tm_iload_n dX12_oneRoutine_390 rfl 2 rfl ?_
              refine tm_callV (M := m_X12_oneRoutine) (pc := 391) (ix := 274) (M' := m_X12_note) (As := [.int (iI 5), .int (iI p)]) (rest := []) dX12_oneRoutine_391 ok_X12_note im_X12_note se_X12_note ml12_274 np_X12_note rfl rfl (Nat.le_of_ble_eq_true rfl) (Nat.le_of_ble_eq_true rfl) rfl (c2_X12_note (d + 61) (σ := (fArg (v35) (0) (1) (0) σ34)) (f := 5) (p := p) ((f37).arg (by omega) (by omega)) (by omega) (by omega)) (fun r64 σ65 hp => ?_)
              obtain ⟨rfl, f67, f68, f69, f70, f71⟩ := hp
              show Tm _ _ 394 b σ65 [(4, .int (iI v35)), (2, .int (iI m)), (1, .int (iI p)), (0, .ref b)] [] _
              have ntf := f69
              have ntn := f70
              have nt4 := f71
              refine tm_aload_n dX12_oneRoutine_394 rfl 3 rfl ?_
              refine tm_getS (k := 25) (t := σ.1 25) dX12_oneRoutine_395 (by decide) fl12_255 rfl (rs_F f67 (by decide) (rs_F fArg_fr (by decide) (rs_F f36 (by decide) (rs_F f22 (by decide) (rs_o (by decide) (rs_o (by decide) (rs_o (by decide) (rs_F f5 (by decide) (rfl))))))))) ?_
              have g72 := RG.s hR 25
              refine tm_iconst dX12_oneRoutine_398 ?_
              refine tm_icmp_ne (tgt := 415) dX12_oneRoutine_399 (by decide) ⟨by omega, by omega⟩ ⟨by decide, by decide⟩ (fun h73 => ?_) (fun h73 => ?_)
              · refine tm_aload_n dX12_oneRoutine_415 rfl 3 rfl ?_
                refine tm_dup dX12_oneRoutine_416 rfl ?_
                refine tm_getS (k := 30) (t := σ.1 30) dX12_oneRoutine_417 (by decide) fl12_268 rfl (rs_F f67 (by decide) (rs_F fArg_fr (by decide) (rs_F f36 (by decide) (rs_F f22 (by decide) (rs_o (by decide) (rs_o (by decide) (rs_o (by decide) (rs_F f5 (by decide) (rfl))))))))) ?_
                have g74 := RG.s hR 30
                refine tm_iconst dX12_oneRoutine_420 ?_
                refine tm_iadd dX12_oneRoutine_421 ?_
                refine tm_putS (k := 30) (v := (σ.1 30) + 1) lay_12 dX12_oneRoutine_422 (by decide) fl12_268 rfl (tyX12_ok 30 (by decide)) rfl rfl rfl ?_
                refine tm_iconst dX12_oneRoutine_425 ?_
                have ffz := (show Fr [26, 27, 30] [9] [] (fArg (v35) (0) (1) (0) σ34) (sS 30 ((σ.1 30) + 1) σ65) from ((Fr.rfl.trans (Fr.sub f67 (by decide) (by decide) (by decide))).S (by decide)))
                have flz : FLT (fArg (v35) (0) (1) (0) σ34) (sS 30 ((σ.1 30) + 1) σ65) := ntf
                have pboZ : PBO ρ (sS 30 ((σ.1 30) + 1) σ65) := pboC.fin ffz flz (fun j _ => congrFun ((show Fr [26, 27] [] [] (fArg (v35) (0) (1) (0) σ34) σ65 from f67).2.1 9 (by decide)) j)
                have srz : srt (sS 30 ((σ.1 30) + 1) σ65) = srt (reP (ρ.1 19) ((fArg (v35) (0) (1) (0) σ34).1 34) (fArg (v35) (0) (1) (0) σ34)) := by have z9 : (fArg (v35) (0) (1) (0) σ34).1 30 = σ.1 30 := by { omega }; unfold reP; rw [if_pos ⟨by omega, by omega⟩, ← hp, ← nt4, z9]
                have vwz := vw_fr ffz (by decide) (by decide) (by decide)
                have samz : SAM (fArg (v35) (0) (1) (0) σ34) (sS 30 ((σ.1 30) + 1) σ65) := by unfold vw at vwz; exact ⟨congrArg Prod.fst vwz, congrArg (fun z => z.2.1) vwz, congrArg (fun z => z.2.2) vwz⟩
                have gz : ∀ x, GOS [30] (sS 34 x ρ) (qq 0) [] (sS 30 ((σ.1 30) + 1) σ65) (qq 0) (lgb ++ [(0, (fArg (v35) (0) (1) (0) σ34).1 34, 0)]) := fun x => (gall x).trans (g34 (q := qq (ρ.1 19)) samz (EFF.rend srz))
                have tkz : TOK (sS 30 ((σ.1 30) + 1) σ65) := by unfold TOK; rw [ffz.1 19 (by decide), ffz.1 20 (by decide), ffz.1 21 (by decide), ffz.1 22 (by decide), ffz.1 23 (by decide), fP.1 19 (by decide), fP.1 20 (by decide), fP.1 21 (by decide), fP.1 22 (by decide), fP.1 23 (by decide)]; exact bt.2.2.1.1
                have e30z : (sS 30 ((σ.1 30) + 1) σ65).1 30 = ρ.1 30 + 1 := by rw [show (sS 30 ((σ.1 30) + 1) σ65).1 30 = (σ.1 30) + 1 from rs_eq]; omega
                have e19z : (sS 30 ((σ.1 30) + 1) σ65).1 19 = σ19.1 19 := (ffz.1 19 (by decide)).trans (fP.1 19 (by decide))
                have e31z : (sS 30 ((σ.1 30) + 1) σ65).1 31 = σ19.1 31 := (ffz.1 31 (by decide)).trans (fP.1 31 (by decide))
                have e28z : (sS 30 ((σ.1 30) + 1) σ65).1 28 = 0 := by rw [ffz.1 28 (by decide), fP.1 28 (by decide), b28]; exact e28s
                have e29z : (sS 30 ((σ.1 30) + 1) σ65).1 29 = 0 := by rw [ffz.1 29 (by decide), fP.1 29 (by decide), b29]; exact e29s
                have pcz := bt.2.1
                unfold PBC at pcz
                have pl5 : ρ.1 19 + 5 ≤ (sS 30 ((σ.1 30) + 1) σ65).1 19 := by have z6 := bp3.2.2.2.2.2.1; have z7 : (sS 34 0 (sS 33 0 (sS 32 0 σ2))).1 19 = σ2.1 19 := rfl; have z8 : (sS 34 0 (sS 33 0 (sS 32 0 σ2))).1 34 = 0 := rfl; omega
                exact tm_zret (v := 1) rfl (by decide) dX12_oneRoutine_426 (hret _ _ ((Fr.sub hd.1 (by decide) (by decide) (by decide) : Fr [19, 20, 22, 23, 26, 27, 28, 29, 30, 31, 32, 33, 34, 39, 40, 43] [3, 4, 5, 6, 7, 8, 9, 35, 36, 37, 41, 42, 45] [24, 38, 44] ρ σ).trans (((((((((Fr.rfl.trans (Fr.sub f5 (by decide) (by decide) (by decide))).S (by decide)).S (by decide)).S (by decide)).trans (Fr.sub f22 (by decide) (by decide) (by decide))).trans (Fr.sub f36 (by decide) (by decide) (by decide))).trans (Fr.sub fArg_fr (by decide) (by decide) (by decide))).trans (Fr.sub f67 (by decide) (by decide) (by decide))).S (by decide))) (f68.S (by omega)) (by omega) pboZ (fun _ => ⟨tkz, ⟨e30z, pl5, by omega, e28z, e29z⟩, _, gz, nrl, (fun z => absurd z (by omega)), (fun z1 z2 => absurd z2 (by have y := ntn (by omega); exact y)), (fun z => absurd z (by omega)), (fun z => absurd z (by omega))⟩) (fun q => absurd q (by decide)))
              · have vw3 := vw_fr (show Fr [30] [] [] (fArg (v35) (0) (1) (0) σ34) (sS 30 ((fArg (v35) (0) (1) (0) σ34).1 30 + 1) (fArg (v35) (0) (1) (0) σ34)) from Fr.rfl.S (by decide)) (by decide) (by decide) (by decide)
                have sam3 : SAM (fArg (v35) (0) (1) (0) σ34) (sS 30 ((fArg (v35) (0) (1) (0) σ34).1 30 + 1) (fArg (v35) (0) (1) (0) σ34)) := by unfold vw at vw3; exact ⟨congrArg Prod.fst vw3, congrArg (fun z => z.2.1) vw3, congrArg (fun z => z.2.2) vw3⟩
                have srz3 : srt (sS 30 ((fArg (v35) (0) (1) (0) σ34).1 30 + 1) (fArg (v35) (0) (1) (0) σ34)) = srt (reP (ρ.1 19) ((fArg (v35) (0) (1) (0) σ34).1 34) (fArg (v35) (0) (1) (0) σ34)) := by unfold reP; rw [if_neg (by omega)]
                have gz3 : ∀ x, GOS [30] (sS 34 x ρ) (qq 0) [] (sS 30 ((fArg (v35) (0) (1) (0) σ34).1 30 + 1) (fArg (v35) (0) (1) (0) σ34)) (qq 0) (lgb ++ [(0, (fArg (v35) (0) (1) (0) σ34).1 34, 0)]) := fun x => (gall x).trans (g34 (q := qq (ρ.1 19)) sam3 (EFF.rend srz3))
                have hq8 := hoh.2.2.2.2.2.2.2 (by omega) _ _ gz3
                have r6 : ρ.1 30 < 6 := hq8.1 (by rw [nrl]; decide)
                have hq9 := hq8.2
                clear hq8
                have i120 : (fArg (v35) (0) (1) (0) σ34).1 34 ≤ 120 := (hq9 (0, (fArg (v35) (0) (1) (0) σ34).1 34, 0) (List.mem_append_right _ (List.mem_singleton.mpr rfl))).1 rfl
                refine tm_aload_n dX12_oneRoutine_402 rfl 3 rfl ?_
                refine tm_get (k := 9) (v := .ref (b + 1 + 7)) lay_12 dX12_oneRoutine_403 (by decide) fl12_32 rfl ?_
                refine tm_aload_n dX12_oneRoutine_406 rfl 3 rfl ?_
                refine tm_getS (k := 30) (t := σ.1 30) dX12_oneRoutine_407 (by decide) fl12_268 rfl (rs_F f67 (by decide) (rs_F fArg_fr (by decide) (rs_F f36 (by decide) (rs_F f22 (by decide) (rs_o (by decide) (rs_o (by decide) (rs_o (by decide) (rs_F f5 (by decide) (rfl))))))))) ?_
                have g75 := RG.s hR 30
                refine tm_aload_n dX12_oneRoutine_410 rfl 3 rfl ?_
                refine tm_getS (k := 34) (t := σ34.1 34) dX12_oneRoutine_411 (by decide) fl12_278 rfl (rs_F f67 (by decide) (rs_F fArg_fr (by decide) (rfl))) ?_
                have g76 := RG.s f37 34
                refine tm_iast (z := σ.1 30) (v := σ34.1 34) dX12_oneRoutine_414 (show mT[7]? = some (9, 0, 13) from rfl) (by omega) (by omega) (by decide) ?_
                refine tm_aload_n dX12_oneRoutine_415 rfl 3 rfl ?_
                refine tm_dup dX12_oneRoutine_416 rfl ?_
                refine tm_getS (k := 30) (t := σ.1 30) dX12_oneRoutine_417 (by decide) fl12_268 rfl (rs_A (rs_F f67 (by decide) (rs_F fArg_fr (by decide) (rs_F f36 (by decide) (rs_F f22 (by decide) (rs_o (by decide) (rs_o (by decide) (rs_o (by decide) (rs_F f5 (by decide) (rfl)))))))))) ?_
                have g77 := RG.s hR 30
                refine tm_iconst dX12_oneRoutine_420 ?_
                refine tm_iadd dX12_oneRoutine_421 ?_
                refine tm_putS (k := 30) (v := (σ.1 30) + 1) lay_12 dX12_oneRoutine_422 (by decide) fl12_268 rfl (tyX12_ok 30 (by decide)) rfl rfl rfl ?_
                refine tm_iconst dX12_oneRoutine_425 ?_
                exact tm_zret (v := 1) rfl (by decide) dX12_oneRoutine_426 ((by exfalso; omega))
        · refine tm_iconst dX12_oneRoutine_350 ?_
          exact tm_zret (v := 0) rfl (by decide) dX12_oneRoutine_351 (hret _ _ ((Fr.sub hd.1 (by decide) (by decide) (by decide) : Fr [19, 20, 22, 23, 26, 27, 28, 29, 30, 31, 32, 33, 34, 39, 40, 43] [3, 4, 5, 6, 7, 8, 9, 35, 36, 37, 41, 42, 45] [24, 38, 44] ρ σ).trans (((((Fr.rfl.trans (Fr.sub f5 (by decide) (by decide) (by decide))).S (by decide)).S (by decide)).S (by decide)).trans (Fr.sub f22 (by decide) (by decide) (by decide)))) f23 (by omega) (pboA.pb e30A bp3 (by show (0 : Int) ≤ 0; decide) bp1 (by decide) (by decide) (by decide)) (fun q => absurd q (by omega)) (fun _ x => (g35_ x).fail ((bp5 (by omega) _).more [51, 34])))
      · have nn1 := hd.2.2.1 (σ.1 30) (by omega) (by omega)
        refine tm_aload_n dX12_oneRoutine_317 rfl 2 rfl ?_
        refine tm_get (k := 35) (v := .ref (b + 1 + 16)) lay_12 dX12_oneRoutine_318 (by decide) fl12_63 rfl ?_
        refine tm_aload_n dX12_oneRoutine_321 rfl 2 rfl ?_
        refine tm_getS (k := 30) (t := σ.1 30) dX12_oneRoutine_322 (by decide) fl12_268 rfl (rs_F f5 (by decide) (rfl)) ?_
        have g78 := RG.s hR 30
        refine tm_iald (z := σ.1 30) (v := σ.2.1 35 (σ.1 30)) dX12_oneRoutine_325 (show mT[16]? = some (35, 0, 6) from rfl) (by omega) (by omega) (by decide) (ra_F f5 (by decide) (rfl)) ?_
        have g79 := RG.a hR 35 (σ.1 30)
        refine tm_goto (tgt := 330) dX12_oneRoutine_326 (by decide) ?_
        refine tm_putS (k := 32) (v := σ.2.1 35 (σ.1 30)) lay_12 dX12_oneRoutine_330 (by decide) fl12_291 rfl (tyX12_ok 32 (by decide)) rfl rfl rfl ?_
        refine tm_aload_n dX12_oneRoutine_333 rfl 2 rfl ?_
        refine tm_iconst dX12_oneRoutine_334 ?_
        refine tm_putS (k := 33) (v := 0) lay_12 dX12_oneRoutine_335 (by decide) fl12_370 rfl (tyX12_ok 33 (by decide)) rfl rfl rfl ?_
        refine tm_aload_n dX12_oneRoutine_338 rfl 2 rfl ?_
        refine tm_iconst dX12_oneRoutine_339 ?_
        refine tm_putS (k := 34) (v := 0) lay_12 dX12_oneRoutine_340 (by decide) fl12_278 rfl (tyX12_ok 34 (by decide)) rfl rfl rfl ?_
        have g35_ : ∀ x, GOS [30] (sS 34 x ρ) (qq 0) [28, 51, 34] (sS 34 0 (sS 33 0 (sS 32 (σ.2.1 35 (σ.1 30)) σ2))) (qq (ρ.1 19)) [] := fun x => (gx3 x).1.then (g35 ⟨rfl, rfl, rfl, rfl⟩)
        have rdn : RDY (sS 34 0 (sS 33 0 (sS 32 (σ.2.1 35 (σ.1 30)) σ2))) := RDY.new ynq.2.2.1 (by omega) (by omega) (by omega) (by omega)
        have pboA : PBO ρ (sS 34 0 (sS 33 0 (sS 32 (σ.2.1 35 (σ.1 30)) σ2))) := pbo9.fr (show Fr [32, 33, 34] [] [] σ2 (sS 34 0 (sS 33 0 (sS 32 (σ.2.1 35 (σ.1 30)) σ2))) from (((Fr.rfl.S (by decide)).S (by decide)).S (by decide))) (by decide) (by decide) (by decide)
        have e30A : (sS 34 0 (sS 33 0 (sS 32 (σ.2.1 35 (σ.1 30)) σ2))).1 30 = ρ.1 30 := e309.trans e30h
        have svA : sv (sS 34 0 (sS 33 0 (sS 32 (σ.2.1 35 (σ.1 30)) σ2))) = sv ρ := (sv_fr yn1 (by decide) (by decide) : sv σ2 = sv σ).trans (sv_fr hd.1 (by decide) (by decide))
        have hdm1 : HDM ρ [28, 51, 34] (sS 34 0 (sS 33 0 (sS 32 (σ.2.1 35 (σ.1 30)) σ2))) (qq (ρ.1 19)) [(11, 0, 0, [])] [] := HDM.begin (σ := σ2) gx3 svA rfl (fun z => ⟨⟨pboA.2.2.2.2.1, e30A, by show (0 : Int) ≤ 0; decide⟩, (pboA.2.1 (by omega)).1, (pboA.2.1 (by omega)).2.1, (pboA.2.1 (by omega)).2.2.2.1, (pboA.2.1 (by omega)).2.2.2.2.2.2, fun j _ => congrFun ((yn1.2.1 37 (by decide)).trans (hd.1.2.1 37 (by decide))) j⟩) (e319.trans e31h) ((yn1.2.1 37 (by decide)).trans (hd.1.2.1 37 (by decide))) rfl rfl (fun r6 => by first | (exfalso; omega) | (rw [← e30h]; exact (congrFun (yn1.2.1 35 (by decide)) (σ.1 30)).symm)) ((yn1.1 39 (by decide)).trans (hd.1.1 39 (by decide))) ((yn1.1 40 (by decide)).trans (hd.1.1 40 (by decide)))
        have e28s : (sS 34 0 (sS 33 0 (sS 32 (σ.2.1 35 (σ.1 30)) σ2))).1 28 = 0 := (yn1.1 28 (by decide)).trans ((hd.1.1 28 (by decide)).trans hoh.2.2.2.2.1.1)
        have e29s : (sS 34 0 (sS 33 0 (sS 32 (σ.2.1 35 (σ.1 30)) σ2))).1 29 = 0 := (yn1.1 29 (by decide)).trans ((hd.1.1 29 (by decide)).trans hoh.2.2.2.2.1.2)
        refine tm_aload_n dX12_oneRoutine_343 rfl 2 rfl ?_
        refine tm_callV (M := m_X12_oneRoutine) (pc := 344) (ix := 373) (M' := m_X12_block) (As := []) (rest := []) dX12_oneRoutine_344 ok_X12_block im_X12_block se_X12_block ml12_373 np_X12_block rfl rfl (Nat.le_of_ble_eq_true rfl) (Nat.le_of_ble_eq_true rfl) rfl (c_blk6 (d) (σ := (sS 34 0 (sS 33 0 (sS 32 (σ.2.1 35 (σ.1 30)) σ2))))  (((f6.S (by omega)).S (by omega)).S (by omega)) rdn nn9 e28s e29s pboA.2.2.2.2.2.2) (fun r80 σ81 hp => ?_)
        obtain ⟨v82, rfl, f83, f84, f85, f86, f87, f88⟩ := hp
        show Tm _ _ 347 b σ81 [(2, .int (iI m)), (1, .int (iI p)), (0, .ref b)] [.int (iI v82)] _
        have bp0 := f83
        have bp1 := f84
        have bp2 := f85
        have bp3 := f86
        have bp4 := f87
        have bp5 := f88
        refine tm_if_ne (tgt := 352) dX12_oneRoutine_347 (by decide) ⟨by omega, by omega⟩ (fun h89 => ?_) (fun h89 => ?_)
        · obtain ⟨lgb, bt, bs, bf, b28, b29⟩ := bp4 (by omega)
          have rdb := bt.2.2.1.2
          have tkb := bt.2.2.1.1.1
          have pboB : PBO ρ σ81 := pboA.pb e30A bp3 (by show (0 : Int) ≤ 0; decide) bp1 (by decide) (by decide) (by decide)
          have e30B : σ81.1 30 = ρ.1 30 := bp3.2.2.2.2.2.2.2.trans e30A
          refine tm_aload_n dX12_oneRoutine_352 rfl 2 rfl ?_
          refine tm_bipush dX12_oneRoutine_353 (by decide) ?_
          refine tm_iconst dX12_oneRoutine_355 ?_
          refine tm_iconst dX12_oneRoutine_356 ?_
          refine tm_callV (M := m_X12_oneRoutine) (pc := 357) (ix := 294) (M' := m_X12_put) (As := [.int (iI 7), .int (iI 0), .int (iI 0)]) (rest := []) dX12_oneRoutine_357 ok_X12_put im_X12_put se_X12_put ml12_294 np_X12_put rfl rfl (Nat.le_of_ble_eq_true rfl) (Nat.le_of_ble_eq_true rfl) rfl (c_X12_put (d + 60) (σ := σ81) (k := 7) (e := 0) (o := 0) f85 (by rw [show σ81.1 30 = σ.1 30 from rs_F f84 (by decide) (rs_o (by decide) (rs_o (by decide) (rs_o (by decide) (rs_F f5 (by decide) (rfl))))), show σ81.1 34 = σ81.1 34 from rfl]; omega) (by omega) (by omega) (by omega)) (fun r90 σ91 hp => ?_)
          obtain ⟨v92, rfl, f93, f94, f95, f96, f97, f98, f99, f100⟩ := hp
          show Tm _ _ 360 b σ91 [(2, .int (iI m)), (1, .int (iI p)), (0, .ref b)] [.int (iI v92)] _
          have jvP := f95
          have jnP := f96
          have jiP := f97
          have joP := f98
          have jrP := f99
          have jzP := f100
          refine tm_istore (L' := [(4, .int (iI v92)), (2, .int (iI m)), (1, .int (iI p)), (0, .ref b)]) dX12_oneRoutine_360 (by decide) rfl ?_
          refine tm_aload_n dX12_oneRoutine_362 rfl 3 rfl ?_
          refine tm_iload dX12_oneRoutine_363 0 rfl ?_
          refine tm_iconst dX12_oneRoutine_365 ?_
          refine tm_iconst dX12_oneRoutine_366 ?_
          refine tm_iconst dX12_oneRoutine_367 ?_
          refine tm_callV (M := m_X12_oneRoutine) (pc := 368) (ix := 298) (M' := m_X12_setArg) (As := [.int (iI v92), .int (iI 0), .int (iI 1), .int (iI 0)]) (rest := []) dX12_oneRoutine_368 ok_X12_setArg im_X12_setArg se_X12_setArg ml12_298 np_X12_setArg rfl rfl (Nat.le_of_ble_eq_true rfl) (Nat.le_of_ble_eq_true rfl) rfl (c_X12_setArg (d + 61) (σ := σ91) (x := v92) (i := 0) (k := 1) (w := 0) (by omega)) (fun r101 σ102 hp => ?_)
          obtain ⟨rfl, f104⟩ := hp
          subst f104
          show Tm _ _ 371 b (fArg (v92) (0) (1) (0) σ91) [(4, .int (iI v92)), (2, .int (iI m)), (1, .int (iI p)), (0, .ref b)] [] _
          have jvP : _ = PXx σ81 := jvP
          have fAP := (show Fr [33, 34] [3, 4, 5, 6, 7, 8] [] σ81 (fArg (v92) (0) (1) (0) σ91) from ((Fr.rfl.trans (Fr.sub f93 (by decide) (by decide) (by decide))).trans (Fr.sub fArg_fr (by decide) (by decide) (by decide))))
          have eAP : (fArg (v92) (0) (1) (0) σ91).1 34 = σ81.1 34 + 1 := jnP
          have pbP : PBF σ81 (fArg (v92) (0) (1) (0) σ91) := PBF.it bt.nn fAP (by decide) (by decide) (by decide) eAP jvP (joP.trans (OFF.arg (by decide) (by decide)))
          have tbP : TBm σ81 (fArg (v92) (0) (1) (0) σ91) := TBm.of fAP (by decide) (by decide) (by decide) (by decide)
          have ptP : PIT σ81 (fArg (v92) (0) (1) (0) σ91) (mkI 7 0 0 1 0 0) := by exact PIT.at jvP eAP (joP.trans (OFF.arg (by decide) (by decide))) (ri_one jzP)
          have fP := (show Fr [34] [3, 4, 5, 6, 7, 8] [] σ81 (fArg (v92) (0) (1) (0) σ91) from ((Fr.rfl.trans (Fr.sub f93 (by decide) (by decide) (by decide))).trans (Fr.sub fArg_fr (by decide) (by decide) (by decide))))
          have okP : OKI (fArg (v92) (0) (1) (0) σ91) 1 (PXx σ81) := by rw [← jvP]; exact oki_arg1 jiP (Or.inr (Or.inr (Or.inl rfl))) (fun q => absurd q (by decide)) (fun q => absurd q (by decide)) (by omega)
          have k7P : (fArg (v92) (0) (1) (0) σ91).2.1 3 (PXx σ81) = 7 := by rw [← jvP]; exact jiP.1
          have gall : ∀ x, GOS [30] (sS 34 x ρ) (qq 0) [34] (fArg (v92) (0) (1) (0) σ91) (qq (ρ.1 19)) lgb := fun x => ((g35_ x).then ((bt.2.2.2.2.2 (ρ.1 19)).1.more [51, 34])).and ((g51 (CHG.put fP (by decide) (by decide) (by decide) eAP) : GOS [51] σ81 (qq (ρ.1 19)) [] (fArg (v92) (0) (1) (0) σ91) (qq (ρ.1 19)) []).more [34])
          have nrl : nR (lgb ++ [(0, (fArg (v92) (0) (1) (0) σ91).1 34, 0)]) = 1 := by rw [nR_app, (bt.2.2.2.2.2 0).1.nr0 (by decide)]; rfl
          have pboC : PBO ρ (fArg (v92) (0) (1) (0) σ91) := pboB.pb e30B pbP rdb.2.2.1.1 fP (by decide) (by decide) (by decide)
          have e30C : (fArg (v92) (0) (1) (0) σ91).1 30 = ρ.1 30 := (fP.1 30 (by decide)).trans e30B
          have e25C : (fArg (v92) (0) (1) (0) σ91).1 25 = ρ.1 25 := pboC.2.2.2.2.1
          have R371 : RG (fArg (v92) (0) (1) (0) σ91) := ((f94).arg (by omega) (by omega))
          have svB : sv σ81 = sv ρ := (bt.2.2.2.2.2 0).1.1.trans svA
          have svC : sv (fArg (v92) (0) (1) (0) σ91) = sv ρ := (sv_fr fP (by decide) (by decide)).trans svB
          have hdm2 := hdm1.then svA ((bt.2.2.2.2.2 (ρ.1 19)).more [51, 34] [(11, 0, 0, [])])
          have hdm3 : HDM ρ [34] (fArg (v92) (0) (1) (0) σ91) (qq (ρ.1 19)) [] lgb := hdm2.and svB ((u51R (CHG.put fP (by decide) (by decide) (by decide) eAP) ptP fAP nfr33 (fP.1 33 (by decide)) : GOM [51] σ81 (qq (ρ.1 19)) [(11, 0, 0, [])] [] (fArg (v92) (0) (1) (0) σ91) (qq (ρ.1 19)) [] []).more [34] [])
          refine tm_aload_n dX12_oneRoutine_371 rfl 3 rfl ?_
          refine tm_getS (k := 25) (t := σ.1 25) dX12_oneRoutine_372 (by decide) fl12_255 rfl (rs_F fArg_fr (by decide) (rs_F f93 (by decide) (rs_F f84 (by decide) (rs_o (by decide) (rs_o (by decide) (rs_o (by decide) (rs_F f5 (by decide) (rfl)))))))) ?_
          have g105 := RG.s hR 25
          refine tm_iconst dX12_oneRoutine_375 ?_
          refine tm_icmp_ne (tgt := 394) dX12_oneRoutine_376 (by decide) ⟨by omega, by omega⟩ ⟨by decide, by decide⟩ (fun h106 => ?_) (fun h106 => ?_)
          · refine tm_aload_n dX12_oneRoutine_394 rfl 3 rfl ?_
            refine tm_getS (k := 25) (t := σ.1 25) dX12_oneRoutine_395 (by decide) fl12_255 rfl (rs_F fArg_fr (by decide) (rs_F f93 (by decide) (rs_F f84 (by decide) (rs_o (by decide) (rs_o (by decide) (rs_o (by decide) (rs_F f5 (by decide) (rfl)))))))) ?_
            have g107 := RG.s hR 25
            refine tm_iconst dX12_oneRoutine_398 ?_
            refine tm_icmp_ne (tgt := 415) dX12_oneRoutine_399 (by decide) ⟨by omega, by omega⟩ ⟨by decide, by decide⟩ (fun h108 => ?_) (fun h108 => ?_)
            · refine tm_aload_n dX12_oneRoutine_415 rfl 3 rfl ?_
              refine tm_dup dX12_oneRoutine_416 rfl ?_
              refine tm_getS (k := 30) (t := σ.1 30) dX12_oneRoutine_417 (by decide) fl12_268 rfl (rs_F fArg_fr (by decide) (rs_F f93 (by decide) (rs_F f84 (by decide) (rs_o (by decide) (rs_o (by decide) (rs_o (by decide) (rs_F f5 (by decide) (rfl)))))))) ?_
              have g109 := RG.s hR 30
              refine tm_iconst dX12_oneRoutine_420 ?_
              refine tm_iadd dX12_oneRoutine_421 ?_
              refine tm_putS (k := 30) (v := (σ.1 30) + 1) lay_12 dX12_oneRoutine_422 (by decide) fl12_268 rfl (tyX12_ok 30 (by decide)) rfl rfl rfl ?_
              refine tm_iconst dX12_oneRoutine_425 ?_
              have ffz := (show Fr [26, 27, 30] [9] [] (fArg (v92) (0) (1) (0) σ91) (sS 30 ((σ.1 30) + 1) (fArg (v92) (0) (1) (0) σ91)) from (Fr.rfl.S (by decide)))
              have flz : FLT (fArg (v92) (0) (1) (0) σ91) (sS 30 ((σ.1 30) + 1) (fArg (v92) (0) (1) (0) σ91)) := (FLT.eq rfl)
              have pboZ : PBO ρ (sS 30 ((σ.1 30) + 1) (fArg (v92) (0) (1) (0) σ91)) := pboC.fin ffz flz (fun j _ => rfl)
              have srz : srt (sS 30 ((σ.1 30) + 1) (fArg (v92) (0) (1) (0) σ91)) = srt (reP (ρ.1 19) ((fArg (v92) (0) (1) (0) σ91).1 34) (fArg (v92) (0) (1) (0) σ91)) := by have z9 : (fArg (v92) (0) (1) (0) σ91).1 30 = σ.1 30 := by { omega }; unfold reP; rw [if_neg (by omega), z9]
              have vwz := vw_fr ffz (by decide) (by decide) (by decide)
              have samz : SAM (fArg (v92) (0) (1) (0) σ91) (sS 30 ((σ.1 30) + 1) (fArg (v92) (0) (1) (0) σ91)) := by unfold vw at vwz; exact ⟨congrArg Prod.fst vwz, congrArg (fun z => z.2.1) vwz, congrArg (fun z => z.2.2) vwz⟩
              have gz : ∀ x, GOS [30] (sS 34 x ρ) (qq 0) [] (sS 30 ((σ.1 30) + 1) (fArg (v92) (0) (1) (0) σ91)) (qq 0) (lgb ++ [(0, (fArg (v92) (0) (1) (0) σ91).1 34, 0)]) := fun x => (gall x).trans (g34 (q := qq (ρ.1 19)) samz (EFF.rend srz))
              have tkz : TOK (sS 30 ((σ.1 30) + 1) (fArg (v92) (0) (1) (0) σ91)) := by unfold TOK; rw [ffz.1 19 (by decide), ffz.1 20 (by decide), ffz.1 21 (by decide), ffz.1 22 (by decide), ffz.1 23 (by decide), fP.1 19 (by decide), fP.1 20 (by decide), fP.1 21 (by decide), fP.1 22 (by decide), fP.1 23 (by decide)]; exact bt.2.2.1.1
              have e30z : (sS 30 ((σ.1 30) + 1) (fArg (v92) (0) (1) (0) σ91)).1 30 = ρ.1 30 + 1 := by rw [show (sS 30 ((σ.1 30) + 1) (fArg (v92) (0) (1) (0) σ91)).1 30 = (σ.1 30) + 1 from rs_eq]; omega
              have e19z : (sS 30 ((σ.1 30) + 1) (fArg (v92) (0) (1) (0) σ91)).1 19 = σ81.1 19 := (ffz.1 19 (by decide)).trans (fP.1 19 (by decide))
              have e31z : (sS 30 ((σ.1 30) + 1) (fArg (v92) (0) (1) (0) σ91)).1 31 = σ81.1 31 := (ffz.1 31 (by decide)).trans (fP.1 31 (by decide))
              have e28z : (sS 30 ((σ.1 30) + 1) (fArg (v92) (0) (1) (0) σ91)).1 28 = 0 := by rw [ffz.1 28 (by decide), fP.1 28 (by decide), b28]; exact e28s
              have e29z : (sS 30 ((σ.1 30) + 1) (fArg (v92) (0) (1) (0) σ91)).1 29 = 0 := by rw [ffz.1 29 (by decide), fP.1 29 (by decide), b29]; exact e29s
              have pcz := bt.2.1
              unfold PBC at pcz
              have pl5 : ρ.1 19 + 5 ≤ (sS 30 ((σ.1 30) + 1) (fArg (v92) (0) (1) (0) σ91)).1 19 := by have z6 := bp3.2.2.2.2.2.1; have z7 : (sS 34 0 (sS 33 0 (sS 32 (σ.2.1 35 (σ.1 30)) σ2))).1 19 = σ2.1 19 := rfl; have z8 : (sS 34 0 (sS 33 0 (sS 32 (σ.2.1 35 (σ.1 30)) σ2))).1 34 = 0 := rfl; omega
              exact tm_zret (v := 1) rfl (by decide) dX12_oneRoutine_426 (hret _ _ ((Fr.sub hd.1 (by decide) (by decide) (by decide) : Fr [19, 20, 22, 23, 26, 27, 28, 29, 30, 31, 32, 33, 34, 39, 40, 43] [3, 4, 5, 6, 7, 8, 9, 35, 36, 37, 41, 42, 45] [24, 38, 44] ρ σ).trans ((((((((Fr.rfl.trans (Fr.sub f5 (by decide) (by decide) (by decide))).S (by decide)).S (by decide)).S (by decide)).trans (Fr.sub f84 (by decide) (by decide) (by decide))).trans (Fr.sub f93 (by decide) (by decide) (by decide))).trans (Fr.sub fArg_fr (by decide) (by decide) (by decide))).S (by decide))) (((f94).arg (by omega) (by omega)).S (by omega)) (by omega) pboZ (fun _ => ⟨tkz, ⟨e30z, pl5, by omega, e28z, e29z⟩, _, gz, nrl, (fun z => absurd z (by omega)), (fun z => absurd z (by omega)), (fun z => P1O.mk hd hpa z (show Fr [19, 20, 22, 23, 26, 27, 28, 29, 30, 31, 32, 33, 34, 39, 40] [3, 4, 5, 6, 7, 8, 9, 35, 37, 41, 42] [24, 38] σ (sS 30 ((σ.1 30) + 1) (fArg (v92) (0) (1) (0) σ91)) from ((((((((Fr.rfl.trans (Fr.sub f5 (by decide) (by decide) (by decide))).S (by decide)).S (by decide)).S (by decide)).trans (Fr.sub f84 (by decide) (by decide) (by decide))).trans (Fr.sub f93 (by decide) (by decide) (by decide))).trans (Fr.sub fArg_fr (by decide) (by decide) (by decide))).S (by decide))) (by decide) (by decide) ((show FLT σ (sS 34 0 (sS 33 0 (sS 32 (σ.2.1 35 (σ.1 30)) σ2))) from yn5).trans ((bp3.2.2.2.2.1).trans ((pbP.2.2.2.2.1).trans flz))) (fun r => ⟨by have y1 := (bp3.2.2.2.1 r).1; have y2 := (pbP.2.2.2.1 r).1; have y3 : (sS 34 0 (sS 33 0 (sS 32 (σ.2.1 35 (σ.1 30)) σ2))).2.1 35 r = σ.2.1 35 r := congrFun (yn1.2.1 35 (by decide)) r; have y4 : (sS 30 ((σ.1 30) + 1) (fArg (v92) (0) (1) (0) σ91)).2.1 35 r = (fArg (v92) (0) (1) (0) σ91).2.1 35 r := congrFun (ffz.2.1 35 (by decide)) r; omega, fun y => by have y1 := (bp3.2.2.2.1 r).2 (by rw [e30A]; exact y); have y2 := (pbP.2.2.2.1 r).2 (by rw [e30B]; exact y); have y3 : (sS 34 0 (sS 33 0 (sS 32 (σ.2.1 35 (σ.1 30)) σ2))).2.1 35 r = σ.2.1 35 r := congrFun (yn1.2.1 35 (by decide)) r; have y4 : (sS 30 ((σ.1 30) + 1) (fArg (v92) (0) (1) (0) σ91)).2.1 35 r = (fArg (v92) (0) (1) (0) σ91).2.1 35 r := congrFun (ffz.2.1 35 (by decide)) r; omega⟩)), (fun z => absurd z (by omega))⟩) (fun q => absurd q (by decide)))
            · have vw3 := vw_fr (show Fr [30] [] [] (fArg (v92) (0) (1) (0) σ91) (sS 30 ((fArg (v92) (0) (1) (0) σ91).1 30 + 1) (fArg (v92) (0) (1) (0) σ91)) from Fr.rfl.S (by decide)) (by decide) (by decide) (by decide)
              have sam3 : SAM (fArg (v92) (0) (1) (0) σ91) (sS 30 ((fArg (v92) (0) (1) (0) σ91).1 30 + 1) (fArg (v92) (0) (1) (0) σ91)) := by unfold vw at vw3; exact ⟨congrArg Prod.fst vw3, congrArg (fun z => z.2.1) vw3, congrArg (fun z => z.2.2) vw3⟩
              have srz3 : srt (sS 30 ((fArg (v92) (0) (1) (0) σ91).1 30 + 1) (fArg (v92) (0) (1) (0) σ91)) = srt (reP (ρ.1 19) ((fArg (v92) (0) (1) (0) σ91).1 34) (fArg (v92) (0) (1) (0) σ91)) := by unfold reP; rw [if_neg (by omega)]
              have gz3 : ∀ x, GOS [30] (sS 34 x ρ) (qq 0) [] (sS 30 ((fArg (v92) (0) (1) (0) σ91).1 30 + 1) (fArg (v92) (0) (1) (0) σ91)) (qq 0) (lgb ++ [(0, (fArg (v92) (0) (1) (0) σ91).1 34, 0)]) := fun x => (gall x).trans (g34 (q := qq (ρ.1 19)) sam3 (EFF.rend srz3))
              have hq8 := hoh.2.2.2.2.2.2.2 (by omega) _ _ gz3
              have r6 : ρ.1 30 < 6 := hq8.1 (by rw [nrl]; decide)
              have hq9 := hq8.2
              clear hq8
              have i120 : (fArg (v92) (0) (1) (0) σ91).1 34 ≤ 120 := (hq9 (0, (fArg (v92) (0) (1) (0) σ91).1 34, 0) (List.mem_append_right _ (List.mem_singleton.mpr rfl))).1 rfl
              refine tm_aload_n dX12_oneRoutine_402 rfl 3 rfl ?_
              refine tm_get (k := 9) (v := .ref (b + 1 + 7)) lay_12 dX12_oneRoutine_403 (by decide) fl12_32 rfl ?_
              refine tm_aload_n dX12_oneRoutine_406 rfl 3 rfl ?_
              refine tm_getS (k := 30) (t := σ.1 30) dX12_oneRoutine_407 (by decide) fl12_268 rfl (rs_F fArg_fr (by decide) (rs_F f93 (by decide) (rs_F f84 (by decide) (rs_o (by decide) (rs_o (by decide) (rs_o (by decide) (rs_F f5 (by decide) (rfl)))))))) ?_
              have g110 := RG.s hR 30
              refine tm_aload_n dX12_oneRoutine_410 rfl 3 rfl ?_
              refine tm_getS (k := 34) (t := σ91.1 34) dX12_oneRoutine_411 (by decide) fl12_278 rfl (rs_F fArg_fr (by decide) (rfl)) ?_
              have g111 := RG.s f94 34
              refine tm_iast (z := σ.1 30) (v := σ91.1 34) dX12_oneRoutine_414 (show mT[7]? = some (9, 0, 13) from rfl) (by omega) (by omega) (by decide) ?_
              refine tm_aload_n dX12_oneRoutine_415 rfl 3 rfl ?_
              refine tm_dup dX12_oneRoutine_416 rfl ?_
              refine tm_getS (k := 30) (t := σ.1 30) dX12_oneRoutine_417 (by decide) fl12_268 rfl (rs_A (rs_F fArg_fr (by decide) (rs_F f93 (by decide) (rs_F f84 (by decide) (rs_o (by decide) (rs_o (by decide) (rs_o (by decide) (rs_F f5 (by decide) (rfl))))))))) ?_
              have g112 := RG.s hR 30
              refine tm_iconst dX12_oneRoutine_420 ?_
              refine tm_iadd dX12_oneRoutine_421 ?_
              refine tm_putS (k := 30) (v := (σ.1 30) + 1) lay_12 dX12_oneRoutine_422 (by decide) fl12_268 rfl (tyX12_ok 30 (by decide)) rfl rfl rfl ?_
              refine tm_iconst dX12_oneRoutine_425 ?_
              have ffz := (show Fr [26, 27, 30] [9] [] (fArg (v92) (0) (1) (0) σ91) (sS 30 ((σ.1 30) + 1) (sA 9 (σ.1 30) (σ91.1 34) (fArg (v92) (0) (1) (0) σ91))) from ((Fr.rfl.A (by decide)).S (by decide)))
              have flz : FLT (fArg (v92) (0) (1) (0) σ91) (sS 30 ((σ.1 30) + 1) (sA 9 (σ.1 30) (σ91.1 34) (fArg (v92) (0) (1) (0) σ91))) := (FLT.eq rfl)
              have pboZ : PBO ρ (sS 30 ((σ.1 30) + 1) (sA 9 (σ.1 30) (σ91.1 34) (fArg (v92) (0) (1) (0) σ91))) := pboC.fin ffz flz (fun j z => ra_ne (by omega) rfl)
              have srz : srt (sS 30 ((σ.1 30) + 1) (sA 9 (σ.1 30) (σ91.1 34) (fArg (v92) (0) (1) (0) σ91))) = srt (reP (ρ.1 19) ((fArg (v92) (0) (1) (0) σ91).1 34) (fArg (v92) (0) (1) (0) σ91)) := by have z9 : (fArg (v92) (0) (1) (0) σ91).1 30 = σ.1 30 := by { omega }; unfold reP; rw [if_neg (by omega), z9]; rfl
              have vwz := vw_fr ffz (by decide) (by decide) (by decide)
              have samz : SAM (fArg (v92) (0) (1) (0) σ91) (sS 30 ((σ.1 30) + 1) (sA 9 (σ.1 30) (σ91.1 34) (fArg (v92) (0) (1) (0) σ91))) := by unfold vw at vwz; exact ⟨congrArg Prod.fst vwz, congrArg (fun z => z.2.1) vwz, congrArg (fun z => z.2.2) vwz⟩
              have gz : ∀ x, GOS [30] (sS 34 x ρ) (qq 0) [] (sS 30 ((σ.1 30) + 1) (sA 9 (σ.1 30) (σ91.1 34) (fArg (v92) (0) (1) (0) σ91))) (qq 0) (lgb ++ [(0, (fArg (v92) (0) (1) (0) σ91).1 34, 0)]) := fun x => (gall x).trans (g34 (q := qq (ρ.1 19)) samz (EFF.rend srz))
              have tkz : TOK (sS 30 ((σ.1 30) + 1) (sA 9 (σ.1 30) (σ91.1 34) (fArg (v92) (0) (1) (0) σ91))) := by unfold TOK; rw [ffz.1 19 (by decide), ffz.1 20 (by decide), ffz.1 21 (by decide), ffz.1 22 (by decide), ffz.1 23 (by decide), fP.1 19 (by decide), fP.1 20 (by decide), fP.1 21 (by decide), fP.1 22 (by decide), fP.1 23 (by decide)]; exact bt.2.2.1.1
              have e30z : (sS 30 ((σ.1 30) + 1) (sA 9 (σ.1 30) (σ91.1 34) (fArg (v92) (0) (1) (0) σ91))).1 30 = ρ.1 30 + 1 := by rw [show (sS 30 ((σ.1 30) + 1) (sA 9 (σ.1 30) (σ91.1 34) (fArg (v92) (0) (1) (0) σ91))).1 30 = (σ.1 30) + 1 from rs_eq]; omega
              have e19z : (sS 30 ((σ.1 30) + 1) (sA 9 (σ.1 30) (σ91.1 34) (fArg (v92) (0) (1) (0) σ91))).1 19 = σ81.1 19 := (ffz.1 19 (by decide)).trans (fP.1 19 (by decide))
              have e31z : (sS 30 ((σ.1 30) + 1) (sA 9 (σ.1 30) (σ91.1 34) (fArg (v92) (0) (1) (0) σ91))).1 31 = σ81.1 31 := (ffz.1 31 (by decide)).trans (fP.1 31 (by decide))
              have e28z : (sS 30 ((σ.1 30) + 1) (sA 9 (σ.1 30) (σ91.1 34) (fArg (v92) (0) (1) (0) σ91))).1 28 = 0 := by rw [ffz.1 28 (by decide), fP.1 28 (by decide), b28]; exact e28s
              have e29z : (sS 30 ((σ.1 30) + 1) (sA 9 (σ.1 30) (σ91.1 34) (fArg (v92) (0) (1) (0) σ91))).1 29 = 0 := by rw [ffz.1 29 (by decide), fP.1 29 (by decide), b29]; exact e29s
              have pcz := bt.2.1
              unfold PBC at pcz
              have pl5 : ρ.1 19 + 5 ≤ (sS 30 ((σ.1 30) + 1) (sA 9 (σ.1 30) (σ91.1 34) (fArg (v92) (0) (1) (0) σ91))).1 19 := by have z6 := bp3.2.2.2.2.2.1; have z7 : (sS 34 0 (sS 33 0 (sS 32 (σ.2.1 35 (σ.1 30)) σ2))).1 19 = σ2.1 19 := rfl; have z8 : (sS 34 0 (sS 33 0 (sS 32 (σ.2.1 35 (σ.1 30)) σ2))).1 34 = 0 := rfl; omega
              exact tm_zret (v := 1) rfl (by decide) dX12_oneRoutine_426 (hret _ _ ((Fr.sub hd.1 (by decide) (by decide) (by decide) : Fr [19, 20, 22, 23, 26, 27, 28, 29, 30, 31, 32, 33, 34, 39, 40, 43] [3, 4, 5, 6, 7, 8, 9, 35, 36, 37, 41, 42, 45] [24, 38, 44] ρ σ).trans (((((((((Fr.rfl.trans (Fr.sub f5 (by decide) (by decide) (by decide))).S (by decide)).S (by decide)).S (by decide)).trans (Fr.sub f84 (by decide) (by decide) (by decide))).trans (Fr.sub f93 (by decide) (by decide) (by decide))).trans (Fr.sub fArg_fr (by decide) (by decide) (by decide))).A (by decide)).S (by decide))) ((((f94).arg (by omega) (by omega)).A (by omega)).S (by omega)) (by omega) pboZ (fun _ => ⟨tkz, ⟨e30z, pl5, by omega, e28z, e29z⟩, _, gz, nrl, (fun z => HDM.rmo hdm3 z svC samz (by omega) (by omega) (ffz.1 31 (by decide)) (ffz.1 39 (by decide)) (ffz.1 40 (by decide)) (ffz.2.1 37 (by decide)) (ffz.ri (by decide)) (by rw [e30C, ← e30h]; exact (ra_eq : (sA 9 (σ.1 30) _ _).2.1 9 (σ.1 30) = _))), (fun z => absurd z (by omega)), (fun z => absurd z (by omega)), (fun z => by have q := PLI.mk bs bf (show (sS 34 0 (sS 33 0 (sS 32 (σ.2.1 35 (σ.1 30)) σ2))).1 25 = 3 by have y8 : (sS 34 0 (sS 33 0 (sS 32 (σ.2.1 35 (σ.1 30)) σ2))).1 25 = σ2.1 25 := rfl; omega) (by omega) rfl rfl bp3 bt.2.1 (fun e he => (hq9 e (List.mem_append_left _ he)).tb (pboA.2.1 (by omega)).2.2.2) (by omega) pbP eAP okP k7P bt.2.2.2.1 tbP (show Fr [30] [9] [] (fArg (v92) (0) (1) (0) σ91) (sS 30 ((σ.1 30) + 1) (sA 9 (σ.1 30) (σ91.1 34) (fArg (v92) (0) (1) (0) σ91))) from ((Fr.rfl.A (by decide)).S (by decide))) (by rw [e30A, ← e30h]; exact (ra_eq : (sA 9 (σ.1 30) _ _).2.1 9 (σ.1 30) = _)); rw [e30A] at q; exact q)⟩) (fun q => absurd q (by decide)))
          · refine tm_aload_n dX12_oneRoutine_379 rfl 3 rfl ?_
            refine tm_getS (k := 34) (t := σ91.1 34) dX12_oneRoutine_380 (by decide) fl12_278 rfl (rs_F fArg_fr (by decide) (rfl)) ?_
            have g113 := RG.s f94 34
            refine tm_bipush dX12_oneRoutine_383 (by decide) ?_
            refine tm_icmp_le (tgt := 394) dX12_oneRoutine_385 (by decide) ⟨by omega, by omega⟩ ⟨by decide, by decide⟩ (fun h114 => ?_) (fun h114 => ?_)
            · refine tm_aload_n dX12_oneRoutine_394 rfl 3 rfl ?_
              refine tm_getS (k := 25) (t := σ.1 25) dX12_oneRoutine_395 (by decide) fl12_255 rfl (rs_F fArg_fr (by decide) (rs_F f93 (by decide) (rs_F f84 (by decide) (rs_o (by decide) (rs_o (by decide) (rs_o (by decide) (rs_F f5 (by decide) (rfl)))))))) ?_
              have g115 := RG.s hR 25
              refine tm_iconst dX12_oneRoutine_398 ?_
              refine tm_icmp_ne (tgt := 415) dX12_oneRoutine_399 (by decide) ⟨by omega, by omega⟩ ⟨by decide, by decide⟩ (fun h116 => ?_) (fun h116 => ?_)
              · refine tm_aload_n dX12_oneRoutine_415 rfl 3 rfl ?_
                refine tm_dup dX12_oneRoutine_416 rfl ?_
                refine tm_getS (k := 30) (t := σ.1 30) dX12_oneRoutine_417 (by decide) fl12_268 rfl (rs_F fArg_fr (by decide) (rs_F f93 (by decide) (rs_F f84 (by decide) (rs_o (by decide) (rs_o (by decide) (rs_o (by decide) (rs_F f5 (by decide) (rfl)))))))) ?_
                have g117 := RG.s hR 30
                refine tm_iconst dX12_oneRoutine_420 ?_
                refine tm_iadd dX12_oneRoutine_421 ?_
                refine tm_putS (k := 30) (v := (σ.1 30) + 1) lay_12 dX12_oneRoutine_422 (by decide) fl12_268 rfl (tyX12_ok 30 (by decide)) rfl rfl rfl ?_
                refine tm_iconst dX12_oneRoutine_425 ?_
                have ffz := (show Fr [26, 27, 30] [9] [] (fArg (v92) (0) (1) (0) σ91) (sS 30 ((σ.1 30) + 1) (fArg (v92) (0) (1) (0) σ91)) from (Fr.rfl.S (by decide)))
                have flz : FLT (fArg (v92) (0) (1) (0) σ91) (sS 30 ((σ.1 30) + 1) (fArg (v92) (0) (1) (0) σ91)) := (FLT.eq rfl)
                have pboZ : PBO ρ (sS 30 ((σ.1 30) + 1) (fArg (v92) (0) (1) (0) σ91)) := pboC.fin ffz flz (fun j _ => rfl)
                have srz : srt (sS 30 ((σ.1 30) + 1) (fArg (v92) (0) (1) (0) σ91)) = srt (reP (ρ.1 19) ((fArg (v92) (0) (1) (0) σ91).1 34) (fArg (v92) (0) (1) (0) σ91)) := by have z9 : (fArg (v92) (0) (1) (0) σ91).1 30 = σ.1 30 := by { omega }; unfold reP; rw [if_neg (by omega), z9]
                have vwz := vw_fr ffz (by decide) (by decide) (by decide)
                have samz : SAM (fArg (v92) (0) (1) (0) σ91) (sS 30 ((σ.1 30) + 1) (fArg (v92) (0) (1) (0) σ91)) := by unfold vw at vwz; exact ⟨congrArg Prod.fst vwz, congrArg (fun z => z.2.1) vwz, congrArg (fun z => z.2.2) vwz⟩
                have gz : ∀ x, GOS [30] (sS 34 x ρ) (qq 0) [] (sS 30 ((σ.1 30) + 1) (fArg (v92) (0) (1) (0) σ91)) (qq 0) (lgb ++ [(0, (fArg (v92) (0) (1) (0) σ91).1 34, 0)]) := fun x => (gall x).trans (g34 (q := qq (ρ.1 19)) samz (EFF.rend srz))
                have tkz : TOK (sS 30 ((σ.1 30) + 1) (fArg (v92) (0) (1) (0) σ91)) := by unfold TOK; rw [ffz.1 19 (by decide), ffz.1 20 (by decide), ffz.1 21 (by decide), ffz.1 22 (by decide), ffz.1 23 (by decide), fP.1 19 (by decide), fP.1 20 (by decide), fP.1 21 (by decide), fP.1 22 (by decide), fP.1 23 (by decide)]; exact bt.2.2.1.1
                have e30z : (sS 30 ((σ.1 30) + 1) (fArg (v92) (0) (1) (0) σ91)).1 30 = ρ.1 30 + 1 := by rw [show (sS 30 ((σ.1 30) + 1) (fArg (v92) (0) (1) (0) σ91)).1 30 = (σ.1 30) + 1 from rs_eq]; omega
                have e19z : (sS 30 ((σ.1 30) + 1) (fArg (v92) (0) (1) (0) σ91)).1 19 = σ81.1 19 := (ffz.1 19 (by decide)).trans (fP.1 19 (by decide))
                have e31z : (sS 30 ((σ.1 30) + 1) (fArg (v92) (0) (1) (0) σ91)).1 31 = σ81.1 31 := (ffz.1 31 (by decide)).trans (fP.1 31 (by decide))
                have e28z : (sS 30 ((σ.1 30) + 1) (fArg (v92) (0) (1) (0) σ91)).1 28 = 0 := by rw [ffz.1 28 (by decide), fP.1 28 (by decide), b28]; exact e28s
                have e29z : (sS 30 ((σ.1 30) + 1) (fArg (v92) (0) (1) (0) σ91)).1 29 = 0 := by rw [ffz.1 29 (by decide), fP.1 29 (by decide), b29]; exact e29s
                have pcz := bt.2.1
                unfold PBC at pcz
                have pl5 : ρ.1 19 + 5 ≤ (sS 30 ((σ.1 30) + 1) (fArg (v92) (0) (1) (0) σ91)).1 19 := by have z6 := bp3.2.2.2.2.2.1; have z7 : (sS 34 0 (sS 33 0 (sS 32 (σ.2.1 35 (σ.1 30)) σ2))).1 19 = σ2.1 19 := rfl; have z8 : (sS 34 0 (sS 33 0 (sS 32 (σ.2.1 35 (σ.1 30)) σ2))).1 34 = 0 := rfl; omega
                exact tm_zret (v := 1) rfl (by decide) dX12_oneRoutine_426 (hret _ _ ((Fr.sub hd.1 (by decide) (by decide) (by decide) : Fr [19, 20, 22, 23, 26, 27, 28, 29, 30, 31, 32, 33, 34, 39, 40, 43] [3, 4, 5, 6, 7, 8, 9, 35, 36, 37, 41, 42, 45] [24, 38, 44] ρ σ).trans ((((((((Fr.rfl.trans (Fr.sub f5 (by decide) (by decide) (by decide))).S (by decide)).S (by decide)).S (by decide)).trans (Fr.sub f84 (by decide) (by decide) (by decide))).trans (Fr.sub f93 (by decide) (by decide) (by decide))).trans (Fr.sub fArg_fr (by decide) (by decide) (by decide))).S (by decide))) (((f94).arg (by omega) (by omega)).S (by omega)) (by omega) pboZ (fun _ => ⟨tkz, ⟨e30z, pl5, by omega, e28z, e29z⟩, _, gz, nrl, (fun z => absurd z (by omega)), (fun z1 z2 e he => by rcases List.mem_append.mp he with y | y; exact (bt.2.2.2.2.1 (by have y8 : (sS 34 0 (sS 33 0 (sS 32 (σ.2.1 35 (σ.1 30)) σ2))).1 25 = σ2.1 25 := rfl; omega) (by by_cases y9 : σ81.1 26 = 0; exact y9; exact absurd z2 (((pbP.2.2.2.2.1).trans flz).1 y9)) e y).bt (pboA.2.1 (by omega)).2.2.2; rw [List.mem_singleton.mp y]; exact ⟨fun _ => by show (fArg (v92) (0) (1) (0) σ91).1 34 ≤ 120; omega, fun q => absurd (show (0 : Int) = 1 from q) (by decide)⟩), (fun z => absurd z (by omega)), (fun z => absurd z (by omega))⟩) (fun q => absurd q (by decide)))
              · have vw3 := vw_fr (show Fr [30] [] [] (fArg (v92) (0) (1) (0) σ91) (sS 30 ((fArg (v92) (0) (1) (0) σ91).1 30 + 1) (fArg (v92) (0) (1) (0) σ91)) from Fr.rfl.S (by decide)) (by decide) (by decide) (by decide)
                have sam3 : SAM (fArg (v92) (0) (1) (0) σ91) (sS 30 ((fArg (v92) (0) (1) (0) σ91).1 30 + 1) (fArg (v92) (0) (1) (0) σ91)) := by unfold vw at vw3; exact ⟨congrArg Prod.fst vw3, congrArg (fun z => z.2.1) vw3, congrArg (fun z => z.2.2) vw3⟩
                have srz3 : srt (sS 30 ((fArg (v92) (0) (1) (0) σ91).1 30 + 1) (fArg (v92) (0) (1) (0) σ91)) = srt (reP (ρ.1 19) ((fArg (v92) (0) (1) (0) σ91).1 34) (fArg (v92) (0) (1) (0) σ91)) := by unfold reP; rw [if_neg (by omega)]
                have gz3 : ∀ x, GOS [30] (sS 34 x ρ) (qq 0) [] (sS 30 ((fArg (v92) (0) (1) (0) σ91).1 30 + 1) (fArg (v92) (0) (1) (0) σ91)) (qq 0) (lgb ++ [(0, (fArg (v92) (0) (1) (0) σ91).1 34, 0)]) := fun x => (gall x).trans (g34 (q := qq (ρ.1 19)) sam3 (EFF.rend srz3))
                have hq8 := hoh.2.2.2.2.2.2.2 (by omega) _ _ gz3
                have r6 : ρ.1 30 < 6 := hq8.1 (by rw [nrl]; decide)
                have hq9 := hq8.2
                clear hq8
                have i120 : (fArg (v92) (0) (1) (0) σ91).1 34 ≤ 120 := (hq9 (0, (fArg (v92) (0) (1) (0) σ91).1 34, 0) (List.mem_append_right _ (List.mem_singleton.mpr rfl))).1 rfl
                refine tm_aload_n dX12_oneRoutine_402 rfl 3 rfl ?_
                refine tm_get (k := 9) (v := .ref (b + 1 + 7)) lay_12 dX12_oneRoutine_403 (by decide) fl12_32 rfl ?_
                refine tm_aload_n dX12_oneRoutine_406 rfl 3 rfl ?_
                refine tm_getS (k := 30) (t := σ.1 30) dX12_oneRoutine_407 (by decide) fl12_268 rfl (rs_F fArg_fr (by decide) (rs_F f93 (by decide) (rs_F f84 (by decide) (rs_o (by decide) (rs_o (by decide) (rs_o (by decide) (rs_F f5 (by decide) (rfl)))))))) ?_
                have g118 := RG.s hR 30
                refine tm_aload_n dX12_oneRoutine_410 rfl 3 rfl ?_
                refine tm_getS (k := 34) (t := σ91.1 34) dX12_oneRoutine_411 (by decide) fl12_278 rfl (rs_F fArg_fr (by decide) (rfl)) ?_
                have g119 := RG.s f94 34
                refine tm_iast (z := σ.1 30) (v := σ91.1 34) dX12_oneRoutine_414 (show mT[7]? = some (9, 0, 13) from rfl) (by omega) (by omega) (by decide) ?_
                refine tm_aload_n dX12_oneRoutine_415 rfl 3 rfl ?_
                refine tm_dup dX12_oneRoutine_416 rfl ?_
                refine tm_getS (k := 30) (t := σ.1 30) dX12_oneRoutine_417 (by decide) fl12_268 rfl (rs_A (rs_F fArg_fr (by decide) (rs_F f93 (by decide) (rs_F f84 (by decide) (rs_o (by decide) (rs_o (by decide) (rs_o (by decide) (rs_F f5 (by decide) (rfl))))))))) ?_
                have g120 := RG.s hR 30
                refine tm_iconst dX12_oneRoutine_420 ?_
                refine tm_iadd dX12_oneRoutine_421 ?_
                refine tm_putS (k := 30) (v := (σ.1 30) + 1) lay_12 dX12_oneRoutine_422 (by decide) fl12_268 rfl (tyX12_ok 30 (by decide)) rfl rfl rfl ?_
                refine tm_iconst dX12_oneRoutine_425 ?_
                exact tm_zret (v := 1) rfl (by decide) dX12_oneRoutine_426 ((by exfalso; omega))
            · refine tm_aload_n dX12_oneRoutine_388 rfl 3 rfl ?_
              refine tm_iconst dX12_oneRoutine_389 ?_
              refine tm_iload_n dX12_oneRoutine_390 rfl 2 rfl ?_
              refine tm_callV (M := m_X12_oneRoutine) (pc := 391) (ix := 274) (M' := m_X12_note) (As := [.int (iI 5), .int (iI p)]) (rest := []) dX12_oneRoutine_391 ok_X12_note im_X12_note se_X12_note ml12_274 np_X12_note rfl rfl (Nat.le_of_ble_eq_true rfl) (Nat.le_of_ble_eq_true rfl) rfl (c2_X12_note (d + 61) (σ := (fArg (v92) (0) (1) (0) σ91)) (f := 5) (p := p) ((f94).arg (by omega) (by omega)) (by omega) (by omega)) (fun r121 σ122 hp => ?_)
              obtain ⟨rfl, f124, f125, f126, f127, f128⟩ := hp
              show Tm _ _ 394 b σ122 [(4, .int (iI v92)), (2, .int (iI m)), (1, .int (iI p)), (0, .ref b)] [] _
              have ntf := f126
              have ntn := f127
              have nt4 := f128
              refine tm_aload_n dX12_oneRoutine_394 rfl 3 rfl ?_
              refine tm_getS (k := 25) (t := σ.1 25) dX12_oneRoutine_395 (by decide) fl12_255 rfl (rs_F f124 (by decide) (rs_F fArg_fr (by decide) (rs_F f93 (by decide) (rs_F f84 (by decide) (rs_o (by decide) (rs_o (by decide) (rs_o (by decide) (rs_F f5 (by decide) (rfl))))))))) ?_
              have g129 := RG.s hR 25
              refine tm_iconst dX12_oneRoutine_398 ?_
              refine tm_icmp_ne (tgt := 415) dX12_oneRoutine_399 (by decide) ⟨by omega, by omega⟩ ⟨by decide, by decide⟩ (fun h130 => ?_) (fun h130 => ?_)
              · refine tm_aload_n dX12_oneRoutine_415 rfl 3 rfl ?_
                refine tm_dup dX12_oneRoutine_416 rfl ?_
                refine tm_getS (k := 30) (t := σ.1 30) dX12_oneRoutine_417 (by decide) fl12_268 rfl (rs_F f124 (by decide) (rs_F fArg_fr (by decide) (rs_F f93 (by decide) (rs_F f84 (by decide) (rs_o (by decide) (rs_o (by decide) (rs_o (by decide) (rs_F f5 (by decide) (rfl))))))))) ?_
                have g131 := RG.s hR 30
                refine tm_iconst dX12_oneRoutine_420 ?_
                refine tm_iadd dX12_oneRoutine_421 ?_
                refine tm_putS (k := 30) (v := (σ.1 30) + 1) lay_12 dX12_oneRoutine_422 (by decide) fl12_268 rfl (tyX12_ok 30 (by decide)) rfl rfl rfl ?_
                refine tm_iconst dX12_oneRoutine_425 ?_
                have ffz := (show Fr [26, 27, 30] [9] [] (fArg (v92) (0) (1) (0) σ91) (sS 30 ((σ.1 30) + 1) σ122) from ((Fr.rfl.trans (Fr.sub f124 (by decide) (by decide) (by decide))).S (by decide)))
                have flz : FLT (fArg (v92) (0) (1) (0) σ91) (sS 30 ((σ.1 30) + 1) σ122) := ntf
                have pboZ : PBO ρ (sS 30 ((σ.1 30) + 1) σ122) := pboC.fin ffz flz (fun j _ => congrFun ((show Fr [26, 27] [] [] (fArg (v92) (0) (1) (0) σ91) σ122 from f124).2.1 9 (by decide)) j)
                have srz : srt (sS 30 ((σ.1 30) + 1) σ122) = srt (reP (ρ.1 19) ((fArg (v92) (0) (1) (0) σ91).1 34) (fArg (v92) (0) (1) (0) σ91)) := by have z9 : (fArg (v92) (0) (1) (0) σ91).1 30 = σ.1 30 := by { omega }; unfold reP; rw [if_pos ⟨by omega, by omega⟩, ← hp, ← nt4, z9]
                have vwz := vw_fr ffz (by decide) (by decide) (by decide)
                have samz : SAM (fArg (v92) (0) (1) (0) σ91) (sS 30 ((σ.1 30) + 1) σ122) := by unfold vw at vwz; exact ⟨congrArg Prod.fst vwz, congrArg (fun z => z.2.1) vwz, congrArg (fun z => z.2.2) vwz⟩
                have gz : ∀ x, GOS [30] (sS 34 x ρ) (qq 0) [] (sS 30 ((σ.1 30) + 1) σ122) (qq 0) (lgb ++ [(0, (fArg (v92) (0) (1) (0) σ91).1 34, 0)]) := fun x => (gall x).trans (g34 (q := qq (ρ.1 19)) samz (EFF.rend srz))
                have tkz : TOK (sS 30 ((σ.1 30) + 1) σ122) := by unfold TOK; rw [ffz.1 19 (by decide), ffz.1 20 (by decide), ffz.1 21 (by decide), ffz.1 22 (by decide), ffz.1 23 (by decide), fP.1 19 (by decide), fP.1 20 (by decide), fP.1 21 (by decide), fP.1 22 (by decide), fP.1 23 (by decide)]; exact bt.2.2.1.1
                have e30z : (sS 30 ((σ.1 30) + 1) σ122).1 30 = ρ.1 30 + 1 := by rw [show (sS 30 ((σ.1 30) + 1) σ122).1 30 = (σ.1 30) + 1 from rs_eq]; omega
                have e19z : (sS 30 ((σ.1 30) + 1) σ122).1 19 = σ81.1 19 := (ffz.1 19 (by decide)).trans (fP.1 19 (by decide))
                have e31z : (sS 30 ((σ.1 30) + 1) σ122).1 31 = σ81.1 31 := (ffz.1 31 (by decide)).trans (fP.1 31 (by decide))
                have e28z : (sS 30 ((σ.1 30) + 1) σ122).1 28 = 0 := by rw [ffz.1 28 (by decide), fP.1 28 (by decide), b28]; exact e28s
                have e29z : (sS 30 ((σ.1 30) + 1) σ122).1 29 = 0 := by rw [ffz.1 29 (by decide), fP.1 29 (by decide), b29]; exact e29s
                have pcz := bt.2.1
                unfold PBC at pcz
                have pl5 : ρ.1 19 + 5 ≤ (sS 30 ((σ.1 30) + 1) σ122).1 19 := by have z6 := bp3.2.2.2.2.2.1; have z7 : (sS 34 0 (sS 33 0 (sS 32 (σ.2.1 35 (σ.1 30)) σ2))).1 19 = σ2.1 19 := rfl; have z8 : (sS 34 0 (sS 33 0 (sS 32 (σ.2.1 35 (σ.1 30)) σ2))).1 34 = 0 := rfl; omega
                exact tm_zret (v := 1) rfl (by decide) dX12_oneRoutine_426 (hret _ _ ((Fr.sub hd.1 (by decide) (by decide) (by decide) : Fr [19, 20, 22, 23, 26, 27, 28, 29, 30, 31, 32, 33, 34, 39, 40, 43] [3, 4, 5, 6, 7, 8, 9, 35, 36, 37, 41, 42, 45] [24, 38, 44] ρ σ).trans (((((((((Fr.rfl.trans (Fr.sub f5 (by decide) (by decide) (by decide))).S (by decide)).S (by decide)).S (by decide)).trans (Fr.sub f84 (by decide) (by decide) (by decide))).trans (Fr.sub f93 (by decide) (by decide) (by decide))).trans (Fr.sub fArg_fr (by decide) (by decide) (by decide))).trans (Fr.sub f124 (by decide) (by decide) (by decide))).S (by decide))) (f125.S (by omega)) (by omega) pboZ (fun _ => ⟨tkz, ⟨e30z, pl5, by omega, e28z, e29z⟩, _, gz, nrl, (fun z => absurd z (by omega)), (fun z1 z2 => absurd z2 (by have y := ntn (by omega); exact y)), (fun z => absurd z (by omega)), (fun z => absurd z (by omega))⟩) (fun q => absurd q (by decide)))
              · have vw3 := vw_fr (show Fr [30] [] [] (fArg (v92) (0) (1) (0) σ91) (sS 30 ((fArg (v92) (0) (1) (0) σ91).1 30 + 1) (fArg (v92) (0) (1) (0) σ91)) from Fr.rfl.S (by decide)) (by decide) (by decide) (by decide)
                have sam3 : SAM (fArg (v92) (0) (1) (0) σ91) (sS 30 ((fArg (v92) (0) (1) (0) σ91).1 30 + 1) (fArg (v92) (0) (1) (0) σ91)) := by unfold vw at vw3; exact ⟨congrArg Prod.fst vw3, congrArg (fun z => z.2.1) vw3, congrArg (fun z => z.2.2) vw3⟩
                have srz3 : srt (sS 30 ((fArg (v92) (0) (1) (0) σ91).1 30 + 1) (fArg (v92) (0) (1) (0) σ91)) = srt (reP (ρ.1 19) ((fArg (v92) (0) (1) (0) σ91).1 34) (fArg (v92) (0) (1) (0) σ91)) := by unfold reP; rw [if_neg (by omega)]
                have gz3 : ∀ x, GOS [30] (sS 34 x ρ) (qq 0) [] (sS 30 ((fArg (v92) (0) (1) (0) σ91).1 30 + 1) (fArg (v92) (0) (1) (0) σ91)) (qq 0) (lgb ++ [(0, (fArg (v92) (0) (1) (0) σ91).1 34, 0)]) := fun x => (gall x).trans (g34 (q := qq (ρ.1 19)) sam3 (EFF.rend srz3))
                have hq8 := hoh.2.2.2.2.2.2.2 (by omega) _ _ gz3
                have r6 : ρ.1 30 < 6 := hq8.1 (by rw [nrl]; decide)
                have hq9 := hq8.2
                clear hq8
                have i120 : (fArg (v92) (0) (1) (0) σ91).1 34 ≤ 120 := (hq9 (0, (fArg (v92) (0) (1) (0) σ91).1 34, 0) (List.mem_append_right _ (List.mem_singleton.mpr rfl))).1 rfl
                refine tm_aload_n dX12_oneRoutine_402 rfl 3 rfl ?_
                refine tm_get (k := 9) (v := .ref (b + 1 + 7)) lay_12 dX12_oneRoutine_403 (by decide) fl12_32 rfl ?_
                refine tm_aload_n dX12_oneRoutine_406 rfl 3 rfl ?_
                refine tm_getS (k := 30) (t := σ.1 30) dX12_oneRoutine_407 (by decide) fl12_268 rfl (rs_F f124 (by decide) (rs_F fArg_fr (by decide) (rs_F f93 (by decide) (rs_F f84 (by decide) (rs_o (by decide) (rs_o (by decide) (rs_o (by decide) (rs_F f5 (by decide) (rfl))))))))) ?_
                have g132 := RG.s hR 30
                refine tm_aload_n dX12_oneRoutine_410 rfl 3 rfl ?_
                refine tm_getS (k := 34) (t := σ91.1 34) dX12_oneRoutine_411 (by decide) fl12_278 rfl (rs_F f124 (by decide) (rs_F fArg_fr (by decide) (rfl))) ?_
                have g133 := RG.s f94 34
                refine tm_iast (z := σ.1 30) (v := σ91.1 34) dX12_oneRoutine_414 (show mT[7]? = some (9, 0, 13) from rfl) (by omega) (by omega) (by decide) ?_
                refine tm_aload_n dX12_oneRoutine_415 rfl 3 rfl ?_
                refine tm_dup dX12_oneRoutine_416 rfl ?_
                refine tm_getS (k := 30) (t := σ.1 30) dX12_oneRoutine_417 (by decide) fl12_268 rfl (rs_A (rs_F f124 (by decide) (rs_F fArg_fr (by decide) (rs_F f93 (by decide) (rs_F f84 (by decide) (rs_o (by decide) (rs_o (by decide) (rs_o (by decide) (rs_F f5 (by decide) (rfl)))))))))) ?_
                have g134 := RG.s hR 30
                refine tm_iconst dX12_oneRoutine_420 ?_
                refine tm_iadd dX12_oneRoutine_421 ?_
                refine tm_putS (k := 30) (v := (σ.1 30) + 1) lay_12 dX12_oneRoutine_422 (by decide) fl12_268 rfl (tyX12_ok 30 (by decide)) rfl rfl rfl ?_
                refine tm_iconst dX12_oneRoutine_425 ?_
                exact tm_zret (v := 1) rfl (by decide) dX12_oneRoutine_426 ((by exfalso; omega))
        · refine tm_iconst dX12_oneRoutine_350 ?_
          exact tm_zret (v := 0) rfl (by decide) dX12_oneRoutine_351 (hret _ _ ((Fr.sub hd.1 (by decide) (by decide) (by decide) : Fr [19, 20, 22, 23, 26, 27, 28, 29, 30, 31, 32, 33, 34, 39, 40, 43] [3, 4, 5, 6, 7, 8, 9, 35, 36, 37, 41, 42, 45] [24, 38, 44] ρ σ).trans (((((Fr.rfl.trans (Fr.sub f5 (by decide) (by decide) (by decide))).S (by decide)).S (by decide)).S (by decide)).trans (Fr.sub f84 (by decide) (by decide) (by decide)))) f85 (by omega) (pboA.pb e30A bp3 (by show (0 : Int) ≤ 0; decide) bp1 (by decide) (by decide) (by decide)) (fun q => absurd q (by omega)) (fun _ x => (g35_ x).fail ((bp5 (by omega) _).more [51, 34])))
    · refine tm_iconst dX12_oneRoutine_307 ?_
      exact tm_zret (v := 0) rfl (by decide) dX12_oneRoutine_308 (hret _ _ ((Fr.sub hd.1 (by decide) (by decide) (by decide) : Fr [19, 20, 22, 23, 26, 27, 28, 29, 30, 31, 32, 33, 34, 39, 40, 43] [3, 4, 5, 6, 7, 8, 9, 35, 36, 37, 41, 42, 45] [24, 38, 44] ρ σ).trans (Fr.rfl.trans (Fr.sub f5 (by decide) (by decide) (by decide)))) f6 (by omega) (hd.pbo.nd yn1 yn5) (fun q => absurd q (by omega)) (fun _ => (hgx.fail (fun x => gf_41 (σ := sS 34 x σ) (yn4 (by omega)) ((yn6 (by omega)).x x)))))
end
section
theorem ra_at {k : Nat} {i j v : Int} {σ : MS} (h : i = j) : (sA k i v σ).2.1 k j = v := by rw [← h]; exact ra_eq

theorem fl12_66 : Cond.fieldLink RX12 66 (TX12 36).1 (TX12 36).2.1 (TX12 36).2.2.1 ∈ pWW := pw7 (List.mem_of_getElem? (i := 43) rfl) rfl
theorem dX12_oneRoutine_81 : decode cX12_oneRoutine 81 = .ok (.aload_n 0, 1) := by decide +kernel
theorem dX12_oneRoutine_82 : decode cX12_oneRoutine 82 = .ok (.invokevirtual 265, 3) := by decide +kernel
theorem dX12_oneRoutine_85 : decode cX12_oneRoutine 85 = .ok (.aload_n 0, 1) := by decide +kernel
theorem dX12_oneRoutine_86 : decode cX12_oneRoutine 86 = .ok (.bipush 40, 2) := by decide +kernel
theorem dX12_oneRoutine_88 : decode cX12_oneRoutine 88 = .ok (.invokevirtual 330, 3) := by decide +kernel
theorem dX12_oneRoutine_91 : decode cX12_oneRoutine 91 = .ok (.ifCond .ne 5, 3) := by decide +kernel
theorem dX12_oneRoutine_96 : decode cX12_oneRoutine 96 = .ok (.iconst 0, 1) := by decide +kernel
theorem dX12_oneRoutine_97 : decode cX12_oneRoutine 97 = .ok (.istore_n 2, 1) := by decide +kernel
theorem dX12_oneRoutine_98 : decode cX12_oneRoutine 98 = .ok (.aload_n 0, 1) := by decide +kernel
theorem dX12_oneRoutine_99 : decode cX12_oneRoutine 99 = .ok (.bipush 41, 2) := by decide +kernel
theorem dX12_oneRoutine_101 : decode cX12_oneRoutine 101 = .ok (.invokevirtual 258, 3) := by decide +kernel
theorem dX12_oneRoutine_104 : decode cX12_oneRoutine 104 = .ok (.ifCond .ne 7, 3) := by decide +kernel
theorem dX12_oneRoutine_111 : decode cX12_oneRoutine 111 = .ok (.iconst 0, 1) := by decide +kernel
theorem dX12_oneRoutine_112 : decode cX12_oneRoutine 112 = .ok (.istore_n 3, 1) := by decide +kernel
theorem dX12_oneRoutine_252 : decode cX12_oneRoutine 252 = .ok (.aload_n 0, 1) := by decide +kernel
theorem dX12_oneRoutine_253 : decode cX12_oneRoutine 253 = .ok (.getfield 255, 3) := by decide +kernel
theorem dX12_oneRoutine_256 : decode cX12_oneRoutine 256 = .ok (.iconst 1, 1) := by decide +kernel
theorem dX12_oneRoutine_257 : decode cX12_oneRoutine 257 = .ok (.if_icmp .ne 41, 3) := by decide +kernel
theorem dX12_oneRoutine_260 : decode cX12_oneRoutine 260 = .ok (.aload_n 0, 1) := by decide +kernel
theorem dX12_oneRoutine_261 : decode cX12_oneRoutine 261 = .ok (.getfield 85, 3) := by decide +kernel
theorem dX12_oneRoutine_264 : decode cX12_oneRoutine 264 = .ok (.aload_n 0, 1) := by decide +kernel
theorem dX12_oneRoutine_265 : decode cX12_oneRoutine 265 = .ok (.getfield 376, 3) := by decide +kernel
theorem dX12_oneRoutine_268 : decode cX12_oneRoutine 268 = .ok (.iconst 1, 1) := by decide +kernel
theorem dX12_oneRoutine_269 : decode cX12_oneRoutine 269 = .ok (.isub, 1) := by decide +kernel
theorem dX12_oneRoutine_270 : decode cX12_oneRoutine 270 = .ok (.iload_n 2, 1) := by decide +kernel
theorem dX12_oneRoutine_271 : decode cX12_oneRoutine 271 = .ok (.iastore, 1) := by decide +kernel
theorem dX12_oneRoutine_272 : decode cX12_oneRoutine 272 = .ok (.aload_n 0, 1) := by decide +kernel
theorem dX12_oneRoutine_273 : decode cX12_oneRoutine 273 = .ok (.invokevirtual 271, 3) := by decide +kernel
theorem dX12_oneRoutine_276 : decode cX12_oneRoutine 276 = .ok (.ifCond .eq 22, 3) := by decide +kernel
theorem dX12_oneRoutine_279 : decode cX12_oneRoutine 279 = .ok (.aload_n 0, 1) := by decide +kernel
theorem dX12_oneRoutine_280 : decode cX12_oneRoutine 280 = .ok (.getfield 66, 3) := by decide +kernel
theorem dX12_oneRoutine_283 : decode cX12_oneRoutine 283 = .ok (.aload_n 0, 1) := by decide +kernel
theorem dX12_oneRoutine_284 : decode cX12_oneRoutine 284 = .ok (.getfield 268, 3) := by decide +kernel
theorem dX12_oneRoutine_287 : decode cX12_oneRoutine 287 = .ok (.iload_n 2, 1) := by decide +kernel
theorem dX12_oneRoutine_288 : decode cX12_oneRoutine 288 = .ok (.iconst 4, 1) := by decide +kernel
theorem dX12_oneRoutine_289 : decode cX12_oneRoutine 289 = .ok (.if_icmp .le 7, 3) := by decide +kernel
theorem dX12_oneRoutine_296 : decode cX12_oneRoutine 296 = .ok (.iload_n 2, 1) := by decide +kernel
theorem dX12_oneRoutine_297 : decode cX12_oneRoutine 297 = .ok (.iastore, 1) := by decide +kernel
theorem dX12_oneRoutine_292 : decode cX12_oneRoutine 292 = .ok (.iconst 4, 1) := by decide +kernel
theorem dX12_oneRoutine_293 : decode cX12_oneRoutine 293 = .ok (.goto 4, 3) := by decide +kernel
theorem dX12_oneRoutine_107 : decode cX12_oneRoutine 107 = .ok (.iconst 1, 1) := by decide +kernel
theorem dX12_oneRoutine_108 : decode cX12_oneRoutine 108 = .ok (.goto 4, 3) := by decide +kernel
theorem dX12_oneRoutine_94 : decode cX12_oneRoutine 94 = .ok (.iconst 0, 1) := by decide +kernel
theorem dX12_oneRoutine_95 : decode cX12_oneRoutine 95 = .ok (.ireturn, 1) := by decide +kernel
set_option maxHeartbeats 4000000 in
set_option maxRecDepth 20000 in
theorem b_one81 (d : Nat) {b : Nat} {σ : MS} {p : Int} {ρ : MS} {post : Option Value → MS → Prop} (hR : RG σ) (hoh : ORH ρ) (hd : HD ρ σ) (hf8 : Fr [26, 27, 43] [] [44] ρ σ) (hnm : NMW ρ) (hsr : srt σ = srt (rnP (ρ.2.2 24 0) (ρ.1 19) ρ)) (hp : p = ρ.1 19) (h_p : -2147483648 ≤ p ∧ p ≤ 2147483647) (hret : ∀ (v : Int) (τ : MS), Fr [19, 20, 22, 23, 26, 27, 28, 29, 30, 31, 32, 33, 34, 39, 40, 43] [3, 4, 5, 6, 7, 8, 9, 35, 36, 37, 41, 42, 45] [24, 38, 44] ρ τ → RG τ → (v = 0 ∨ v = 1) → PBO ρ τ → (v = 1 → ORQ ρ τ) → (v = 0 → ∀ x, GOF [30] (sS 34 x ρ) (qq 0) τ) → post (some (.int (iI v))) τ) : ∀ (n : Nat) , ((0 : Int)).toNat = n → Tm (d + 63) m_X12_oneRoutine 81 b σ [(1, .int (iI p)), (0, .ref b)] [] post := by
  intro n
  induction n using Nat.strongRecOn with
  | _ n ih =>
    intro   hm
    have oh30 := hoh.2.2.1
    have oht := hoh.1.1
    have f8 := hf8
    have nmσ : NMW σ := (NMW.bk hf8 (by decide) (by decide)).mpr hnm
    have hnz : ρ.1 22 ≠ 0 := by have z := hnm.1; omega
    have szρ := hoh.1.2.1 hnz
    refine tm_aload_n dX12_oneRoutine_81 rfl 1 rfl ?_
    refine tm_callV (M := m_X12_oneRoutine) (pc := 82) (ix := 265) (M' := m_X12_advance) (As := []) (rest := []) dX12_oneRoutine_82 ok_X12_advance im_X12_advance se_X12_advance ml12_265 np_X12_advance rfl rfl (Nat.le_of_ble_eq_true rfl) (Nat.le_of_ble_eq_true rfl) rfl (c_X12_advance (d + 57) (σ := σ)  hR (by rw [hf8.1 20 (by decide), hf8.1 21 (by decide)]; omega)) (fun r1 σ2 hp => ?_)
    obtain ⟨rfl, f4, f5, f6, f7, f8⟩ := hp
    show Tm _ _ 85 b σ2 [(1, .int (iI p)), (0, .ref b)] [] _
    have ad0 := f4
    have ad1 := f5
    have ad2 := f6
    have ad3 := f7
    have ad4 := f8
    have gx1 : GOX [30] ρ (qq 0) [140, 31] σ2 (qq (ρ.1 19)) := fun x => wx30 (σ := sS 34 x ρ) (τ := sS 34 x σ2) (q := qq 0) hnm (show tks σ2 = advT (sv ρ) (ρ.1 20) by rw [ad0.1, sv_fr hf8 (by decide) (by decide), hf8.1 20 (by decide)]) (show (σ2.1 28, σ2.1 29, x) = (ρ.1 28, ρ.1 29, x) by rw [ad1.1 28 (by decide), ad1.1 29 (by decide), hf8.1 28 (by decide), hf8.1 29 (by decide)]) (show sv σ2 = sv ρ by rw [ad0.2.2.1, sv_fr hf8 (by decide) (by decide)]) (EFF.rout ((show srt (sS 34 x σ2) = _ from ad0.2.2.2).trans (hsr.trans (srt_rn (A := ρ) (σ := sS 34 x ρ) rfl))))
    have pb1 : PBF σ σ2 := PBF.nop hd.2.2.1 ad1 (by decide) (by decide) (by decide)
    have pl1 : ρ.1 19 + 1 ≤ σ2.1 19 := by have z := ad4; rw [hf8.1 20 (by decide)] at z; omega
    have tk1 := ad3.1
    have hd1 : HD ρ σ2 := hd.pb (show Fr [19, 20, 22, 23, 26, 27] [35] [24, 38] σ σ2 from (Fr.rfl.trans (Fr.sub f5 (by decide) (by decide) (by decide)))) pb1
    refine tm_aload_n dX12_oneRoutine_85 rfl 1 rfl ?_
    refine tm_bipush dX12_oneRoutine_86 (by decide) ?_
    refine tm_callV (M := m_X12_oneRoutine) (pc := 88) (ix := 330) (M' := m_X12_need) (As := [.int (iI 40)]) (rest := []) dX12_oneRoutine_88 ok_X12_need im_X12_need se_X12_need ml12_330 np_X12_need rfl rfl (Nat.le_of_ble_eq_true rfl) (Nat.le_of_ble_eq_true rfl) rfl (c_X12_need (d + 56) (σ := σ2) (c := 40) f6 (by omega) (by omega)) (fun r9 σ10 hp => ?_)
    obtain ⟨v11, rfl, f12, f13, f14, f15, f16, f17, f18⟩ := hp
    show Tm _ _ 91 b σ10 [(1, .int (iI p)), (0, .ref b)] [.int (iI v11)] _
    have yn0 := f12
    have yn1 := f13
    have yn2 := f14
    have yn3 := f15
    have yn4 := f16
    have yn5 := f17
    have yn6 := f18
    refine tm_if_ne (tgt := 96) dX12_oneRoutine_91 (by decide) ⟨by omega, by omega⟩ (fun h19 => ?_) (fun h19 => ?_)
    · have ynq := yn3 (by omega)
      have gx2 : GOX [30] ρ (qq 0) [31] σ10 (qq (ρ.1 19)) := gx1.nxt (fun x => wxn_40 ynq.1 (ynq.2.1.any x))
      have pb2 : PBF _ σ10 := PBF.of pb1.2.2.1 yn1 (by decide) (by decide) (by decide) yn5
      have hd2 : HD ρ σ10 := hd1.pb (Fr.sub yn1 (by decide) (by decide) (by decide)) pb2
      have tk2 := ynq.2.2.1.1
      have pl2 : ρ.1 19 + 2 ≤ σ10.1 19 := by have z := ynq.2.2.2.1; have z2 := ad3.2.1 (by have z := ynq.1.1; omega); omega
      have R96 := f14
      refine tm_iconst dX12_oneRoutine_96 ?_
      refine tm_istore_n (L' := [(2, .int (iI 0)), (1, .int (iI p)), (0, .ref b)]) dX12_oneRoutine_97 rfl (by decide) rfl ?_
      refine tm_aload_n dX12_oneRoutine_98 rfl 2 rfl ?_
      refine tm_bipush dX12_oneRoutine_99 (by decide) ?_
      refine tm_callV (M := m_X12_oneRoutine) (pc := 101) (ix := 258) (M' := m_X12_isSign) (As := [.int (iI 41)]) (rest := []) dX12_oneRoutine_101 ok_X12_isSign im_X12_isSign se_X12_isSign ml12_258 np_X12_isSign rfl rfl (Nat.le_of_ble_eq_true rfl) (Nat.le_of_ble_eq_true rfl) rfl (c2_X12_isSign (d + 61) (σ := σ10) (c := 41) R96 (by omega)) (fun r20 σ21 hp => ?_)
      obtain ⟨v22, rfl, rfl, f23, f24, f25⟩ := hp
      show Tm _ _ 104 b σ10 [(2, .int (iI 0)), (1, .int (iI p)), (0, .ref b)] [.int (iI v22)] _
      have i41 := f24
      have n41_ := f25
      refine tm_if_ne (tgt := 111) dX12_oneRoutine_104 (by decide) ⟨by omega, by omega⟩ (fun h32 => ?_) (fun h32 => ?_)
      · refine tm_iconst dX12_oneRoutine_111 ?_
        refine tm_istore_n (L' := [(3, .int (iI 0)), (2, .int (iI 0)), (1, .int (iI p)), (0, .ref b)]) dX12_oneRoutine_112 rfl (by decide) rfl ?_
        refine tm_sub [0, 1, 2, 3] rfl (l_par (d + 56) (σ0 := σ10) (p := p) (ρ := ρ) f14 hoh hd2 (fun m44 mo45 σ46 F36 R37 f38 f39 f40 f41 f42 f43 => ?_) (fun v τ z1 z2 z3 z4 z5 => hret _ _ ((Fr.sub hd2.1 (by decide) (by decide) (by decide) : Fr [19, 20, 22, 23, 26, 27, 28, 29, 30, 31, 32, 33, 34, 39, 40, 43] [3, 4, 5, 6, 7, 8, 9, 35, 36, 37, 41, 42, 45] [24, 38, 44] ρ σ10).trans (Fr.sub z2 (by decide) (by decide) (by decide))) z3 (Or.inl z1) ((hd2.pb z2 z4).pbo) (fun q => absurd q (by omega)) (fun _ => z5)) _ (0) (0) σ10 Fr.rfl f14 (by omega) ynq.2.2.1 (PBF.nop pb2.2.2.1 (Fr.rfl : Fr [] [] [] _ _) (by decide) (by decide) (by decide)) ⟨fun q => absurd q (by decide), fun _ => Or.inl ⟨gx2, i41 (by omega)⟩⟩ (fun _ z2 _ => ⟨by decide, (hd2.2.2.1 (ρ.1 30) oh30.1 z2).1⟩) (Int.le_refl _) rfl)
        show Tm _ _ 252 b σ46 [(3, .int (iI mo45)), (2, .int (iI m44)), (1, .int (iI p)), (0, .ref b)] [] _
        have lp0 := f38
        have lp1 := f39
        have lp2 := f40
        have lp3 := f41
        have lp4 := f42
        have lp5 := f43
        have hd3 : HD ρ σ46 := hd2.pb F36 lp2
        have R252 := R37
        have e253 : σ46.1 25 = ρ.1 25 := hd3.1.1 25 (by decide)
        have e303 : σ46.1 30 = ρ.1 30 := hd3.1.1 30 (by decide)
        have tk3 := lp1.1
        have oh43 := hoh.2.2.2.2.2.2.1
        have s25 : σ.1 25 = ρ.1 25 := hd.1.1 25 (by decide)
        have s30 : σ.1 30 = ρ.1 30 := hd.1.1 30 (by decide)
        have s43 : σ46.1 43 = σ.1 43 := rs_F F36 (by decide) (rs_F f13 (by decide) (rs_F f5 (by decide) (rfl)))
        refine tm_aload_n dX12_oneRoutine_252 rfl 3 rfl ?_
        refine tm_getS (k := 25) (t := σ.1 25) dX12_oneRoutine_253 (by decide) fl12_255 rfl (rs_F F36 (by decide) (rs_F f13 (by decide) (rs_F f5 (by decide) (rfl)))) ?_
        have g47 := RG.s hR 25
        refine tm_iconst dX12_oneRoutine_256 ?_
        refine tm_icmp_ne (tgt := 298) dX12_oneRoutine_257 (by decide) ⟨by omega, by omega⟩ ⟨by decide, by decide⟩ (fun h48 => ?_) (fun h48 => ?_)
        · refine tm_sub [1, 2, 3] rfl (b_one298 (d) (σ := σ46) (p := p) (m := m44) (ρ := ρ) R37 hoh hd3 (show TOK σ46 from lp1) (lp3.go ⟨by unfold tks; rw [(show Fr [] [36, 45] [] σ46 σ46 from Fr.rfl).1 19 (by decide), (show Fr [] [36, 45] [] σ46 σ46 from Fr.rfl).1 20 (by decide), (show Fr [] [36, 45] [] σ46 σ46 from Fr.rfl).1 22 (by decide), (show Fr [] [36, 45] [] σ46 σ46 from Fr.rfl).1 23 (by decide), (show Fr [] [36, 45] [] σ46 σ46 from Fr.rfl).2.2 24 (by decide)], by unfold xs; rw [(show Fr [] [36, 45] [] σ46 σ46 from Fr.rfl).1 28 (by decide), (show Fr [] [36, 45] [] σ46 σ46 from Fr.rfl).1 29 (by decide), (show Fr [] [36, 45] [] σ46 σ46 from Fr.rfl).1 34 (by decide)], sv_fr (show Fr [] [36, 45] [] σ46 σ46 from Fr.rfl) (by decide) (by decide)⟩ (fun x => show (σ46.1 28, σ46.1 29, x) = (σ46.1 28, σ46.1 29, x) by rw [(show Fr [] [36, 45] [] σ46 σ46 from Fr.rfl).1 28 (by decide), (show Fr [] [36, 45] [] σ46 σ46 from Fr.rfl).1 29 (by decide)]) (show srt σ46 = srt (peP (m44) σ46) by unfold peP; rw [ifP_f (by omega)])) (fun z => absurd z (by omega)) (show ρ.1 19 + 2 ≤ σ46.1 19 by omega) hp (by omega) hret _  rfl)
        · have h431 := (hd3.2.2.2.2.1 (by omega)).1
          have h43e := oh43.2 (by omega)
          refine tm_aload_n dX12_oneRoutine_260 rfl 3 rfl ?_
          refine tm_get (k := 45) (v := .ref (b + 1 + 23)) lay_12 dX12_oneRoutine_261 (by decide) fl12_85 rfl ?_
          refine tm_aload_n dX12_oneRoutine_264 rfl 3 rfl ?_
          refine tm_getS (k := 43) (t := σ.1 43) dX12_oneRoutine_265 (by decide) fl12_376 rfl (rs_F F36 (by decide) (rs_F f13 (by decide) (rs_F f5 (by decide) (rfl)))) ?_
          have g49 := RG.s hR 43
          refine tm_iconst dX12_oneRoutine_268 ?_
          refine tm_isub dX12_oneRoutine_269 ?_
          refine tm_iload_n dX12_oneRoutine_270 rfl 1 rfl ?_
          refine tm_iast (z := (σ.1 43) - 1) (v := m44) dX12_oneRoutine_271 (show mT[23]? = some (45, 0, 260) from rfl) (by omega) (by omega) (by decide) ?_
          refine tm_aload_n dX12_oneRoutine_272 rfl 3 rfl ?_
          refine tm_callV (M := m_X12_oneRoutine) (pc := 273) (ix := 271) (M' := m_X12_isKept) (As := []) (rest := []) dX12_oneRoutine_273 ok_X12_isKept im_X12_isKept se_X12_isKept ml12_271 np_X12_isKept rfl rfl (Nat.le_of_ble_eq_true rfl) (Nat.le_of_ble_eq_true rfl) rfl (c_X12_isKept (d + 61) (σ := (sA 45 ((σ.1 43) - 1) (m44) σ46))  (R37.A (by omega))) (fun r50 σ51 hp => ?_)
          obtain ⟨v52, rfl, rfl, f53, f54⟩ := hp
          show Tm _ _ 276 b (sA 45 ((σ.1 43) - 1) (m44) σ46) [(3, .int (iI mo45)), (2, .int (iI m44)), (1, .int (iI p)), (0, .ref b)] [.int (iI v52)] _
          have k30 : (sA 45 ((σ.1 43) - 1) (m44) σ46).1 30 = σ.1 30 := rs_A (rs_F F36 (by decide) (rs_F f13 (by decide) (rs_F f5 (by decide) (rfl))))
          refine tm_if_eq (tgt := 298) dX12_oneRoutine_276 (by decide) ⟨by omega, by omega⟩ (fun h55 => ?_) (fun h55 => ?_)
          · refine tm_sub [1, 2, 3] rfl (b_one298 (d) (σ := (sA 45 ((σ.1 43) - 1) (m44) σ46)) (p := p) (m := m44) (ρ := ρ) (R37.A (by omega)) hoh (hd3.told (by omega) (show (σ.1 43) - 1 = ρ.1 43 by omega)) (show TOK (sA 45 ((σ.1 43) - 1) (m44) σ46) from lp1) (lp3.go ⟨by unfold tks; rw [(show Fr [] [36, 45] [] σ46 (sA 45 ((σ.1 43) - 1) (m44) σ46) from (Fr.rfl.A (by decide))).1 19 (by decide), (show Fr [] [36, 45] [] σ46 (sA 45 ((σ.1 43) - 1) (m44) σ46) from (Fr.rfl.A (by decide))).1 20 (by decide), (show Fr [] [36, 45] [] σ46 (sA 45 ((σ.1 43) - 1) (m44) σ46) from (Fr.rfl.A (by decide))).1 22 (by decide), (show Fr [] [36, 45] [] σ46 (sA 45 ((σ.1 43) - 1) (m44) σ46) from (Fr.rfl.A (by decide))).1 23 (by decide), (show Fr [] [36, 45] [] σ46 (sA 45 ((σ.1 43) - 1) (m44) σ46) from (Fr.rfl.A (by decide))).2.2 24 (by decide)], by unfold xs; rw [(show Fr [] [36, 45] [] σ46 (sA 45 ((σ.1 43) - 1) (m44) σ46) from (Fr.rfl.A (by decide))).1 28 (by decide), (show Fr [] [36, 45] [] σ46 (sA 45 ((σ.1 43) - 1) (m44) σ46) from (Fr.rfl.A (by decide))).1 29 (by decide), (show Fr [] [36, 45] [] σ46 (sA 45 ((σ.1 43) - 1) (m44) σ46) from (Fr.rfl.A (by decide))).1 34 (by decide)], sv_fr (show Fr [] [36, 45] [] σ46 (sA 45 ((σ.1 43) - 1) (m44) σ46) from (Fr.rfl.A (by decide))) (by decide) (by decide)⟩ (fun x => show ((sA 45 ((σ.1 43) - 1) (m44) σ46).1 28, (sA 45 ((σ.1 43) - 1) (m44) σ46).1 29, x) = (σ46.1 28, σ46.1 29, x) by rw [(show Fr [] [36, 45] [] σ46 (sA 45 ((σ.1 43) - 1) (m44) σ46) from (Fr.rfl.A (by decide))).1 28 (by decide), (show Fr [] [36, 45] [] σ46 (sA 45 ((σ.1 43) - 1) (m44) σ46) from (Fr.rfl.A (by decide))).1 29 (by decide)]) (show srt (sA 45 ((σ.1 43) - 1) (m44) σ46) = srt (peP (m44) σ46) by unfold peP; rw [ifP_t (by omega), ifP_f (by omega), s43])) (fun z1 z2 => absurd z2 (by omega)) (show ρ.1 19 + 2 ≤ σ46.1 19 by omega) hp (by omega) hret _  rfl)
          · refine tm_aload_n dX12_oneRoutine_279 rfl 3 rfl ?_
            refine tm_get (k := 36) (v := .ref (b + 1 + 17)) lay_12 dX12_oneRoutine_280 (by decide) fl12_66 rfl ?_
            refine tm_aload_n dX12_oneRoutine_283 rfl 3 rfl ?_
            refine tm_getS (k := 30) (t := σ.1 30) dX12_oneRoutine_284 (by decide) fl12_268 rfl (rs_A (rs_F F36 (by decide) (rs_F f13 (by decide) (rs_F f5 (by decide) (rfl))))) ?_
            have g56 := RG.s hR 30
            refine tm_iload_n dX12_oneRoutine_287 rfl 1 rfl ?_
            refine tm_iconst dX12_oneRoutine_288 ?_
            refine tm_icmp_le (tgt := 296) dX12_oneRoutine_289 (by decide) ⟨by omega, by omega⟩ ⟨by decide, by decide⟩ (fun h57 => ?_) (fun h57 => ?_)
            · refine tm_iload_n dX12_oneRoutine_296 rfl 1 rfl ?_
              refine tm_iast (z := σ.1 30) (v := m44) dX12_oneRoutine_297 (show mT[17]? = some (36, 0, 6) from rfl) (by omega) (by omega) (by decide) ?_
              refine tm_sub [1, 2, 3] rfl (b_one298 (d) (σ := (sA 36 (σ.1 30) (m44) (sA 45 ((σ.1 43) - 1) (m44) σ46))) (p := p) (m := m44) (ρ := ρ) ((R37.A (by omega)).A (by omega)) hoh ((hd3.told (by omega) (show (σ.1 43) - 1 = ρ.1 43 by omega)).par (by omega) (show σ.1 30 = ρ.1 30 by omega)) (show TOK (sA 36 (σ.1 30) (m44) (sA 45 ((σ.1 43) - 1) (m44) σ46)) from lp1) (lp3.go ⟨by unfold tks; rw [(show Fr [] [36, 45] [] σ46 (sA 36 (σ.1 30) (m44) (sA 45 ((σ.1 43) - 1) (m44) σ46)) from ((Fr.rfl.A (by decide)).A (by decide))).1 19 (by decide), (show Fr [] [36, 45] [] σ46 (sA 36 (σ.1 30) (m44) (sA 45 ((σ.1 43) - 1) (m44) σ46)) from ((Fr.rfl.A (by decide)).A (by decide))).1 20 (by decide), (show Fr [] [36, 45] [] σ46 (sA 36 (σ.1 30) (m44) (sA 45 ((σ.1 43) - 1) (m44) σ46)) from ((Fr.rfl.A (by decide)).A (by decide))).1 22 (by decide), (show Fr [] [36, 45] [] σ46 (sA 36 (σ.1 30) (m44) (sA 45 ((σ.1 43) - 1) (m44) σ46)) from ((Fr.rfl.A (by decide)).A (by decide))).1 23 (by decide), (show Fr [] [36, 45] [] σ46 (sA 36 (σ.1 30) (m44) (sA 45 ((σ.1 43) - 1) (m44) σ46)) from ((Fr.rfl.A (by decide)).A (by decide))).2.2 24 (by decide)], by unfold xs; rw [(show Fr [] [36, 45] [] σ46 (sA 36 (σ.1 30) (m44) (sA 45 ((σ.1 43) - 1) (m44) σ46)) from ((Fr.rfl.A (by decide)).A (by decide))).1 28 (by decide), (show Fr [] [36, 45] [] σ46 (sA 36 (σ.1 30) (m44) (sA 45 ((σ.1 43) - 1) (m44) σ46)) from ((Fr.rfl.A (by decide)).A (by decide))).1 29 (by decide), (show Fr [] [36, 45] [] σ46 (sA 36 (σ.1 30) (m44) (sA 45 ((σ.1 43) - 1) (m44) σ46)) from ((Fr.rfl.A (by decide)).A (by decide))).1 34 (by decide)], sv_fr (show Fr [] [36, 45] [] σ46 (sA 36 (σ.1 30) (m44) (sA 45 ((σ.1 43) - 1) (m44) σ46)) from ((Fr.rfl.A (by decide)).A (by decide))) (by decide) (by decide)⟩ (fun x => show ((sA 36 (σ.1 30) (m44) (sA 45 ((σ.1 43) - 1) (m44) σ46)).1 28, (sA 36 (σ.1 30) (m44) (sA 45 ((σ.1 43) - 1) (m44) σ46)).1 29, x) = (σ46.1 28, σ46.1 29, x) by rw [(show Fr [] [36, 45] [] σ46 (sA 36 (σ.1 30) (m44) (sA 45 ((σ.1 43) - 1) (m44) σ46)) from ((Fr.rfl.A (by decide)).A (by decide))).1 28 (by decide), (show Fr [] [36, 45] [] σ46 (sA 36 (σ.1 30) (m44) (sA 45 ((σ.1 43) - 1) (m44) σ46)) from ((Fr.rfl.A (by decide)).A (by decide))).1 29 (by decide)]) (show srt (sA 36 (σ.1 30) (m44) (sA 45 ((σ.1 43) - 1) (m44) σ46)) = srt (peP (m44) σ46) by unfold peP; rw [ifP_t (by omega), ifP_t (by omega)]; rw [if_neg (by omega), s43, e303, ← s30])) (fun z1 z2 z3 => by have y := lp4 z1 z2 z3; rw [show (sA 36 (σ.1 30) (m44) (sA 45 ((σ.1 43) - 1) (m44) σ46)).2.1 45 (ρ.1 43) = m44 from ra_o (by decide) (ra_at (by omega)), show (sA 36 (σ.1 30) (m44) (sA 45 ((σ.1 43) - 1) (m44) σ46)).2.1 36 (ρ.1 30) = m44 from ra_at (by omega), show (sA 36 (σ.1 30) (m44) (sA 45 ((σ.1 43) - 1) (m44) σ46)).2.1 35 (ρ.1 30) = σ46.2.1 35 (ρ.1 30) from ra_o (by decide) (ra_o (by decide) rfl)]; omega) (show ρ.1 19 + 2 ≤ σ46.1 19 by omega) hp (by omega) hret _  rfl)
            · refine tm_iconst dX12_oneRoutine_292 ?_
              refine tm_goto (tgt := 297) dX12_oneRoutine_293 (by decide) ?_
              refine tm_iast (z := σ.1 30) (v := 4) dX12_oneRoutine_297 (show mT[17]? = some (36, 0, 6) from rfl) (by omega) (by omega) (by decide) ?_
              refine tm_sub [1, 2, 3] rfl (b_one298 (d) (σ := (sA 36 (σ.1 30) (4) (sA 45 ((σ.1 43) - 1) (m44) σ46))) (p := p) (m := m44) (ρ := ρ) ((R37.A (by omega)).A (by omega)) hoh ((hd3.told (by omega) (show (σ.1 43) - 1 = ρ.1 43 by omega)).par (by omega) (show σ.1 30 = ρ.1 30 by omega)) (show TOK (sA 36 (σ.1 30) (4) (sA 45 ((σ.1 43) - 1) (m44) σ46)) from lp1) (lp3.go ⟨by unfold tks; rw [(show Fr [] [36, 45] [] σ46 (sA 36 (σ.1 30) (4) (sA 45 ((σ.1 43) - 1) (m44) σ46)) from ((Fr.rfl.A (by decide)).A (by decide))).1 19 (by decide), (show Fr [] [36, 45] [] σ46 (sA 36 (σ.1 30) (4) (sA 45 ((σ.1 43) - 1) (m44) σ46)) from ((Fr.rfl.A (by decide)).A (by decide))).1 20 (by decide), (show Fr [] [36, 45] [] σ46 (sA 36 (σ.1 30) (4) (sA 45 ((σ.1 43) - 1) (m44) σ46)) from ((Fr.rfl.A (by decide)).A (by decide))).1 22 (by decide), (show Fr [] [36, 45] [] σ46 (sA 36 (σ.1 30) (4) (sA 45 ((σ.1 43) - 1) (m44) σ46)) from ((Fr.rfl.A (by decide)).A (by decide))).1 23 (by decide), (show Fr [] [36, 45] [] σ46 (sA 36 (σ.1 30) (4) (sA 45 ((σ.1 43) - 1) (m44) σ46)) from ((Fr.rfl.A (by decide)).A (by decide))).2.2 24 (by decide)], by unfold xs; rw [(show Fr [] [36, 45] [] σ46 (sA 36 (σ.1 30) (4) (sA 45 ((σ.1 43) - 1) (m44) σ46)) from ((Fr.rfl.A (by decide)).A (by decide))).1 28 (by decide), (show Fr [] [36, 45] [] σ46 (sA 36 (σ.1 30) (4) (sA 45 ((σ.1 43) - 1) (m44) σ46)) from ((Fr.rfl.A (by decide)).A (by decide))).1 29 (by decide), (show Fr [] [36, 45] [] σ46 (sA 36 (σ.1 30) (4) (sA 45 ((σ.1 43) - 1) (m44) σ46)) from ((Fr.rfl.A (by decide)).A (by decide))).1 34 (by decide)], sv_fr (show Fr [] [36, 45] [] σ46 (sA 36 (σ.1 30) (4) (sA 45 ((σ.1 43) - 1) (m44) σ46)) from ((Fr.rfl.A (by decide)).A (by decide))) (by decide) (by decide)⟩ (fun x => show ((sA 36 (σ.1 30) (4) (sA 45 ((σ.1 43) - 1) (m44) σ46)).1 28, (sA 36 (σ.1 30) (4) (sA 45 ((σ.1 43) - 1) (m44) σ46)).1 29, x) = (σ46.1 28, σ46.1 29, x) by rw [(show Fr [] [36, 45] [] σ46 (sA 36 (σ.1 30) (4) (sA 45 ((σ.1 43) - 1) (m44) σ46)) from ((Fr.rfl.A (by decide)).A (by decide))).1 28 (by decide), (show Fr [] [36, 45] [] σ46 (sA 36 (σ.1 30) (4) (sA 45 ((σ.1 43) - 1) (m44) σ46)) from ((Fr.rfl.A (by decide)).A (by decide))).1 29 (by decide)]) (show srt (sA 36 (σ.1 30) (4) (sA 45 ((σ.1 43) - 1) (m44) σ46)) = srt (peP (m44) σ46) by unfold peP; rw [ifP_t (by omega), ifP_t (by omega)]; rw [if_pos (by omega), s43, e303, ← s30])) (fun z1 z2 z3 => by have y := lp4 z1 z2 z3; rw [show (sA 36 (σ.1 30) (4) (sA 45 ((σ.1 43) - 1) (m44) σ46)).2.1 45 (ρ.1 43) = m44 from ra_o (by decide) (ra_at (by omega)), show (sA 36 (σ.1 30) (4) (sA 45 ((σ.1 43) - 1) (m44) σ46)).2.1 36 (ρ.1 30) = 4 from ra_at (by omega), show (sA 36 (σ.1 30) (4) (sA 45 ((σ.1 43) - 1) (m44) σ46)).2.1 35 (ρ.1 30) = σ46.2.1 35 (ρ.1 30) from ra_o (by decide) (ra_o (by decide) rfl)]; omega) (show ρ.1 19 + 2 ≤ σ46.1 19 by omega) hp (by omega) hret _  rfl)
      · refine tm_iconst dX12_oneRoutine_107 ?_
        refine tm_goto (tgt := 112) dX12_oneRoutine_108 (by decide) ?_
        refine tm_istore_n (L' := [(3, .int (iI 1)), (2, .int (iI 0)), (1, .int (iI p)), (0, .ref b)]) dX12_oneRoutine_112 rfl (by decide) rfl ?_
        refine tm_sub [0, 1, 2, 3] rfl (l_par (d + 56) (σ0 := σ10) (p := p) (ρ := ρ) f14 hoh hd2 (fun m69 mo70 σ71 F61 R62 f63 f64 f65 f66 f67 f68 => ?_) (fun v τ z1 z2 z3 z4 z5 => hret _ _ ((Fr.sub hd2.1 (by decide) (by decide) (by decide) : Fr [19, 20, 22, 23, 26, 27, 28, 29, 30, 31, 32, 33, 34, 39, 40, 43] [3, 4, 5, 6, 7, 8, 9, 35, 36, 37, 41, 42, 45] [24, 38, 44] ρ σ10).trans (Fr.sub z2 (by decide) (by decide) (by decide))) z3 (Or.inl z1) ((hd2.pb z2 z4).pbo) (fun q => absurd q (by omega)) (fun _ => z5)) _ (0) (1) σ10 Fr.rfl f14 (by omega) ynq.2.2.1 (PBF.nop pb2.2.2.1 (Fr.rfl : Fr [] [] [] _ _) (by decide) (by decide) (by decide)) ⟨fun _ => gx2.nxt (fun x => wx31n (n41_ (by omega))), fun q => absurd q (by decide)⟩ (fun _ z2 _ => ⟨by decide, (hd2.2.2.1 (ρ.1 30) oh30.1 z2).1⟩) (Int.le_refl _) rfl)
        show Tm _ _ 252 b σ71 [(3, .int (iI mo70)), (2, .int (iI m69)), (1, .int (iI p)), (0, .ref b)] [] _
        have lp0 := f63
        have lp1 := f64
        have lp2 := f65
        have lp3 := f66
        have lp4 := f67
        have lp5 := f68
        have hd3 : HD ρ σ71 := hd2.pb F61 lp2
        have R252 := R62
        have e253 : σ71.1 25 = ρ.1 25 := hd3.1.1 25 (by decide)
        have e303 : σ71.1 30 = ρ.1 30 := hd3.1.1 30 (by decide)
        have tk3 := lp1.1
        have oh43 := hoh.2.2.2.2.2.2.1
        have s25 : σ.1 25 = ρ.1 25 := hd.1.1 25 (by decide)
        have s30 : σ.1 30 = ρ.1 30 := hd.1.1 30 (by decide)
        have s43 : σ71.1 43 = σ.1 43 := rs_F F61 (by decide) (rs_F f13 (by decide) (rs_F f5 (by decide) (rfl)))
        refine tm_aload_n dX12_oneRoutine_252 rfl 3 rfl ?_
        refine tm_getS (k := 25) (t := σ.1 25) dX12_oneRoutine_253 (by decide) fl12_255 rfl (rs_F F61 (by decide) (rs_F f13 (by decide) (rs_F f5 (by decide) (rfl)))) ?_
        have g72 := RG.s hR 25
        refine tm_iconst dX12_oneRoutine_256 ?_
        refine tm_icmp_ne (tgt := 298) dX12_oneRoutine_257 (by decide) ⟨by omega, by omega⟩ ⟨by decide, by decide⟩ (fun h73 => ?_) (fun h73 => ?_)
        · refine tm_sub [1, 2, 3] rfl (b_one298 (d) (σ := σ71) (p := p) (m := m69) (ρ := ρ) R62 hoh hd3 (show TOK σ71 from lp1) (lp3.go ⟨by unfold tks; rw [(show Fr [] [36, 45] [] σ71 σ71 from Fr.rfl).1 19 (by decide), (show Fr [] [36, 45] [] σ71 σ71 from Fr.rfl).1 20 (by decide), (show Fr [] [36, 45] [] σ71 σ71 from Fr.rfl).1 22 (by decide), (show Fr [] [36, 45] [] σ71 σ71 from Fr.rfl).1 23 (by decide), (show Fr [] [36, 45] [] σ71 σ71 from Fr.rfl).2.2 24 (by decide)], by unfold xs; rw [(show Fr [] [36, 45] [] σ71 σ71 from Fr.rfl).1 28 (by decide), (show Fr [] [36, 45] [] σ71 σ71 from Fr.rfl).1 29 (by decide), (show Fr [] [36, 45] [] σ71 σ71 from Fr.rfl).1 34 (by decide)], sv_fr (show Fr [] [36, 45] [] σ71 σ71 from Fr.rfl) (by decide) (by decide)⟩ (fun x => show (σ71.1 28, σ71.1 29, x) = (σ71.1 28, σ71.1 29, x) by rw [(show Fr [] [36, 45] [] σ71 σ71 from Fr.rfl).1 28 (by decide), (show Fr [] [36, 45] [] σ71 σ71 from Fr.rfl).1 29 (by decide)]) (show srt σ71 = srt (peP (m69) σ71) by unfold peP; rw [ifP_f (by omega)])) (fun z => absurd z (by omega)) (show ρ.1 19 + 2 ≤ σ71.1 19 by omega) hp (by omega) hret _  rfl)
        · have h431 := (hd3.2.2.2.2.1 (by omega)).1
          have h43e := oh43.2 (by omega)
          refine tm_aload_n dX12_oneRoutine_260 rfl 3 rfl ?_
          refine tm_get (k := 45) (v := .ref (b + 1 + 23)) lay_12 dX12_oneRoutine_261 (by decide) fl12_85 rfl ?_
          refine tm_aload_n dX12_oneRoutine_264 rfl 3 rfl ?_
          refine tm_getS (k := 43) (t := σ.1 43) dX12_oneRoutine_265 (by decide) fl12_376 rfl (rs_F F61 (by decide) (rs_F f13 (by decide) (rs_F f5 (by decide) (rfl)))) ?_
          have g74 := RG.s hR 43
          refine tm_iconst dX12_oneRoutine_268 ?_
          refine tm_isub dX12_oneRoutine_269 ?_
          refine tm_iload_n dX12_oneRoutine_270 rfl 1 rfl ?_
          refine tm_iast (z := (σ.1 43) - 1) (v := m69) dX12_oneRoutine_271 (show mT[23]? = some (45, 0, 260) from rfl) (by omega) (by omega) (by decide) ?_
          refine tm_aload_n dX12_oneRoutine_272 rfl 3 rfl ?_
          refine tm_callV (M := m_X12_oneRoutine) (pc := 273) (ix := 271) (M' := m_X12_isKept) (As := []) (rest := []) dX12_oneRoutine_273 ok_X12_isKept im_X12_isKept se_X12_isKept ml12_271 np_X12_isKept rfl rfl (Nat.le_of_ble_eq_true rfl) (Nat.le_of_ble_eq_true rfl) rfl (c_X12_isKept (d + 61) (σ := (sA 45 ((σ.1 43) - 1) (m69) σ71))  (R62.A (by omega))) (fun r75 σ76 hp => ?_)
          obtain ⟨v77, rfl, rfl, f78, f79⟩ := hp
          show Tm _ _ 276 b (sA 45 ((σ.1 43) - 1) (m69) σ71) [(3, .int (iI mo70)), (2, .int (iI m69)), (1, .int (iI p)), (0, .ref b)] [.int (iI v77)] _
          have k30 : (sA 45 ((σ.1 43) - 1) (m69) σ71).1 30 = σ.1 30 := rs_A (rs_F F61 (by decide) (rs_F f13 (by decide) (rs_F f5 (by decide) (rfl))))
          refine tm_if_eq (tgt := 298) dX12_oneRoutine_276 (by decide) ⟨by omega, by omega⟩ (fun h80 => ?_) (fun h80 => ?_)
          · refine tm_sub [1, 2, 3] rfl (b_one298 (d) (σ := (sA 45 ((σ.1 43) - 1) (m69) σ71)) (p := p) (m := m69) (ρ := ρ) (R62.A (by omega)) hoh (hd3.told (by omega) (show (σ.1 43) - 1 = ρ.1 43 by omega)) (show TOK (sA 45 ((σ.1 43) - 1) (m69) σ71) from lp1) (lp3.go ⟨by unfold tks; rw [(show Fr [] [36, 45] [] σ71 (sA 45 ((σ.1 43) - 1) (m69) σ71) from (Fr.rfl.A (by decide))).1 19 (by decide), (show Fr [] [36, 45] [] σ71 (sA 45 ((σ.1 43) - 1) (m69) σ71) from (Fr.rfl.A (by decide))).1 20 (by decide), (show Fr [] [36, 45] [] σ71 (sA 45 ((σ.1 43) - 1) (m69) σ71) from (Fr.rfl.A (by decide))).1 22 (by decide), (show Fr [] [36, 45] [] σ71 (sA 45 ((σ.1 43) - 1) (m69) σ71) from (Fr.rfl.A (by decide))).1 23 (by decide), (show Fr [] [36, 45] [] σ71 (sA 45 ((σ.1 43) - 1) (m69) σ71) from (Fr.rfl.A (by decide))).2.2 24 (by decide)], by unfold xs; rw [(show Fr [] [36, 45] [] σ71 (sA 45 ((σ.1 43) - 1) (m69) σ71) from (Fr.rfl.A (by decide))).1 28 (by decide), (show Fr [] [36, 45] [] σ71 (sA 45 ((σ.1 43) - 1) (m69) σ71) from (Fr.rfl.A (by decide))).1 29 (by decide), (show Fr [] [36, 45] [] σ71 (sA 45 ((σ.1 43) - 1) (m69) σ71) from (Fr.rfl.A (by decide))).1 34 (by decide)], sv_fr (show Fr [] [36, 45] [] σ71 (sA 45 ((σ.1 43) - 1) (m69) σ71) from (Fr.rfl.A (by decide))) (by decide) (by decide)⟩ (fun x => show ((sA 45 ((σ.1 43) - 1) (m69) σ71).1 28, (sA 45 ((σ.1 43) - 1) (m69) σ71).1 29, x) = (σ71.1 28, σ71.1 29, x) by rw [(show Fr [] [36, 45] [] σ71 (sA 45 ((σ.1 43) - 1) (m69) σ71) from (Fr.rfl.A (by decide))).1 28 (by decide), (show Fr [] [36, 45] [] σ71 (sA 45 ((σ.1 43) - 1) (m69) σ71) from (Fr.rfl.A (by decide))).1 29 (by decide)]) (show srt (sA 45 ((σ.1 43) - 1) (m69) σ71) = srt (peP (m69) σ71) by unfold peP; rw [ifP_t (by omega), ifP_f (by omega), s43])) (fun z1 z2 => absurd z2 (by omega)) (show ρ.1 19 + 2 ≤ σ71.1 19 by omega) hp (by omega) hret _  rfl)
          · refine tm_aload_n dX12_oneRoutine_279 rfl 3 rfl ?_
            refine tm_get (k := 36) (v := .ref (b + 1 + 17)) lay_12 dX12_oneRoutine_280 (by decide) fl12_66 rfl ?_
            refine tm_aload_n dX12_oneRoutine_283 rfl 3 rfl ?_
            refine tm_getS (k := 30) (t := σ.1 30) dX12_oneRoutine_284 (by decide) fl12_268 rfl (rs_A (rs_F F61 (by decide) (rs_F f13 (by decide) (rs_F f5 (by decide) (rfl))))) ?_
            have g81 := RG.s hR 30
            refine tm_iload_n dX12_oneRoutine_287 rfl 1 rfl ?_
            refine tm_iconst dX12_oneRoutine_288 ?_
            refine tm_icmp_le (tgt := 296) dX12_oneRoutine_289 (by decide) ⟨by omega, by omega⟩ ⟨by decide, by decide⟩ (fun h82 => ?_) (fun h82 => ?_)
            · refine tm_iload_n dX12_oneRoutine_296 rfl 1 rfl ?_
              refine tm_iast (z := σ.1 30) (v := m69) dX12_oneRoutine_297 (show mT[17]? = some (36, 0, 6) from rfl) (by omega) (by omega) (by decide) ?_
              refine tm_sub [1, 2, 3] rfl (b_one298 (d) (σ := (sA 36 (σ.1 30) (m69) (sA 45 ((σ.1 43) - 1) (m69) σ71))) (p := p) (m := m69) (ρ := ρ) ((R62.A (by omega)).A (by omega)) hoh ((hd3.told (by omega) (show (σ.1 43) - 1 = ρ.1 43 by omega)).par (by omega) (show σ.1 30 = ρ.1 30 by omega)) (show TOK (sA 36 (σ.1 30) (m69) (sA 45 ((σ.1 43) - 1) (m69) σ71)) from lp1) (lp3.go ⟨by unfold tks; rw [(show Fr [] [36, 45] [] σ71 (sA 36 (σ.1 30) (m69) (sA 45 ((σ.1 43) - 1) (m69) σ71)) from ((Fr.rfl.A (by decide)).A (by decide))).1 19 (by decide), (show Fr [] [36, 45] [] σ71 (sA 36 (σ.1 30) (m69) (sA 45 ((σ.1 43) - 1) (m69) σ71)) from ((Fr.rfl.A (by decide)).A (by decide))).1 20 (by decide), (show Fr [] [36, 45] [] σ71 (sA 36 (σ.1 30) (m69) (sA 45 ((σ.1 43) - 1) (m69) σ71)) from ((Fr.rfl.A (by decide)).A (by decide))).1 22 (by decide), (show Fr [] [36, 45] [] σ71 (sA 36 (σ.1 30) (m69) (sA 45 ((σ.1 43) - 1) (m69) σ71)) from ((Fr.rfl.A (by decide)).A (by decide))).1 23 (by decide), (show Fr [] [36, 45] [] σ71 (sA 36 (σ.1 30) (m69) (sA 45 ((σ.1 43) - 1) (m69) σ71)) from ((Fr.rfl.A (by decide)).A (by decide))).2.2 24 (by decide)], by unfold xs; rw [(show Fr [] [36, 45] [] σ71 (sA 36 (σ.1 30) (m69) (sA 45 ((σ.1 43) - 1) (m69) σ71)) from ((Fr.rfl.A (by decide)).A (by decide))).1 28 (by decide), (show Fr [] [36, 45] [] σ71 (sA 36 (σ.1 30) (m69) (sA 45 ((σ.1 43) - 1) (m69) σ71)) from ((Fr.rfl.A (by decide)).A (by decide))).1 29 (by decide), (show Fr [] [36, 45] [] σ71 (sA 36 (σ.1 30) (m69) (sA 45 ((σ.1 43) - 1) (m69) σ71)) from ((Fr.rfl.A (by decide)).A (by decide))).1 34 (by decide)], sv_fr (show Fr [] [36, 45] [] σ71 (sA 36 (σ.1 30) (m69) (sA 45 ((σ.1 43) - 1) (m69) σ71)) from ((Fr.rfl.A (by decide)).A (by decide))) (by decide) (by decide)⟩ (fun x => show ((sA 36 (σ.1 30) (m69) (sA 45 ((σ.1 43) - 1) (m69) σ71)).1 28, (sA 36 (σ.1 30) (m69) (sA 45 ((σ.1 43) - 1) (m69) σ71)).1 29, x) = (σ71.1 28, σ71.1 29, x) by rw [(show Fr [] [36, 45] [] σ71 (sA 36 (σ.1 30) (m69) (sA 45 ((σ.1 43) - 1) (m69) σ71)) from ((Fr.rfl.A (by decide)).A (by decide))).1 28 (by decide), (show Fr [] [36, 45] [] σ71 (sA 36 (σ.1 30) (m69) (sA 45 ((σ.1 43) - 1) (m69) σ71)) from ((Fr.rfl.A (by decide)).A (by decide))).1 29 (by decide)]) (show srt (sA 36 (σ.1 30) (m69) (sA 45 ((σ.1 43) - 1) (m69) σ71)) = srt (peP (m69) σ71) by unfold peP; rw [ifP_t (by omega), ifP_t (by omega)]; rw [if_neg (by omega), s43, e303, ← s30])) (fun z1 z2 z3 => by have y := lp4 z1 z2 z3; rw [show (sA 36 (σ.1 30) (m69) (sA 45 ((σ.1 43) - 1) (m69) σ71)).2.1 45 (ρ.1 43) = m69 from ra_o (by decide) (ra_at (by omega)), show (sA 36 (σ.1 30) (m69) (sA 45 ((σ.1 43) - 1) (m69) σ71)).2.1 36 (ρ.1 30) = m69 from ra_at (by omega), show (sA 36 (σ.1 30) (m69) (sA 45 ((σ.1 43) - 1) (m69) σ71)).2.1 35 (ρ.1 30) = σ71.2.1 35 (ρ.1 30) from ra_o (by decide) (ra_o (by decide) rfl)]; omega) (show ρ.1 19 + 2 ≤ σ71.1 19 by omega) hp (by omega) hret _  rfl)
            · refine tm_iconst dX12_oneRoutine_292 ?_
              refine tm_goto (tgt := 297) dX12_oneRoutine_293 (by decide) ?_
              refine tm_iast (z := σ.1 30) (v := 4) dX12_oneRoutine_297 (show mT[17]? = some (36, 0, 6) from rfl) (by omega) (by omega) (by decide) ?_
              refine tm_sub [1, 2, 3] rfl (b_one298 (d) (σ := (sA 36 (σ.1 30) (4) (sA 45 ((σ.1 43) - 1) (m69) σ71))) (p := p) (m := m69) (ρ := ρ) ((R62.A (by omega)).A (by omega)) hoh ((hd3.told (by omega) (show (σ.1 43) - 1 = ρ.1 43 by omega)).par (by omega) (show σ.1 30 = ρ.1 30 by omega)) (show TOK (sA 36 (σ.1 30) (4) (sA 45 ((σ.1 43) - 1) (m69) σ71)) from lp1) (lp3.go ⟨by unfold tks; rw [(show Fr [] [36, 45] [] σ71 (sA 36 (σ.1 30) (4) (sA 45 ((σ.1 43) - 1) (m69) σ71)) from ((Fr.rfl.A (by decide)).A (by decide))).1 19 (by decide), (show Fr [] [36, 45] [] σ71 (sA 36 (σ.1 30) (4) (sA 45 ((σ.1 43) - 1) (m69) σ71)) from ((Fr.rfl.A (by decide)).A (by decide))).1 20 (by decide), (show Fr [] [36, 45] [] σ71 (sA 36 (σ.1 30) (4) (sA 45 ((σ.1 43) - 1) (m69) σ71)) from ((Fr.rfl.A (by decide)).A (by decide))).1 22 (by decide), (show Fr [] [36, 45] [] σ71 (sA 36 (σ.1 30) (4) (sA 45 ((σ.1 43) - 1) (m69) σ71)) from ((Fr.rfl.A (by decide)).A (by decide))).1 23 (by decide), (show Fr [] [36, 45] [] σ71 (sA 36 (σ.1 30) (4) (sA 45 ((σ.1 43) - 1) (m69) σ71)) from ((Fr.rfl.A (by decide)).A (by decide))).2.2 24 (by decide)], by unfold xs; rw [(show Fr [] [36, 45] [] σ71 (sA 36 (σ.1 30) (4) (sA 45 ((σ.1 43) - 1) (m69) σ71)) from ((Fr.rfl.A (by decide)).A (by decide))).1 28 (by decide), (show Fr [] [36, 45] [] σ71 (sA 36 (σ.1 30) (4) (sA 45 ((σ.1 43) - 1) (m69) σ71)) from ((Fr.rfl.A (by decide)).A (by decide))).1 29 (by decide), (show Fr [] [36, 45] [] σ71 (sA 36 (σ.1 30) (4) (sA 45 ((σ.1 43) - 1) (m69) σ71)) from ((Fr.rfl.A (by decide)).A (by decide))).1 34 (by decide)], sv_fr (show Fr [] [36, 45] [] σ71 (sA 36 (σ.1 30) (4) (sA 45 ((σ.1 43) - 1) (m69) σ71)) from ((Fr.rfl.A (by decide)).A (by decide))) (by decide) (by decide)⟩ (fun x => show ((sA 36 (σ.1 30) (4) (sA 45 ((σ.1 43) - 1) (m69) σ71)).1 28, (sA 36 (σ.1 30) (4) (sA 45 ((σ.1 43) - 1) (m69) σ71)).1 29, x) = (σ71.1 28, σ71.1 29, x) by rw [(show Fr [] [36, 45] [] σ71 (sA 36 (σ.1 30) (4) (sA 45 ((σ.1 43) - 1) (m69) σ71)) from ((Fr.rfl.A (by decide)).A (by decide))).1 28 (by decide), (show Fr [] [36, 45] [] σ71 (sA 36 (σ.1 30) (4) (sA 45 ((σ.1 43) - 1) (m69) σ71)) from ((Fr.rfl.A (by decide)).A (by decide))).1 29 (by decide)]) (show srt (sA 36 (σ.1 30) (4) (sA 45 ((σ.1 43) - 1) (m69) σ71)) = srt (peP (m69) σ71) by unfold peP; rw [ifP_t (by omega), ifP_t (by omega)]; rw [if_pos (by omega), s43, e303, ← s30])) (fun z1 z2 z3 => by have y := lp4 z1 z2 z3; rw [show (sA 36 (σ.1 30) (4) (sA 45 ((σ.1 43) - 1) (m69) σ71)).2.1 45 (ρ.1 43) = m69 from ra_o (by decide) (ra_at (by omega)), show (sA 36 (σ.1 30) (4) (sA 45 ((σ.1 43) - 1) (m69) σ71)).2.1 36 (ρ.1 30) = 4 from ra_at (by omega), show (sA 36 (σ.1 30) (4) (sA 45 ((σ.1 43) - 1) (m69) σ71)).2.1 35 (ρ.1 30) = σ71.2.1 35 (ρ.1 30) from ra_o (by decide) (ra_o (by decide) rfl)]; omega) (show ρ.1 19 + 2 ≤ σ71.1 19 by omega) hp (by omega) hret _  rfl)
    · refine tm_iconst dX12_oneRoutine_94 ?_
      exact tm_zret (v := 0) rfl (by decide) dX12_oneRoutine_95 (hret _ _ ((Fr.sub hd1.1 (by decide) (by decide) (by decide) : Fr [19, 20, 22, 23, 26, 27, 28, 29, 30, 31, 32, 33, 34, 39, 40, 43] [3, 4, 5, 6, 7, 8, 9, 35, 36, 37, 41, 42, 45] [24, 38, 44] ρ σ2).trans (Fr.sub yn1 (by decide) (by decide) (by decide))) f14 (by omega) ((hd1.pb (Fr.sub yn1 (by decide) (by decide) (by decide)) (PBF.of pb1.2.2.1 yn1 (by decide) (by decide) (by decide) yn5)).pbo) (fun q => absurd q (by omega)) (fun _ => gx1.fail (fun x => gf_40 (σ := sS 34 x σ2) (yn4 (by omega)) ((yn6 (by omega)).x x))))
end
section
theorem PBO.rfl {σ : MS} (h : ORH σ) : PBO σ σ := ⟨fun x _ _ => ⟨_root_.rfl, _root_.rfl, _root_.rfl, _root_.rfl, fun _ _ _ => ⟨_root_.rfl, _root_.rfl⟩⟩, fun _ => ⟨_root_.rfl, _root_.rfl, _root_.rfl, _root_.rfl, _root_.rfl, _root_.rfl, _root_.rfl⟩, h.2.2.2.2.2.1, FLT.eq _root_.rfl, _root_.rfl, fun _ _ => _root_.rfl, h.2.2.2.2.2.2.1.1⟩

theorem dX12_oneRoutine_0 : decode cX12_oneRoutine 0 = .ok (.aload_n 0, 1) := by decide +kernel
theorem dX12_oneRoutine_1 : decode cX12_oneRoutine 1 = .ok (.getfield 216, 3) := by decide +kernel
theorem dX12_oneRoutine_4 : decode cX12_oneRoutine 4 = .ok (.istore_n 1, 1) := by decide +kernel
theorem dX12_oneRoutine_5 : decode cX12_oneRoutine 5 = .ok (.aload_n 0, 1) := by decide +kernel
theorem dX12_oneRoutine_6 : decode cX12_oneRoutine 6 = .ok (.invokevirtual 320, 3) := by decide +kernel
theorem dX12_oneRoutine_9 : decode cX12_oneRoutine 9 = .ok (.ifCond .ne 8, 3) := by decide +kernel
theorem dX12_oneRoutine_17 : decode cX12_oneRoutine 17 = .ok (.aload_n 0, 1) := by decide +kernel
theorem dX12_oneRoutine_18 : decode cX12_oneRoutine 18 = .ok (.getfield 255, 3) := by decide +kernel
theorem dX12_oneRoutine_21 : decode cX12_oneRoutine 21 = .ok (.iconst 1, 1) := by decide +kernel
theorem dX12_oneRoutine_22 : decode cX12_oneRoutine 22 = .ok (.if_icmp .ne 59, 3) := by decide +kernel
theorem dX12_oneRoutine_25 : decode cX12_oneRoutine 25 = .ok (.aload_n 0, 1) := by decide +kernel
theorem dX12_oneRoutine_26 : decode cX12_oneRoutine 26 = .ok (.getfield 268, 3) := by decide +kernel
theorem dX12_oneRoutine_29 : decode cX12_oneRoutine 29 = .ok (.bipush 6, 2) := by decide +kernel
theorem dX12_oneRoutine_31 : decode cX12_oneRoutine 31 = .ok (.if_icmp .ne 9, 3) := by decide +kernel
theorem dX12_oneRoutine_40 : decode cX12_oneRoutine 40 = .ok (.aload_n 0, 1) := by decide +kernel
theorem dX12_oneRoutine_41 : decode cX12_oneRoutine 41 = .ok (.aload_n 0, 1) := by decide +kernel
theorem dX12_oneRoutine_42 : decode cX12_oneRoutine 42 = .ok (.getfield 219, 3) := by decide +kernel
theorem dX12_oneRoutine_45 : decode cX12_oneRoutine 45 = .ok (.invokevirtual 363, 3) := by decide +kernel
theorem dX12_oneRoutine_48 : decode cX12_oneRoutine 48 = .ok (.iconst (-1), 1) := by decide +kernel
theorem dX12_oneRoutine_49 : decode cX12_oneRoutine 49 = .ok (.if_icmp .eq 9, 3) := by decide +kernel
theorem dX12_oneRoutine_58 : decode cX12_oneRoutine 58 = .ok (.aload_n 0, 1) := by decide +kernel
theorem dX12_oneRoutine_59 : decode cX12_oneRoutine 59 = .ok (.getfield 82, 3) := by decide +kernel
theorem dX12_oneRoutine_62 : decode cX12_oneRoutine 62 = .ok (.aload_n 0, 1) := by decide +kernel
theorem dX12_oneRoutine_63 : decode cX12_oneRoutine 63 = .ok (.getfield 376, 3) := by decide +kernel
theorem dX12_oneRoutine_66 : decode cX12_oneRoutine 66 = .ok (.aload_n 0, 1) := by decide +kernel
theorem dX12_oneRoutine_67 : decode cX12_oneRoutine 67 = .ok (.getfield 219, 3) := by decide +kernel
theorem dX12_oneRoutine_70 : decode cX12_oneRoutine 70 = .ok (.lastore, 1) := by decide +kernel
theorem dX12_oneRoutine_71 : decode cX12_oneRoutine 71 = .ok (.aload_n 0, 1) := by decide +kernel
theorem dX12_oneRoutine_72 : decode cX12_oneRoutine 72 = .ok (.dup, 1) := by decide +kernel
theorem dX12_oneRoutine_73 : decode cX12_oneRoutine 73 = .ok (.getfield 376, 3) := by decide +kernel
theorem dX12_oneRoutine_76 : decode cX12_oneRoutine 76 = .ok (.iconst 1, 1) := by decide +kernel
theorem dX12_oneRoutine_77 : decode cX12_oneRoutine 77 = .ok (.iadd, 1) := by decide +kernel
theorem dX12_oneRoutine_78 : decode cX12_oneRoutine 78 = .ok (.putfield 376, 3) := by decide +kernel
theorem dX12_oneRoutine_52 : decode cX12_oneRoutine 52 = .ok (.aload_n 0, 1) := by decide +kernel
theorem dX12_oneRoutine_53 : decode cX12_oneRoutine 53 = .ok (.iconst 2, 1) := by decide +kernel
theorem dX12_oneRoutine_54 : decode cX12_oneRoutine 54 = .ok (.iload_n 1, 1) := by decide +kernel
theorem dX12_oneRoutine_55 : decode cX12_oneRoutine 55 = .ok (.invokevirtual 274, 3) := by decide +kernel
theorem dX12_oneRoutine_34 : decode cX12_oneRoutine 34 = .ok (.aload_n 0, 1) := by decide +kernel
theorem dX12_oneRoutine_35 : decode cX12_oneRoutine 35 = .ok (.iconst 5, 1) := by decide +kernel
theorem dX12_oneRoutine_36 : decode cX12_oneRoutine 36 = .ok (.iload_n 1, 1) := by decide +kernel
theorem dX12_oneRoutine_37 : decode cX12_oneRoutine 37 = .ok (.invokevirtual 274, 3) := by decide +kernel
theorem dX12_oneRoutine_12 : decode cX12_oneRoutine 12 = .ok (.aload_n 0, 1) := by decide +kernel
theorem dX12_oneRoutine_13 : decode cX12_oneRoutine 13 = .ok (.invokevirtual 261, 3) := by decide +kernel
theorem dX12_oneRoutine_16 : decode cX12_oneRoutine 16 = .ok (.ireturn, 1) := by decide +kernel
set_option maxHeartbeats 4000000 in
set_option maxRecDepth 20000 in
theorem c_X12_oneRoutine (d : Nat) {b : Nat} {σ : MS} (hR : RG σ) (hoh : ORH σ) : Tm (d + 63) m_X12_oneRoutine 0 b σ [(0, .ref b)] [] (fun ro σ2 => ∃ v : Int, ro = some (.int (iI v)) ∧ ((v = 0 ∨ v = 1)) ∧ (Fr [19, 20, 22, 23, 26, 27, 28, 29, 30, 31, 32, 33, 34, 39, 40, 43] [3, 4, 5, 6, 7, 8, 9, 35, 36, 37, 41, 42, 45] [24, 38, 44] σ σ2) ∧ (RG σ2) ∧ (PBO σ σ2) ∧ (Im v 1 (ORQ σ σ2)) ∧ (Im v 0 (∀ x, GOF [30] (sS 34 x σ) (qq 0) σ2))) := by
  have tk0 := hoh.1.1
  refine tm_aload_n dX12_oneRoutine_0 rfl 0 rfl ?_
  refine tm_getS (k := 19) (t := σ.1 19) dX12_oneRoutine_1 (by decide) fl12_216 rfl (rfl) ?_
  have g1 := RG.s hR 19
  refine tm_istore_n (L' := [(1, .int (iI (σ.1 19))), (0, .ref b)]) dX12_oneRoutine_4 rfl (by decide) rfl ?_
  refine tm_aload_n dX12_oneRoutine_5 rfl 1 rfl ?_
  refine tm_callV (M := m_X12_oneRoutine) (pc := 6) (ix := 320) (M' := m_X12_isName) (As := []) (rest := []) dX12_oneRoutine_6 ok_X12_isName im_X12_isName se_X12_isName ml12_320 np_X12_isName rfl rfl (Nat.le_of_ble_eq_true rfl) (Nat.le_of_ble_eq_true rfl) rfl (c2_X12_isName (d + 61) (σ := σ)  hR) (fun r2 σ3 hp => ?_)
  obtain ⟨v4, rfl, rfl, f5, f6, f7⟩ := hp
  show Tm _ _ 9 b σ [(1, .int (iI (σ.1 19))), (0, .ref b)] [.int (iI v4)] _
  have inm := f6
  have nnm_ := f7
  refine tm_if_ne (tgt := 17) dX12_oneRoutine_9 (by decide) ⟨by omega, by omega⟩ (fun h8 => ?_) (fun h8 => ?_)
  · have oh25 := hoh.2.1
    have oh30 := hoh.2.2.1
    have oht := hoh.1.1
    have oh43 := hoh.2.2.2.2.2.2.1
    have nmw := inm (by omega)
    refine tm_aload_n dX12_oneRoutine_17 rfl 1 rfl ?_
    refine tm_getS (k := 25) (t := σ.1 25) dX12_oneRoutine_18 (by decide) fl12_255 rfl (rfl) ?_
    have g9 := RG.s hR 25
    refine tm_iconst dX12_oneRoutine_21 ?_
    refine tm_icmp_ne (tgt := 81) dX12_oneRoutine_22 (by decide) ⟨by omega, by omega⟩ ⟨by decide, by decide⟩ (fun h10 => ?_) (fun h10 => ?_)
    · refine tm_sub [0, 1] rfl (b_one81 (d) (σ := σ) (p := σ.1 19) (ρ := σ) hR hoh ⟨Fr.rfl, FLT.eq rfl, hoh.2.2.2.2.2.1, fun _ => ⟨rfl, rfl, rfl, rfl, rfl, rfl, rfl⟩, fun z => absurd z (by omega), oh43.1⟩ (show Fr [26, 27, 43] [] [44] σ σ from Fr.rfl) nmw (by unfold rnP; rw [ifP_f (by omega)]) rfl (by omega) (fun v τ z1 z2 z3 z4 z5 z6 => ⟨_, rfl, z3, z1, z2, z4, z5, z6⟩) _  rfl)
    · refine tm_aload_n dX12_oneRoutine_25 rfl 1 rfl ?_
      refine tm_getS (k := 30) (t := σ.1 30) dX12_oneRoutine_26 (by decide) fl12_268 rfl (rfl) ?_
      have g11 := RG.s hR 30
      refine tm_bipush dX12_oneRoutine_29 (by decide) ?_
      refine tm_icmp_ne (tgt := 40) dX12_oneRoutine_31 (by decide) ⟨by omega, by omega⟩ ⟨by decide, by decide⟩ (fun h12 => ?_) (fun h12 => ?_)
      · refine tm_aload_n dX12_oneRoutine_40 rfl 1 rfl ?_
        refine tm_aload_n dX12_oneRoutine_41 rfl 1 rfl ?_
        refine tm_getW (t := σ.2.2 24 0) dX12_oneRoutine_42 fl12_219 (rfl) ?_
        refine tm_callV (M := m_X12_oneRoutine) (pc := 45) (ix := 363) (M' := m_X12_routineBy) (As := [.long (σ.2.2 24 0)]) (rest := []) dX12_oneRoutine_45 ok_X12_routineBy im_X12_routineBy se_X12_routineBy ml12_363 np_X12_routineBy rfl rfl (Nat.le_of_ble_eq_true rfl) (Nat.le_of_ble_eq_true rfl) rfl (c2_X12_routineBy (d + 61) (σ := σ) (w := σ.2.2 24 0) hR (by rw [show σ.1 43 = σ.1 43 from rfl]; exact oh43.1)) (fun r13 σ14 hp => ?_)
        obtain ⟨v15, rfl, rfl, f16, f17⟩ := hp
        show Tm _ _ 48 b σ [(1, .int (iI (σ.1 19))), (0, .ref b)] [.int (iI v15)] _
        have k43 : σ.1 43 = σ.1 43 := rfl
        have rbq := f16
        have rbs : RBY σ (σ.2.2 24 0) (v15) := (f17).bt (TBm.of (Fr.rfl : Fr [26, 27] [] [] σ σ) (by decide) (by decide) (by decide) (by decide))
        rw [k43] at rbq
        have rbv := rbq
        refine tm_iconst dX12_oneRoutine_48 ?_
        refine tm_icmp_eq (tgt := 58) dX12_oneRoutine_49 (by decide) ⟨by omega, by omega⟩ ⟨by decide, by decide⟩ (fun h18 => ?_) (fun h18 => ?_)
        · have nxr : ¬ ∃ q, RFD σ (σ.2.2 24 0) q := fun z => by obtain ⟨q, z⟩ := z; exact rbs.2 (by omega) q z.1 z.2.1 z.2.2.1
          refine tm_aload_n dX12_oneRoutine_58 rfl 1 rfl ?_
          refine tm_get (k := 44) (v := .ref (b + 1 + 22)) lay_12 dX12_oneRoutine_59 (by decide) fl12_82 rfl ?_
          refine tm_aload_n dX12_oneRoutine_62 rfl 1 rfl ?_
          refine tm_getS (k := 43) (t := σ.1 43) dX12_oneRoutine_63 (by decide) fl12_376 rfl (rfl) ?_
          have g19 := RG.s hR 43
          refine tm_aload_n dX12_oneRoutine_66 rfl 1 rfl ?_
          refine tm_getW (t := σ.2.2 24 0) dX12_oneRoutine_67 fl12_219 (rfl) ?_
          refine tm_last (z := σ.1 43) (v := σ.2.2 24 0) dX12_oneRoutine_70 (show mT[22]? = some (44, 3, 260) from rfl) (by decide) (by omega) (by omega) (by decide) ?_
          refine tm_aload_n dX12_oneRoutine_71 rfl 1 rfl ?_
          refine tm_dup dX12_oneRoutine_72 rfl ?_
          refine tm_getS (k := 43) (t := σ.1 43) dX12_oneRoutine_73 (by decide) fl12_376 rfl (rs_J (rfl)) ?_
          have g20 := RG.s hR 43
          refine tm_iconst dX12_oneRoutine_76 ?_
          refine tm_iadd dX12_oneRoutine_77 ?_
          refine tm_putS (k := 43) (v := (σ.1 43) + 1) lay_12 dX12_oneRoutine_78 (by decide) fl12_376 rfl (tyX12_ok 43 (by decide)) rfl rfl rfl ?_
          refine tm_sub [0, 1] rfl (b_one81 (d) (σ := (sS 43 ((σ.1 43) + 1) (sJ 44 (σ.1 43) (σ.2.2 24 0) σ))) (p := σ.1 19) (ρ := σ) ((hR.J).S (by omega)) hoh ⟨((Fr.rfl.J (by decide)).S (by decide)), (show FLT σ (sS 43 ((σ.1 43) + 1) (sJ 44 (σ.1 43) (σ.2.2 24 0) σ)) from FLT.eq rfl), hoh.2.2.2.2.2.1.fr (show Fr [26, 27, 43] [] [44] σ (sS 43 ((σ.1 43) + 1) (sJ 44 (σ.1 43) (σ.2.2 24 0) σ)) from ((Fr.rfl.J (by decide)).S (by decide))) (by decide), fun z => absurd (by omega) z, fun _ => ⟨(show (sS 43 ((σ.1 43) + 1) (sJ 44 (σ.1 43) (σ.2.2 24 0) σ)).1 43 = σ.1 43 + 1 from rs_eq), fun r _ => by rw [(show Fr [26, 27, 43] [] [44] σ (sS 43 ((σ.1 43) + 1) (sJ 44 (σ.1 43) (σ.2.2 24 0) σ)) from ((Fr.rfl.J (by decide)).S (by decide))).2.1 35 (by decide), (show Fr [26, 27, 43] [] [44] σ (sS 43 ((σ.1 43) + 1) (sJ 44 (σ.1 43) (σ.2.2 24 0) σ)) from ((Fr.rfl.J (by decide)).S (by decide))).2.1 36 (by decide)]; exact ⟨rfl, rfl⟩, fun j _ => by rw [(show Fr [26, 27, 43] [] [44] σ (sS 43 ((σ.1 43) + 1) (sJ 44 (σ.1 43) (σ.2.2 24 0) σ)) from ((Fr.rfl.J (by decide)).S (by decide))).2.1 45 (by decide)], (fun _ => by omega)⟩, by rw [show (sS 43 ((σ.1 43) + 1) (sJ 44 (σ.1 43) (σ.2.2 24 0) σ)).1 43 = σ.1 43 + 1 from rs_eq]; omega⟩ (show Fr [26, 27, 43] [] [44] σ (sS 43 ((σ.1 43) + 1) (sJ 44 (σ.1 43) (σ.2.2 24 0) σ)) from ((Fr.rfl.J (by decide)).S (by decide))) nmw (by unfold rnP; rw [ifP_t (by omega), ifP_f nxr, ifP_f (by omega)]) rfl (by omega) (fun v τ z1 z2 z3 z4 z5 z6 => ⟨_, rfl, z3, z1, z2, z4, z5, z6⟩) _  rfl)
        · refine tm_aload_n dX12_oneRoutine_52 rfl 1 rfl ?_
          refine tm_iconst dX12_oneRoutine_53 ?_
          refine tm_iload_n dX12_oneRoutine_54 rfl 0 rfl ?_
          refine tm_callV (M := m_X12_oneRoutine) (pc := 55) (ix := 274) (M' := m_X12_note) (As := [.int (iI 2), .int (iI (σ.1 19))]) (rest := []) dX12_oneRoutine_55 ok_X12_note im_X12_note se_X12_note ml12_274 np_X12_note rfl rfl (Nat.le_of_ble_eq_true rfl) (Nat.le_of_ble_eq_true rfl) rfl (c2_X12_note (d + 61) (σ := σ) (f := 2) (p := σ.1 19) hR (by omega) (by omega)) (fun r21 σ22 hp => ?_)
          obtain ⟨rfl, f24, f25, f26, f27, f28⟩ := hp
          show Tm _ _ 58 b σ22 [(1, .int (iI (σ.1 19))), (0, .ref b)] [] _
          have nt2f := f26
          have nt2n := f27
          have nt2e := f28
          have exr : ∃ q, RFD σ (σ.2.2 24 0) q := ⟨_, rbs.rfd (by omega) rbq.2⟩
          refine tm_aload_n dX12_oneRoutine_58 rfl 1 rfl ?_
          refine tm_get (k := 44) (v := .ref (b + 1 + 22)) lay_12 dX12_oneRoutine_59 (by decide) fl12_82 rfl ?_
          refine tm_aload_n dX12_oneRoutine_62 rfl 1 rfl ?_
          refine tm_getS (k := 43) (t := σ.1 43) dX12_oneRoutine_63 (by decide) fl12_376 rfl (rs_F f24 (by decide) (rfl)) ?_
          have g29 := RG.s hR 43
          refine tm_aload_n dX12_oneRoutine_66 rfl 1 rfl ?_
          refine tm_getW (t := σ.2.2 24 0) dX12_oneRoutine_67 fl12_219 (rj_F f24 (by decide) (rfl)) ?_
          refine tm_last (z := σ.1 43) (v := σ.2.2 24 0) dX12_oneRoutine_70 (show mT[22]? = some (44, 3, 260) from rfl) (by decide) (by omega) (by omega) (by decide) ?_
          refine tm_aload_n dX12_oneRoutine_71 rfl 1 rfl ?_
          refine tm_dup dX12_oneRoutine_72 rfl ?_
          refine tm_getS (k := 43) (t := σ.1 43) dX12_oneRoutine_73 (by decide) fl12_376 rfl (rs_J (rs_F f24 (by decide) (rfl))) ?_
          have g30 := RG.s hR 43
          refine tm_iconst dX12_oneRoutine_76 ?_
          refine tm_iadd dX12_oneRoutine_77 ?_
          refine tm_putS (k := 43) (v := (σ.1 43) + 1) lay_12 dX12_oneRoutine_78 (by decide) fl12_376 rfl (tyX12_ok 43 (by decide)) rfl rfl rfl ?_
          refine tm_sub [0, 1] rfl (b_one81 (d) (σ := (sS 43 ((σ.1 43) + 1) (sJ 44 (σ.1 43) (σ.2.2 24 0) σ22))) (p := σ.1 19) (ρ := σ) ((f25.J).S (by omega)) hoh ⟨(((Fr.rfl.trans (Fr.sub f24 (by decide) (by decide) (by decide))).J (by decide)).S (by decide)), (show FLT σ (sS 43 ((σ.1 43) + 1) (sJ 44 (σ.1 43) (σ.2.2 24 0) σ22)) from nt2f), hoh.2.2.2.2.2.1.fr (show Fr [26, 27, 43] [] [44] σ (sS 43 ((σ.1 43) + 1) (sJ 44 (σ.1 43) (σ.2.2 24 0) σ22)) from (((Fr.rfl.trans (Fr.sub f24 (by decide) (by decide) (by decide))).J (by decide)).S (by decide))) (by decide), fun z => absurd (by omega) z, fun _ => ⟨(show (sS 43 ((σ.1 43) + 1) (sJ 44 (σ.1 43) (σ.2.2 24 0) σ22)).1 43 = σ.1 43 + 1 from rs_eq), fun r _ => by rw [(show Fr [26, 27, 43] [] [44] σ (sS 43 ((σ.1 43) + 1) (sJ 44 (σ.1 43) (σ.2.2 24 0) σ22)) from (((Fr.rfl.trans (Fr.sub f24 (by decide) (by decide) (by decide))).J (by decide)).S (by decide))).2.1 35 (by decide), (show Fr [26, 27, 43] [] [44] σ (sS 43 ((σ.1 43) + 1) (sJ 44 (σ.1 43) (σ.2.2 24 0) σ22)) from (((Fr.rfl.trans (Fr.sub f24 (by decide) (by decide) (by decide))).J (by decide)).S (by decide))).2.1 36 (by decide)]; exact ⟨rfl, rfl⟩, fun j _ => by rw [(show Fr [26, 27, 43] [] [44] σ (sS 43 ((σ.1 43) + 1) (sJ 44 (σ.1 43) (σ.2.2 24 0) σ22)) from (((Fr.rfl.trans (Fr.sub f24 (by decide) (by decide) (by decide))).J (by decide)).S (by decide))).2.1 45 (by decide)], (fun _ => by omega)⟩, by rw [show (sS 43 ((σ.1 43) + 1) (sJ 44 (σ.1 43) (σ.2.2 24 0) σ22)).1 43 = σ.1 43 + 1 from rs_eq]; omega⟩ (show Fr [26, 27, 43] [] [44] σ (sS 43 ((σ.1 43) + 1) (sJ 44 (σ.1 43) (σ.2.2 24 0) σ22)) from (((Fr.rfl.trans (Fr.sub f24 (by decide) (by decide) (by decide))).J (by decide)).S (by decide))) nmw (by unfold rnP; rw [ifP_t (by omega), ifP_t exr, ifP_f (by omega)]; rw [← nt2e]) rfl (by omega) (fun v τ z1 z2 z3 z4 z5 z6 => ⟨_, rfl, z3, z1, z2, z4, z5, z6⟩) _  rfl)
      · refine tm_aload_n dX12_oneRoutine_34 rfl 1 rfl ?_
        refine tm_iconst dX12_oneRoutine_35 ?_
        refine tm_iload_n dX12_oneRoutine_36 rfl 0 rfl ?_
        refine tm_callV (M := m_X12_oneRoutine) (pc := 37) (ix := 274) (M' := m_X12_note) (As := [.int (iI 5), .int (iI (σ.1 19))]) (rest := []) dX12_oneRoutine_37 ok_X12_note im_X12_note se_X12_note ml12_274 np_X12_note rfl rfl (Nat.le_of_ble_eq_true rfl) (Nat.le_of_ble_eq_true rfl) rfl (c2_X12_note (d + 61) (σ := σ) (f := 5) (p := σ.1 19) hR (by omega) (by omega)) (fun r31 σ32 hp => ?_)
        obtain ⟨rfl, f34, f35, f36, f37, f38⟩ := hp
        show Tm _ _ 40 b σ32 [(1, .int (iI (σ.1 19))), (0, .ref b)] [] _
        have nt1f := f36
        have nt1n := f37
        have nt1e : σ32 = ntP 5 (σ.1 19) σ := f38
        refine tm_aload_n dX12_oneRoutine_40 rfl 1 rfl ?_
        refine tm_aload_n dX12_oneRoutine_41 rfl 1 rfl ?_
        refine tm_getW (t := σ.2.2 24 0) dX12_oneRoutine_42 fl12_219 (rj_F f34 (by decide) (rfl)) ?_
        refine tm_callV (M := m_X12_oneRoutine) (pc := 45) (ix := 363) (M' := m_X12_routineBy) (As := [.long (σ.2.2 24 0)]) (rest := []) dX12_oneRoutine_45 ok_X12_routineBy im_X12_routineBy se_X12_routineBy ml12_363 np_X12_routineBy rfl rfl (Nat.le_of_ble_eq_true rfl) (Nat.le_of_ble_eq_true rfl) rfl (c2_X12_routineBy (d + 61) (σ := σ32) (w := σ.2.2 24 0) f35 (by rw [show σ32.1 43 = σ.1 43 from rs_F f34 (by decide) (rfl)]; exact oh43.1)) (fun r39 σ40 hp => ?_)
        obtain ⟨v41, rfl, rfl, f42, f43⟩ := hp
        show Tm _ _ 48 b σ32 [(1, .int (iI (σ.1 19))), (0, .ref b)] [.int (iI v41)] _
        have k43 : σ32.1 43 = σ.1 43 := rs_F f34 (by decide) (rfl)
        have rbq := f42
        have rbs : RBY σ (σ.2.2 24 0) (v41) := (f43).bt (TBm.of (show Fr [26, 27] [] [] σ σ32 from (Fr.rfl.trans (Fr.sub f34 (by decide) (by decide) (by decide)))) (by decide) (by decide) (by decide) (by decide))
        rw [k43] at rbq
        have rbv := rbq
        refine tm_iconst dX12_oneRoutine_48 ?_
        refine tm_icmp_eq (tgt := 58) dX12_oneRoutine_49 (by decide) ⟨by omega, by omega⟩ ⟨by decide, by decide⟩ (fun h44 => ?_) (fun h44 => ?_)
        · have nxr : ¬ ∃ q, RFD σ (σ.2.2 24 0) q := fun z => by obtain ⟨q, z⟩ := z; exact rbs.2 (by omega) q z.1 z.2.1 z.2.2.1
          refine tm_aload_n dX12_oneRoutine_58 rfl 1 rfl ?_
          refine tm_get (k := 44) (v := .ref (b + 1 + 22)) lay_12 dX12_oneRoutine_59 (by decide) fl12_82 rfl ?_
          refine tm_aload_n dX12_oneRoutine_62 rfl 1 rfl ?_
          refine tm_getS (k := 43) (t := σ.1 43) dX12_oneRoutine_63 (by decide) fl12_376 rfl (rs_F f34 (by decide) (rfl)) ?_
          have g45 := RG.s hR 43
          refine tm_aload_n dX12_oneRoutine_66 rfl 1 rfl ?_
          refine tm_getW (t := σ.2.2 24 0) dX12_oneRoutine_67 fl12_219 (rj_F f34 (by decide) (rfl)) ?_
          refine tm_last (z := σ.1 43) (v := σ.2.2 24 0) dX12_oneRoutine_70 (show mT[22]? = some (44, 3, 260) from rfl) (by decide) (by omega) (by omega) (by decide) ?_
          refine tm_aload_n dX12_oneRoutine_71 rfl 1 rfl ?_
          refine tm_dup dX12_oneRoutine_72 rfl ?_
          refine tm_getS (k := 43) (t := σ.1 43) dX12_oneRoutine_73 (by decide) fl12_376 rfl (rs_J (rs_F f34 (by decide) (rfl))) ?_
          have g46 := RG.s hR 43
          refine tm_iconst dX12_oneRoutine_76 ?_
          refine tm_iadd dX12_oneRoutine_77 ?_
          refine tm_putS (k := 43) (v := (σ.1 43) + 1) lay_12 dX12_oneRoutine_78 (by decide) fl12_376 rfl (tyX12_ok 43 (by decide)) rfl rfl rfl ?_
          refine tm_sub [0, 1] rfl (b_one81 (d) (σ := (sS 43 ((σ.1 43) + 1) (sJ 44 (σ.1 43) (σ.2.2 24 0) σ32))) (p := σ.1 19) (ρ := σ) ((f35.J).S (by omega)) hoh ⟨(((Fr.rfl.trans (Fr.sub f34 (by decide) (by decide) (by decide))).J (by decide)).S (by decide)), (show FLT σ (sS 43 ((σ.1 43) + 1) (sJ 44 (σ.1 43) (σ.2.2 24 0) σ32)) from nt1f), hoh.2.2.2.2.2.1.fr (show Fr [26, 27, 43] [] [44] σ (sS 43 ((σ.1 43) + 1) (sJ 44 (σ.1 43) (σ.2.2 24 0) σ32)) from (((Fr.rfl.trans (Fr.sub f34 (by decide) (by decide) (by decide))).J (by decide)).S (by decide))) (by decide), fun z => absurd (by omega) z, fun _ => ⟨(show (sS 43 ((σ.1 43) + 1) (sJ 44 (σ.1 43) (σ.2.2 24 0) σ32)).1 43 = σ.1 43 + 1 from rs_eq), fun r _ => by rw [(show Fr [26, 27, 43] [] [44] σ (sS 43 ((σ.1 43) + 1) (sJ 44 (σ.1 43) (σ.2.2 24 0) σ32)) from (((Fr.rfl.trans (Fr.sub f34 (by decide) (by decide) (by decide))).J (by decide)).S (by decide))).2.1 35 (by decide), (show Fr [26, 27, 43] [] [44] σ (sS 43 ((σ.1 43) + 1) (sJ 44 (σ.1 43) (σ.2.2 24 0) σ32)) from (((Fr.rfl.trans (Fr.sub f34 (by decide) (by decide) (by decide))).J (by decide)).S (by decide))).2.1 36 (by decide)]; exact ⟨rfl, rfl⟩, fun j _ => by rw [(show Fr [26, 27, 43] [] [44] σ (sS 43 ((σ.1 43) + 1) (sJ 44 (σ.1 43) (σ.2.2 24 0) σ32)) from (((Fr.rfl.trans (Fr.sub f34 (by decide) (by decide) (by decide))).J (by decide)).S (by decide))).2.1 45 (by decide)], (fun z => absurd z (by have y := nt1n (by omega); exact y))⟩, by rw [show (sS 43 ((σ.1 43) + 1) (sJ 44 (σ.1 43) (σ.2.2 24 0) σ32)).1 43 = σ.1 43 + 1 from rs_eq]; omega⟩ (show Fr [26, 27, 43] [] [44] σ (sS 43 ((σ.1 43) + 1) (sJ 44 (σ.1 43) (σ.2.2 24 0) σ32)) from (((Fr.rfl.trans (Fr.sub f34 (by decide) (by decide) (by decide))).J (by decide)).S (by decide))) nmw (by unfold rnP; rw [ifP_t (by omega), ifP_f nxr, ifP_t (by omega)]; rw [← nt1e]) rfl (by omega) (fun v τ z1 z2 z3 z4 z5 z6 => ⟨_, rfl, z3, z1, z2, z4, z5, z6⟩) _  rfl)
        · refine tm_aload_n dX12_oneRoutine_52 rfl 1 rfl ?_
          refine tm_iconst dX12_oneRoutine_53 ?_
          refine tm_iload_n dX12_oneRoutine_54 rfl 0 rfl ?_
          refine tm_callV (M := m_X12_oneRoutine) (pc := 55) (ix := 274) (M' := m_X12_note) (As := [.int (iI 2), .int (iI (σ.1 19))]) (rest := []) dX12_oneRoutine_55 ok_X12_note im_X12_note se_X12_note ml12_274 np_X12_note rfl rfl (Nat.le_of_ble_eq_true rfl) (Nat.le_of_ble_eq_true rfl) rfl (c2_X12_note (d + 61) (σ := σ32) (f := 2) (p := σ.1 19) f35 (by omega) (by omega)) (fun r47 σ48 hp => ?_)
          obtain ⟨rfl, f50, f51, f52, f53, f54⟩ := hp
          show Tm _ _ 58 b σ48 [(1, .int (iI (σ.1 19))), (0, .ref b)] [] _
          have nt2f := f52
          have nt2n := f53
          have nt2e := f54
          have exr : ∃ q, RFD σ (σ.2.2 24 0) q := ⟨_, rbs.rfd (by omega) rbq.2⟩
          refine tm_aload_n dX12_oneRoutine_58 rfl 1 rfl ?_
          refine tm_get (k := 44) (v := .ref (b + 1 + 22)) lay_12 dX12_oneRoutine_59 (by decide) fl12_82 rfl ?_
          refine tm_aload_n dX12_oneRoutine_62 rfl 1 rfl ?_
          refine tm_getS (k := 43) (t := σ.1 43) dX12_oneRoutine_63 (by decide) fl12_376 rfl (rs_F f50 (by decide) (rs_F f34 (by decide) (rfl))) ?_
          have g55 := RG.s hR 43
          refine tm_aload_n dX12_oneRoutine_66 rfl 1 rfl ?_
          refine tm_getW (t := σ.2.2 24 0) dX12_oneRoutine_67 fl12_219 (rj_F f50 (by decide) (rj_F f34 (by decide) (rfl))) ?_
          refine tm_last (z := σ.1 43) (v := σ.2.2 24 0) dX12_oneRoutine_70 (show mT[22]? = some (44, 3, 260) from rfl) (by decide) (by omega) (by omega) (by decide) ?_
          refine tm_aload_n dX12_oneRoutine_71 rfl 1 rfl ?_
          refine tm_dup dX12_oneRoutine_72 rfl ?_
          refine tm_getS (k := 43) (t := σ.1 43) dX12_oneRoutine_73 (by decide) fl12_376 rfl (rs_J (rs_F f50 (by decide) (rs_F f34 (by decide) (rfl)))) ?_
          have g56 := RG.s hR 43
          refine tm_iconst dX12_oneRoutine_76 ?_
          refine tm_iadd dX12_oneRoutine_77 ?_
          refine tm_putS (k := 43) (v := (σ.1 43) + 1) lay_12 dX12_oneRoutine_78 (by decide) fl12_376 rfl (tyX12_ok 43 (by decide)) rfl rfl rfl ?_
          refine tm_sub [0, 1] rfl (b_one81 (d) (σ := (sS 43 ((σ.1 43) + 1) (sJ 44 (σ.1 43) (σ.2.2 24 0) σ48))) (p := σ.1 19) (ρ := σ) ((f51.J).S (by omega)) hoh ⟨((((Fr.rfl.trans (Fr.sub f34 (by decide) (by decide) (by decide))).trans (Fr.sub f50 (by decide) (by decide) (by decide))).J (by decide)).S (by decide)), (show FLT σ (sS 43 ((σ.1 43) + 1) (sJ 44 (σ.1 43) (σ.2.2 24 0) σ48)) from (nt1f).trans (nt2f)), hoh.2.2.2.2.2.1.fr (show Fr [26, 27, 43] [] [44] σ (sS 43 ((σ.1 43) + 1) (sJ 44 (σ.1 43) (σ.2.2 24 0) σ48)) from ((((Fr.rfl.trans (Fr.sub f34 (by decide) (by decide) (by decide))).trans (Fr.sub f50 (by decide) (by decide) (by decide))).J (by decide)).S (by decide))) (by decide), fun z => absurd (by omega) z, fun _ => ⟨(show (sS 43 ((σ.1 43) + 1) (sJ 44 (σ.1 43) (σ.2.2 24 0) σ48)).1 43 = σ.1 43 + 1 from rs_eq), fun r _ => by rw [(show Fr [26, 27, 43] [] [44] σ (sS 43 ((σ.1 43) + 1) (sJ 44 (σ.1 43) (σ.2.2 24 0) σ48)) from ((((Fr.rfl.trans (Fr.sub f34 (by decide) (by decide) (by decide))).trans (Fr.sub f50 (by decide) (by decide) (by decide))).J (by decide)).S (by decide))).2.1 35 (by decide), (show Fr [26, 27, 43] [] [44] σ (sS 43 ((σ.1 43) + 1) (sJ 44 (σ.1 43) (σ.2.2 24 0) σ48)) from ((((Fr.rfl.trans (Fr.sub f34 (by decide) (by decide) (by decide))).trans (Fr.sub f50 (by decide) (by decide) (by decide))).J (by decide)).S (by decide))).2.1 36 (by decide)]; exact ⟨rfl, rfl⟩, fun j _ => by rw [(show Fr [26, 27, 43] [] [44] σ (sS 43 ((σ.1 43) + 1) (sJ 44 (σ.1 43) (σ.2.2 24 0) σ48)) from ((((Fr.rfl.trans (Fr.sub f34 (by decide) (by decide) (by decide))).trans (Fr.sub f50 (by decide) (by decide) (by decide))).J (by decide)).S (by decide))).2.1 45 (by decide)], (fun z => absurd z (by have y := nt1n (by omega); have y2 := nt2f.1 y; exact y2))⟩, by rw [show (sS 43 ((σ.1 43) + 1) (sJ 44 (σ.1 43) (σ.2.2 24 0) σ48)).1 43 = σ.1 43 + 1 from rs_eq]; omega⟩ (show Fr [26, 27, 43] [] [44] σ (sS 43 ((σ.1 43) + 1) (sJ 44 (σ.1 43) (σ.2.2 24 0) σ48)) from ((((Fr.rfl.trans (Fr.sub f34 (by decide) (by decide) (by decide))).trans (Fr.sub f50 (by decide) (by decide) (by decide))).J (by decide)).S (by decide))) nmw (by unfold rnP; rw [ifP_t (by omega), ifP_t exr, ifP_t (by omega)]; rw [← nt1e, ← nt2e]) rfl (by omega) (fun v τ z1 z2 z3 z4 z5 z6 => ⟨_, rfl, z3, z1, z2, z4, z5, z6⟩) _  rfl)
  · refine tm_aload_n dX12_oneRoutine_12 rfl 1 rfl ?_
    refine tm_callV (M := m_X12_oneRoutine) (pc := 13) (ix := 261) (M' := m_X12_wrong) (As := []) (rest := []) dX12_oneRoutine_13 ok_X12_wrong im_X12_wrong se_X12_wrong ml12_261 np_X12_wrong rfl rfl (Nat.le_of_ble_eq_true rfl) (Nat.le_of_ble_eq_true rfl) rfl (c_X12_wrong (d + 61) (σ := σ)  hR) (fun r57 σ58 hp => ?_)
    obtain ⟨v59, rfl, f60, f61, f62, f63, f64, f65⟩ := hp
    show Tm _ _ 16 b σ58 [(1, .int (iI (σ.1 19))), (0, .ref b)] [.int (iI v59)] _
    exact tm_zret (v := v59) rfl (by omega) dX12_oneRoutine_16 (⟨_, rfl, by omega, (Fr.rfl.trans (Fr.sub f61 (by decide) (by decide) (by decide))), f62, (PBO.rfl hoh).fin (Fr.sub f61 (by decide) (by decide) (by decide)) (FLT.wr f64 f65) (fun j _ => congrFun (f61.2.1 9 (by decide)) j), fun q => absurd q (by omega), fun _ x => g30f (σ := sS 34 x σ) (nnm_ (by omega)) ((WRG.of f65).x x)⟩)
end
