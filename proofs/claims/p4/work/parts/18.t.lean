theorem dX12_statement_194 : decode cX12_statement 194 = .ok (.aload_n 0, 1) := by decide +kernel
theorem dX12_statement_195 : decode cX12_statement 195 = .ok (.invokevirtual 265, 3) := by decide +kernel
theorem dX12_statement_198 : decode cX12_statement 198 = .ok (.aload_n 0, 1) := by decide +kernel
theorem dX12_statement_199 : decode cX12_statement 199 = .ok (.invokevirtual 327, 3) := by decide +kernel
theorem dX12_statement_202 : decode cX12_statement 202 = .ok (.ifCond .ne 5, 3) := by decide +kernel
theorem dX12_statement_207 : decode cX12_statement 207 = .ok (.aload_n 0, 1) := by decide +kernel
theorem dX12_statement_208 : decode cX12_statement 208 = .ok (.iload_n 3, 1) := by decide +kernel
theorem dX12_statement_209 : decode cX12_statement 209 = .ok (.iconst 0, 1) := by decide +kernel
theorem dX12_statement_210 : decode cX12_statement 210 = .ok (.iconst 0, 1) := by decide +kernel
theorem dX12_statement_211 : decode cX12_statement 211 = .ok (.invokevirtual 294, 3) := by decide +kernel
theorem dX12_statement_214 : decode cX12_statement 214 = .ok (.istore_n 2, 1) := by decide +kernel
theorem dX12_statement_215 : decode cX12_statement 215 = .ok (.aload_n 0, 1) := by decide +kernel
theorem dX12_statement_216 : decode cX12_statement 216 = .ok (.iload_n 2, 1) := by decide +kernel
theorem dX12_statement_217 : decode cX12_statement 217 = .ok (.iconst 0, 1) := by decide +kernel
theorem dX12_statement_218 : decode cX12_statement 218 = .ok (.aload_n 0, 1) := by decide +kernel
theorem dX12_statement_219 : decode cX12_statement 219 = .ok (.getfield 285, 3) := by decide +kernel
theorem dX12_statement_222 : decode cX12_statement 222 = .ok (.aload_n 0, 1) := by decide +kernel
theorem dX12_statement_223 : decode cX12_statement 223 = .ok (.getfield 288, 3) := by decide +kernel
theorem dX12_statement_226 : decode cX12_statement 226 = .ok (.invokevirtual 298, 3) := by decide +kernel
theorem dX12_statement_229 : decode cX12_statement 229 = .ok (.aload_n 0, 1) := by decide +kernel
theorem dX12_statement_230 : decode cX12_statement 230 = .ok (.bipush 59, 2) := by decide +kernel
theorem dX12_statement_232 : decode cX12_statement 232 = .ok (.invokevirtual 330, 3) := by decide +kernel
theorem dX12_statement_235 : decode cX12_statement 235 = .ok (.ireturn, 1) := by decide +kernel
theorem dX12_statement_205 : decode cX12_statement 205 = .ok (.iconst 0, 1) := by decide +kernel
theorem dX12_statement_206 : decode cX12_statement 206 = .ok (.ireturn, 1) := by decide +kernel
set_option maxHeartbeats 4000000 in
set_option maxRecDepth 20000 in
theorem b_stm194 (d : Nat) {b : Nat} {σ : MS} {k3 : Int} {ρ : MS} {post : Option Value → MS → Prop} (hR : RG σ) (hln : LNP 1 ρ σ) (hli : LIT ρ σ) (hg : ∀ c : Int, GOS [20] ρ (qq c) [39] σ (qq c) []) (h28 : σ.1 28 = 0) (hk67 : k3 = 6 ∨ k3 = 7) (hret : ∀ (v : Int) (τ : MS), Fr [19, 20, 22, 23, 26, 27, 28, 29, 31, 32, 33, 34, 39, 40] [3, 4, 5, 6, 7, 8, 35, 37, 41, 42] [24, 38] σ τ → RG τ → (v = 0 ∨ v = 1) → PBF ρ τ → (v = 1 → BLQ 20 2 ρ τ) → (v = 0 → ∀ c : Int, GOF [20] ρ (qq c) τ) → post (some (.int (iI v))) τ) : ∀ (n : Nat) , ((0 : Int)).toNat = n → Tm (d + 41) m_X12_statement 194 b σ [(3, .int (iI k3)), (0, .ref b)] [] post := by
  intro n
  induction n using Nat.strongRecOn with
  | _ n ih =>
    intro   hm
    have tk0 := hln.tok.1
    have rd0 := hln.1.2
    have f0 := hln.2.2.1
    have e30_ := f0.1 30 (by decide)
    have e34_ := hln.2.2.2.2.1
    have nn0 : NN σ := hln.2.2.2.1.2.2.1
    have h0c := hln.h0
    have e28r : ρ.1 28 = 0 := (f0.1 28 (by decide)).symm.trans h28
    have e29r := f0.1 29 (by decide)
    have e33r := f0.1 33 (by decide)
    refine tm_aload_n dX12_statement_194 rfl 1 rfl ?_
    refine tm_callV (M := m_X12_statement) (pc := 195) (ix := 265) (M' := m_X12_advance) (As := []) (rest := []) dX12_statement_195 ok_X12_advance im_X12_advance se_X12_advance ml12_265 np_X12_advance rfl rfl (Nat.le_of_ble_eq_true rfl) (Nat.le_of_ble_eq_true rfl) rfl (c_X12_advance (d + 35) (σ := σ)  hR (by omega)) (fun r1 σ2 hp => ?_)
    obtain ⟨rfl, f4, f5, f6, f7, f8⟩ := hp
    show Tm _ _ 198 b σ2 [(3, .int (iI k3)), (0, .ref b)] [] _
    have ad0 := f4
    have ad1 := f5
    have ad2 := f6
    have ad3 := f7
    have ad4 := f8
    have fA1 := (show Fr [19, 20, 22, 23, 26, 27] [35] [24, 38] σ σ2 from (Fr.rfl.trans (Fr.sub f5 (by decide) (by decide) (by decide))))
    have pb1 : PBF σ σ2 := PBF.nop nn0 ad1 (by decide) (by decide) (by decide)
    have ts1 : TS 20 (2 - 1) ρ [2, 51, 159] σ2 qq [] := TS.line hln (by decide) fA1 pb1 ad3 ad4 ((hg _).then (g39 ad0))
    have tk1 := ad3.1
    have e281 : σ2.1 28 = 0 := (ad1.1 28 (by decide)).trans h28
    refine tm_aload_n dX12_statement_198 rfl 1 rfl ?_
    refine tm_callV (M := m_X12_statement) (pc := 199) (ix := 327) (M' := m_X12_expression) (As := []) (rest := []) dX12_statement_199 ok_X12_expression im_X12_expression se_X12_expression ml12_327 np_X12_expression rfl rfl (Nat.le_of_ble_eq_true rfl) (Nat.le_of_ble_eq_true rfl) rfl (c_exp8 (d) (σ := σ2)  f6 ts1.2.2.1 ts1.nn e281) (fun r9 σ10 hp => ?_)
    obtain ⟨v11, rfl, f12, f13, f14, f15, f16, f17, f18⟩ := hp
    show Tm _ _ 202 b σ10 [(3, .int (iI k3)), (0, .ref b)] [.int (iI v11)] _
    have xp0 := f12
    have xp1 := f13
    have xp2 := f14
    have xp3 := f15
    have xp4 := f16
    have xp5 := f17
    have xp6 := f18
    refine tm_if_ne (tgt := 207) dX12_statement_202 (by decide) ⟨by omega, by omega⟩ (fun h19 => ?_) (fun h19 => ?_)
    · have ts2 := ts1.exp xp1 xp3 (xp4 (by omega)) (xp5.1 (by omega))
      have ex4 := xp4 (by omega)
      have gt := ex4.2.2.1
      unfold GTm at gt
      have rdx := ts2.2.2.1.2
      have tkx := ts2.2.2.1.1.1
      have acx := ex4.2.2.2.1
      have tbx := TBm.of xp1 (by decide) (by decide) (by decide) (by decide)
      have e33x := xp1.1 33 (by decide)
      have e33s : σ10.1 33 = σ.1 33 := rs_F f13 (by decide) (rs_F f5 (by decide) (rfl))
      refine tm_aload_n dX12_statement_207 rfl 1 rfl ?_
      refine tm_iload_n dX12_statement_208 rfl 0 rfl ?_
      refine tm_iconst dX12_statement_209 ?_
      refine tm_iconst dX12_statement_210 ?_
      refine tm_callV (M := m_X12_statement) (pc := 211) (ix := 294) (M' := m_X12_put) (As := [.int (iI k3), .int (iI 0), .int (iI 0)]) (rest := []) dX12_statement_211 ok_X12_put im_X12_put se_X12_put ml12_294 np_X12_put rfl rfl (Nat.le_of_ble_eq_true rfl) (Nat.le_of_ble_eq_true rfl) rfl (c_X12_put (d + 38) (σ := σ10) (k := k3) (e := 0) (o := 0) f14 (by rw [show σ10.1 30 = σ.1 30 from rs_F f13 (by decide) (rs_F f5 (by decide) (rfl)), show σ10.1 34 = σ10.1 34 from rfl]; omega) (by omega) (by omega) (by omega)) (fun r20 σ21 hp => ?_)
      obtain ⟨v22, rfl, f23, f24, f25, f26, f27, f28, f29⟩ := hp
      show Tm _ _ 214 b σ21 [(3, .int (iI k3)), (0, .ref b)] [.int (iI v22)] _
      have jvP := f25
      have jnP := f26
      have jiP := f27
      have joP := f28
      have jrP := f29
      refine tm_istore_n (L' := [(2, .int (iI v22)), (3, .int (iI k3)), (0, .ref b)]) dX12_statement_214 rfl (by decide) rfl ?_
      refine tm_aload_n dX12_statement_215 rfl 2 rfl ?_
      refine tm_iload_n dX12_statement_216 rfl 0 rfl ?_
      refine tm_iconst dX12_statement_217 ?_
      refine tm_aload_n dX12_statement_218 rfl 2 rfl ?_
      refine tm_getS (k := 39) (t := σ10.1 39) dX12_statement_219 (by decide) fl12_285 rfl (rs_F f23 (by decide) (rfl)) ?_
      have g30 := RG.s f14 39
      refine tm_aload_n dX12_statement_222 rfl 2 rfl ?_
      refine tm_getS (k := 40) (t := σ10.1 40) dX12_statement_223 (by decide) fl12_288 rfl (rs_F f23 (by decide) (rfl)) ?_
      have g31 := RG.s f14 40
      refine tm_callV (M := m_X12_statement) (pc := 226) (ix := 298) (M' := m_X12_setArg) (As := [.int (iI v22), .int (iI 0), .int (iI (σ10.1 39)), .int (iI (σ10.1 40))]) (rest := []) dX12_statement_226 ok_X12_setArg im_X12_setArg se_X12_setArg ml12_298 np_X12_setArg rfl rfl (Nat.le_of_ble_eq_true rfl) (Nat.le_of_ble_eq_true rfl) rfl (c_X12_setArg (d + 39) (σ := σ21) (x := v22) (i := 0) (k := σ10.1 39) (w := σ10.1 40) (by omega)) (fun r32 σ33 hp => ?_)
      obtain ⟨rfl, f35⟩ := hp
      subst f35
      show Tm _ _ 229 b (fArg (v22) (0) (σ10.1 39) (σ10.1 40) σ21) [(2, .int (iI v22)), (3, .int (iI k3)), (0, .ref b)] [] _
      have jvP : _ = PXx σ10 := jvP
      have fAP := (show Fr [33, 34] [3, 4, 5, 6, 7, 8] [] σ10 (fArg (v22) (0) (σ10.1 39) (σ10.1 40) σ21) from ((Fr.rfl.trans (Fr.sub f23 (by decide) (by decide) (by decide))).trans (Fr.sub fArg_fr (by decide) (by decide) (by decide))))
      have eAP : (fArg (v22) (0) (σ10.1 39) (σ10.1 40) σ21).1 34 = σ10.1 34 + 1 := jnP
      have pbP : PBF σ10 (fArg (v22) (0) (σ10.1 39) (σ10.1 40) σ21) := PBF.it ts2.nn fAP (by decide) (by decide) (by decide) eAP jvP (joP.trans (OFF.arg (by decide) (by decide)))
      have tbP : TBm σ10 (fArg (v22) (0) (σ10.1 39) (σ10.1 40) σ21) := TBm.of fAP (by decide) (by decide) (by decide) (by decide)
      have e33P : (fArg (v22) (0) (σ10.1 39) (σ10.1 40) σ21).1 33 = σ10.1 33 := f23.1 33 (by decide)
      have ts3 := ts2.puts (m := 1) fAP pbP eAP (by omega) (by decide) hln.1 (g51 (CHG.put fAP (by decide) (by decide) (by decide) eAP))
      have pq2 := pb1.trans xp3
      have ac2 : AC σ σ10 := (AC.nil (ad1.1 34 (by decide))).trans pb1 acx xp3 (by omega)
      have e331 := ad1.1 33 (by decide)
      have asP : ASF σ (fArg (v22) (0) (σ10.1 39) (σ10.1 40) σ21) [] := (ASF.num ac2 pq2 (by omega)).snoc pq2 pbP tbP eAP (fun z1 z2 z3 => by rw [← jvP]; exact oki_arg1 jiP (by omega) (fun q => by omega) (fun q => by omega) (by omega)) (by rw [← jvP]; have z := jiP.1; rcases hk67 with q | q; exact Or.inr (Or.inl (by rw [← q]; exact z)); exact Or.inr (Or.inr (Or.inl (by rw [← q]; exact z)))) (by omega)
      have pqP := pq2.trans pbP
      have tkP := ts3.2.2.1.1.1
      have e28P : (fArg (v22) (0) (σ10.1 39) (σ10.1 40) σ21).1 28 = 0 := (fAP.1 28 (by decide)).trans (xp6.trans e281)
      have tbS : TBm σ (fArg (v22) (0) (σ10.1 39) (σ10.1 40) σ21) := TBm.of (show Fr [19, 20, 22, 23, 26, 27, 28, 32, 34, 39, 40] [3, 4, 5, 6, 7, 8, 35] [24, 38] σ (fArg (v22) (0) (σ10.1 39) (σ10.1 40) σ21) from ((((Fr.rfl.trans (Fr.sub f5 (by decide) (by decide) (by decide))).trans (Fr.sub f13 (by decide) (by decide) (by decide))).trans (Fr.sub f23 (by decide) (by decide) (by decide))).trans (Fr.sub fArg_fr (by decide) (by decide) (by decide)))) (by decide) (by decide) (by decide) (by decide)
      refine tm_aload_n dX12_statement_229 rfl 2 rfl ?_
      refine tm_bipush dX12_statement_230 (by decide) ?_
      refine tm_callV (M := m_X12_statement) (pc := 232) (ix := 330) (M' := m_X12_need) (As := [.int (iI 59)]) (rest := []) dX12_statement_232 ok_X12_need im_X12_need se_X12_need ml12_330 np_X12_need rfl rfl (Nat.le_of_ble_eq_true rfl) (Nat.le_of_ble_eq_true rfl) rfl (c_X12_need (d + 34) (σ := (fArg (v22) (0) (σ10.1 39) (σ10.1 40) σ21)) (c := 59) ((f24).arg (by omega) (by omega)) (by omega) (by omega)) (fun r36 σ37 hp => ?_)
      obtain ⟨v38, rfl, f39, f40, f41, f42, f43, f44, f45⟩ := hp
      show Tm _ _ 235 b σ37 [(2, .int (iI v22)), (3, .int (iI k3)), (0, .ref b)] [.int (iI v38)] _
      have zn0 := f39
      have zn1 := f40
      have zn2 := f41
      have zn3 := f42
      have zn4 := f43
      have zn5 := f44
      have zn6 := f45
      have pbN : PBF _ σ37 := PBF.of ts3.nn zn1 (by decide) (by decide) (by decide) zn5
      have pqN := pqP.trans pbN
      have e33N := zn1.1 33 (by decide)
      have e29N : σ37.1 29 = σ.1 29 := rs_F f40 (by decide) (rs_F fArg_fr (by decide) (rs_F f23 (by decide) (rs_F f13 (by decide) (rs_F f5 (by decide) (rfl)))))
      exact tm_zret (v := v38) rfl (by omega) dX12_statement_235 (hret _ _ (((((Fr.rfl.trans (Fr.sub f5 (by decide) (by decide) (by decide))).trans (Fr.sub f13 (by decide) (by decide) (by decide))).trans (Fr.sub f23 (by decide) (by decide) (by decide))).trans (Fr.sub fArg_fr (by decide) (by decide) (by decide))).trans (Fr.sub f40 (by decide) (by decide) (by decide))) f41 zn0 (ts3.1.trans pbN) (fun z => have znq := zn3 z; ⟨[], (ts3.needy zn1 znq.2.2.1 znq.2.2.2.1 znq.2.2.2.2 (by have z := znq.1.1; omega) (gn_59 znq.1 znq.2.1)).le (by decide), SGF.line e34_.1 hli hln.2.2.2.1 pqN hln.tb (tbS.trans (TBm.of zn1 (by decide) (by decide) (by decide) (by decide))) (by omega) (asP.mv pqP pbN (TBm.of zn1 (by decide) (by decide) (by decide) (by decide)) (zn1.1 34 (by decide)) (by omega)) h0c, FS.of hli e34_.1 hln.2.2.2.1 pqN h0c, ((zn1.1 28 (by decide)).trans e28P).trans e28r.symm, e29N.trans e29r⟩) (fun z => (ts3.fail pbN (gf_59 (zn4 z) (zn6 z))).2))
    · refine tm_iconst dX12_statement_205 ?_
      exact tm_zret (v := 0) rfl (by decide) dX12_statement_206 (hret _ _ ((Fr.rfl.trans (Fr.sub f5 (by decide) (by decide) (by decide))).trans (Fr.sub f13 (by decide) (by decide) (by decide))) f14 (by omega) (ts1.fail xp3 (xp5.2 (by omega) _)).1 (fun q => absurd q (by omega)) (fun _ => (ts1.fail xp3 (xp5.2 (by omega) _)).2))
theorem ml12_352 : Cond.methodLink RX12 352 yX12_assignment ∈ pWW := pw9 (List.mem_of_getElem? (i := 9) rfl) rfl
theorem ml12_349 : Cond.methodLink RX12 349 yX12_ifStatement ∈ pWW := pw9 (List.mem_of_getElem? (i := 5) rfl) rfl
theorem ml12_346 : Cond.methodLink RX12 346 yX12_whileStatement ∈ pWW := pw8 (List.mem_of_getElem? (i := 201) rfl) rfl
theorem dX12_statement_114 : decode cX12_statement 114 = .ok (.aload_n 0, 1) := by decide +kernel
theorem dX12_statement_115 : decode cX12_statement 115 = .ok (.ldc2_w 250, 3) := by decide +kernel
theorem dX12_statement_118 : decode cX12_statement 118 = .ok (.invokevirtual 339, 3) := by decide +kernel
theorem dX12_statement_121 : decode cX12_statement 121 = .ok (.ifCond .eq 8, 3) := by decide +kernel
theorem dX12_statement_129 : decode cX12_statement 129 = .ok (.aload_n 0, 1) := by decide +kernel
theorem dX12_statement_130 : decode cX12_statement 130 = .ok (.bipush 11, 2) := by decide +kernel
theorem dX12_statement_132 : decode cX12_statement 132 = .ok (.aload_n 0, 1) := by decide +kernel
theorem dX12_statement_133 : decode cX12_statement 133 = .ok (.getfield 343, 3) := by decide +kernel
theorem dX12_statement_136 : decode cX12_statement 136 = .ok (.iconst 0, 1) := by decide +kernel
theorem dX12_statement_137 : decode cX12_statement 137 = .ok (.invokevirtual 294, 3) := by decide +kernel
theorem dX12_statement_140 : decode cX12_statement 140 = .ok (.istore_n 2, 1) := by decide +kernel
theorem dX12_statement_141 : decode cX12_statement 141 = .ok (.aload_n 0, 1) := by decide +kernel
theorem dX12_statement_142 : decode cX12_statement 142 = .ok (.ldc2_w 246, 3) := by decide +kernel
theorem dX12_statement_145 : decode cX12_statement 145 = .ok (.invokevirtual 339, 3) := by decide +kernel
theorem dX12_statement_148 : decode cX12_statement 148 = .ok (.ifCond .eq 8, 3) := by decide +kernel
theorem dX12_statement_156 : decode cX12_statement 156 = .ok (.aload_n 0, 1) := by decide +kernel
theorem dX12_statement_157 : decode cX12_statement 157 = .ok (.ldc2_w 242, 3) := by decide +kernel
theorem dX12_statement_160 : decode cX12_statement 160 = .ok (.invokevirtual 339, 3) := by decide +kernel
theorem dX12_statement_163 : decode cX12_statement 163 = .ok (.ifCond .ne 13, 3) := by decide +kernel
theorem dX12_statement_176 : decode cX12_statement 176 = .ok (.aload_n 0, 1) := by decide +kernel
theorem dX12_statement_177 : decode cX12_statement 177 = .ok (.ldc2_w 242, 3) := by decide +kernel
theorem dX12_statement_180 : decode cX12_statement 180 = .ok (.invokevirtual 339, 3) := by decide +kernel
theorem dX12_statement_183 : decode cX12_statement 183 = .ok (.ifCond .eq 8, 3) := by decide +kernel
theorem dX12_statement_191 : decode cX12_statement 191 = .ok (.bipush 7, 2) := by decide +kernel
theorem dX12_statement_193 : decode cX12_statement 193 = .ok (.istore_n 3, 1) := by decide +kernel
theorem dX12_statement_186 : decode cX12_statement 186 = .ok (.bipush 6, 2) := by decide +kernel
theorem dX12_statement_188 : decode cX12_statement 188 = .ok (.goto 5, 3) := by decide +kernel
theorem dX12_statement_166 : decode cX12_statement 166 = .ok (.aload_n 0, 1) := by decide +kernel
theorem dX12_statement_167 : decode cX12_statement 167 = .ok (.ldc2_w 244, 3) := by decide +kernel
theorem dX12_statement_170 : decode cX12_statement 170 = .ok (.invokevirtual 339, 3) := by decide +kernel
theorem dX12_statement_173 : decode cX12_statement 173 = .ok (.ifCond .eq 63, 3) := by decide +kernel
theorem dX12_statement_236 : decode cX12_statement 236 = .ok (.aload_n 0, 1) := by decide +kernel
theorem dX12_statement_237 : decode cX12_statement 237 = .ok (.invokevirtual 352, 3) := by decide +kernel
theorem dX12_statement_240 : decode cX12_statement 240 = .ok (.ireturn, 1) := by decide +kernel
theorem dX12_statement_151 : decode cX12_statement 151 = .ok (.aload_n 0, 1) := by decide +kernel
theorem dX12_statement_152 : decode cX12_statement 152 = .ok (.invokevirtual 349, 3) := by decide +kernel
theorem dX12_statement_155 : decode cX12_statement 155 = .ok (.ireturn, 1) := by decide +kernel
theorem dX12_statement_124 : decode cX12_statement 124 = .ok (.aload_n 0, 1) := by decide +kernel
theorem dX12_statement_125 : decode cX12_statement 125 = .ok (.invokevirtual 346, 3) := by decide +kernel
theorem dX12_statement_128 : decode cX12_statement 128 = .ok (.ireturn, 1) := by decide +kernel
set_option maxHeartbeats 4000000 in
set_option maxRecDepth 20000 in
theorem b_stm114 (d : Nat) {b : Nat} {σ : MS} {lv : Nat} {ρ : MS} {post : Option Value → MS → Prop} (hcb : ∀ (d : Nat) {b : Nat} {σ : MS} (hR : RG σ) (hrd : RDY σ) (hnn : NN σ) (h28 : σ.1 28 = 0) (h29 : σ.1 29 = 6 - (lv : Int)) (ht : 0 ≤ σ.1 43 ∧ σ.1 43 ≤ 260), Tm (d + 3 * lv + 44) m_X12_block 0 b σ [(0, .ref b)] [] (fun ro σ2 => ∃ v : Int, ro = some (.int (iI v)) ∧ ((v = 0 ∨ v = 1)) ∧ (Fr [19, 20, 22, 23, 26, 27, 28, 29, 31, 32, 33, 34, 39, 40] [3, 4, 5, 6, 7, 8, 35, 37, 41, 42] [24, 38] σ σ2) ∧ (RG σ2) ∧ (PBF σ σ2) ∧ (Im v 1 (BLQ 28 4 σ σ2)) ∧ (Im v 0 (∀ c : Int, GOF [28] σ (qq c) σ2)))) (hR : RG σ) (hln : LNP 0 ρ σ) (hw0 : NMW ρ ∨ WD ρ 7304564 ∨ WD ρ 125780071117422 ∨ WD ρ 26982 ∨ WD ρ 512852847717) (h28 : σ.1 28 = 0) (h29 : σ.1 29 = 6 - (lv : Int)) (ht : 0 ≤ σ.1 43 ∧ σ.1 43 ≤ 260) (hret : ∀ (v : Int) (τ : MS), Fr [19, 20, 22, 23, 26, 27, 28, 29, 31, 32, 33, 34, 39, 40] [3, 4, 5, 6, 7, 8, 35, 37, 41, 42] [24, 38] σ τ → RG τ → (v = 0 ∨ v = 1) → PBF ρ τ → (v = 1 → BLQ 20 2 ρ τ) → (v = 0 → ∀ c : Int, GOF [20] ρ (qq c) τ) → post (some (.int (iI v))) τ) : ∀ (n : Nat) , ((0 : Int)).toNat = n → Tm (d + 3 * lv + 46) m_X12_statement 114 b σ [(0, .ref b)] [] post := by
  intro n
  induction n using Nat.strongRecOn with
  | _ n ih =>
    intro   hm
    have tk0 := hln.tok.1
    have rd0 := hln.1.2
    have f0 := hln.2.2.1
    have e30_ := f0.1 30 (by decide)
    have e34_ := hln.2.2.2.2.1
    have nn0 : NN σ := hln.2.2.2.1.2.2.1
    have h0c := hln.h0
    have e28r : ρ.1 28 = 0 := (f0.1 28 (by decide)).symm.trans h28
    have e29r := f0.1 29 (by decide)
    have e33r := f0.1 33 (by decide)
    have e19_ := f0.1 19 (by decide)
    refine tm_aload_n dX12_statement_114 rfl 0 rfl ?_
    refine tm_ldc2 dX12_statement_115 cst12_250 ?_
    refine tm_callV (M := m_X12_statement) (pc := 118) (ix := 339) (M' := m_X12_isWord) (As := [.long (512852847717)]) (rest := []) dX12_statement_118 ok_X12_isWord im_X12_isWord se_X12_isWord ml12_339 np_X12_isWord rfl rfl (Nat.le_of_ble_eq_true rfl) (Nat.le_of_ble_eq_true rfl) rfl (c2_X12_isWord (d + 3 * lv + 44) (σ := σ) (w := 512852847717) hR) (fun r1 σ2 hp => ?_)
    obtain ⟨v3, rfl, rfl, f4, f5, f6⟩ := hp
    show Tm _ _ 121 b σ [(0, .ref b)] [.int (iI v3)] _
    have iww := f5
    have nww_ := f6
    refine tm_if_eq (tgt := 129) dX12_statement_121 (by decide) ⟨by omega, by omega⟩ (fun h7 => ?_) (fun h7 => ?_)
    · refine tm_aload_n dX12_statement_129 rfl 0 rfl ?_
      refine tm_bipush dX12_statement_130 (by decide) ?_
      refine tm_aload_n dX12_statement_132 rfl 0 rfl ?_
      refine tm_getS (k := 31) (t := σ.1 31) dX12_statement_133 (by decide) fl12_343 rfl (rfl) ?_
      have g8 := RG.s hR 31
      refine tm_iconst dX12_statement_136 ?_
      refine tm_callV (M := m_X12_statement) (pc := 137) (ix := 294) (M' := m_X12_put) (As := [.int (iI 11), .int (iI (σ.1 31)), .int (iI 0)]) (rest := []) dX12_statement_137 ok_X12_put im_X12_put se_X12_put ml12_294 np_X12_put rfl rfl (Nat.le_of_ble_eq_true rfl) (Nat.le_of_ble_eq_true rfl) rfl (c_X12_put (d + 3 * lv + 43) (σ := σ) (k := 11) (e := σ.1 31) (o := 0) hR (by omega) (by omega) (by omega) (by omega)) (fun r9 σ10 hp => ?_)
      obtain ⟨v11, rfl, f12, f13, f14, f15, f16, f17, f18⟩ := hp
      show Tm _ _ 140 b σ10 [(0, .ref b)] [.int (iI v11)] _
      have jvP := f14
      have jnP := f15
      have jiP := f16
      have joP := f17
      have jrP := f18
      refine tm_istore_n (L' := [(2, .int (iI v11)), (0, .ref b)]) dX12_statement_140 rfl (by decide) rfl ?_
      have pbP : PBF σ σ10 := PBF.it nn0 f12 (by decide) (by decide) (by decide) jnP jvP joP
      have ln1 : LNP 1 ρ σ10 := hln.line f12 jnP pbP
      have li1 : LIT ρ σ10 := by unfold LIT; rw [← hln.px, ← jvP]; exact ⟨⟨jiP.1, jiP.2.2.1⟩, oki_bare jiP (by decide) (fun q => absurd rfl q)⟩
      have e281 : σ10.1 28 = 0 := (f12.1 28 (by decide)).trans h28
      have e291 : σ10.1 29 = 6 - (lv : Int) := (f12.1 29 (by decide)).trans h29
      have e431 : 0 ≤ σ10.1 43 ∧ σ10.1 43 ≤ 260 := by rw [f12.1 43 (by decide)]; exact ht
      have R1 := f13
      have now : ¬ WD ρ 512852847717 := fun z => nww_ (by omega) ((WD.bk hln.2.2.1 (by decide) (by decide)).mpr z)
      refine tm_aload_n dX12_statement_141 rfl 1 rfl ?_
      refine tm_ldc2 dX12_statement_142 cst12_246 ?_
      refine tm_callV (M := m_X12_statement) (pc := 145) (ix := 339) (M' := m_X12_isWord) (As := [.long (26982)]) (rest := []) dX12_statement_145 ok_X12_isWord im_X12_isWord se_X12_isWord ml12_339 np_X12_isWord rfl rfl (Nat.le_of_ble_eq_true rfl) (Nat.le_of_ble_eq_true rfl) rfl (c2_X12_isWord (d + 3 * lv + 44) (σ := σ10) (w := 26982) f13) (fun r19 σ20 hp => ?_)
      obtain ⟨v21, rfl, rfl, f22, f23, f24⟩ := hp
      show Tm _ _ 148 b σ10 [(2, .int (iI v11)), (0, .ref b)] [.int (iI v21)] _
      have iwi := f23
      have nwi_ := f24
      refine tm_if_eq (tgt := 156) dX12_statement_148 (by decide) ⟨by omega, by omega⟩ (fun h32 => ?_) (fun h32 => ?_)
      · have noi : ¬ WD ρ 26982 := fun z => nwi_ (by omega) ((WD.bk ln1.2.2.1 (by decide) (by decide)).mpr z)
        refine tm_aload_n dX12_statement_156 rfl 1 rfl ?_
        refine tm_ldc2 dX12_statement_157 cst12_242 ?_
        refine tm_callV (M := m_X12_statement) (pc := 160) (ix := 339) (M' := m_X12_isWord) (As := [.long (7304564)]) (rest := []) dX12_statement_160 ok_X12_isWord im_X12_isWord se_X12_isWord ml12_339 np_X12_isWord rfl rfl (Nat.le_of_ble_eq_true rfl) (Nat.le_of_ble_eq_true rfl) rfl (c2_X12_isWord (d + 3 * lv + 44) (σ := σ10) (w := 7304564) f13) (fun r33 σ34 hp => ?_)
        obtain ⟨v35, rfl, rfl, f36, f37, f38⟩ := hp
        show Tm _ _ 163 b σ10 [(2, .int (iI v11)), (0, .ref b)] [.int (iI v35)] _
        have iwo := f37
        have nwo_ := f38
        refine tm_if_ne (tgt := 176) dX12_statement_163 (by decide) ⟨by omega, by omega⟩ (fun h39 => ?_) (fun h39 => ?_)
        · have woy := (WD.bk ln1.2.2.1 (by decide) (by decide)).mp (iwo (by omega))
          refine tm_aload_n dX12_statement_176 rfl 1 rfl ?_
          refine tm_ldc2 dX12_statement_177 cst12_242 ?_
          refine tm_callV (M := m_X12_statement) (pc := 180) (ix := 339) (M' := m_X12_isWord) (As := [.long (7304564)]) (rest := []) dX12_statement_180 ok_X12_isWord im_X12_isWord se_X12_isWord ml12_339 np_X12_isWord rfl rfl (Nat.le_of_ble_eq_true rfl) (Nat.le_of_ble_eq_true rfl) rfl (c2_X12_isWord (d + 3 * lv + 44) (σ := σ10) (w := 7304564) f13) (fun r40 σ41 hp => ?_)
          obtain ⟨v42, rfl, rfl, f43, f44, f45⟩ := hp
          show Tm _ _ 183 b σ10 [(2, .int (iI v11)), (0, .ref b)] [.int (iI v42)] _
          have iw6 := f44
          have nw6_ := f45
          refine tm_if_eq (tgt := 191) dX12_statement_183 (by decide) ⟨by omega, by omega⟩ (fun h46 => ?_) (fun h46 => ?_)
          · refine tm_bipush dX12_statement_191 (by decide) ?_
            refine tm_istore_n (L' := [(3, .int (iI 7)), (2, .int (iI v11)), (0, .ref b)]) dX12_statement_193 rfl (by decide) rfl ?_
            refine tm_sub [0, 2] rfl (b_stm194 (d + 3 * lv + 5) (σ := σ10) (k3 := 7) (ρ := ρ) R1 ln1 li1 (hln.lin f12 jnP (fun c => g20o now noi (Or.inl woy) hln.sam hln.eff)) e281 (by omega) (fun v τ z1 z2 z3 z4 z5 z6 => hret v τ ((show Fr [19, 20, 22, 23, 26, 27, 28, 29, 31, 32, 33, 34, 39, 40] [3, 4, 5, 6, 7, 8, 35, 37, 41, 42] [24, 38] σ σ10 from (Fr.rfl.trans (Fr.sub f12 (by decide) (by decide) (by decide)))).trans z1) z2 z3 z4 z5 z6) _  rfl)
          · refine tm_bipush dX12_statement_186 (by decide) ?_
            refine tm_goto (tgt := 193) dX12_statement_188 (by decide) ?_
            refine tm_istore_n (L' := [(3, .int (iI 6)), (2, .int (iI v11)), (0, .ref b)]) dX12_statement_193 rfl (by decide) rfl ?_
            refine tm_sub [0, 2] rfl (b_stm194 (d + 3 * lv + 5) (σ := σ10) (k3 := 6) (ρ := ρ) R1 ln1 li1 (hln.lin f12 jnP (fun c => g20o now noi (Or.inl woy) hln.sam hln.eff)) e281 (by omega) (fun v τ z1 z2 z3 z4 z5 z6 => hret v τ ((show Fr [19, 20, 22, 23, 26, 27, 28, 29, 31, 32, 33, 34, 39, 40] [3, 4, 5, 6, 7, 8, 35, 37, 41, 42] [24, 38] σ σ10 from (Fr.rfl.trans (Fr.sub f12 (by decide) (by decide) (by decide)))).trans z1) z2 z3 z4 z5 z6) _  rfl)
        · refine tm_aload_n dX12_statement_166 rfl 1 rfl ?_
          refine tm_ldc2 dX12_statement_167 cst12_244 ?_
          refine tm_callV (M := m_X12_statement) (pc := 170) (ix := 339) (M' := m_X12_isWord) (As := [.long (125780071117422)]) (rest := []) dX12_statement_170 ok_X12_isWord im_X12_isWord se_X12_isWord ml12_339 np_X12_isWord rfl rfl (Nat.le_of_ble_eq_true rfl) (Nat.le_of_ble_eq_true rfl) rfl (c2_X12_isWord (d + 3 * lv + 44) (σ := σ10) (w := 125780071117422) f13) (fun r47 σ48 hp => ?_)
          obtain ⟨v49, rfl, rfl, f50, f51, f52⟩ := hp
          show Tm _ _ 173 b σ10 [(2, .int (iI v11)), (0, .ref b)] [.int (iI v49)] _
          have iwr := f51
          have nwr_ := f52
          refine tm_if_eq (tgt := 236) dX12_statement_173 (by decide) ⟨by omega, by omega⟩ (fun h53 => ?_) (fun h53 => ?_)
          · have nor : ¬ WD ρ 125780071117422 := fun z => nwr_ (by omega) ((WD.bk ln1.2.2.1 (by decide) (by decide)).mpr z)
            have noo : ¬ WD ρ 7304564 := fun z => nwo_ (by omega) ((WD.bk ln1.2.2.1 (by decide) (by decide)).mpr z)
            have nm_ : NMW ρ := by
              rcases hw0 with z | z | z | z | z
              · exact z
              · exact absurd z noo
              · exact absurd z nor
              · exact absurd z noi
              · exact absurd z now
            refine tm_aload_n dX12_statement_236 rfl 1 rfl ?_
            refine tm_callV (M := m_X12_statement) (pc := 237) (ix := 352) (M' := m_X12_assignment) (As := []) (rest := []) dX12_statement_237 ok_X12_assignment im_X12_assignment se_X12_assignment ml12_352 np_X12_assignment rfl rfl (Nat.le_of_ble_eq_true rfl) (Nat.le_of_ble_eq_true rfl) rfl (c_X12_assignment (d + 3 * lv + 2) (σ := σ10) (ρ := ρ) R1 ln1 li1 (hln.lin f12 jnP (fun c => g20n now noi noo nor nm_ hln.sam hln.eff)) e281 e431) (fun r54 σ55 hp => ?_)
            obtain ⟨v56, rfl, f57, f58, f59, f60, f61, f62⟩ := hp
            show Tm _ _ 240 b σ55 [(2, .int (iI v11)), (0, .ref b)] [.int (iI v56)] _
            exact tm_zret (v := v56) rfl (by omega) dX12_statement_240 (hret _ _ ((Fr.rfl.trans (Fr.sub f12 (by decide) (by decide) (by decide))).trans (Fr.sub f58 (by decide) (by decide) (by decide))) f59 f57 f60 f61 f62)
          · have wry := (WD.bk ln1.2.2.1 (by decide) (by decide)).mp (iwr (by omega))
            refine tm_aload_n dX12_statement_176 rfl 1 rfl ?_
            refine tm_ldc2 dX12_statement_177 cst12_242 ?_
            refine tm_callV (M := m_X12_statement) (pc := 180) (ix := 339) (M' := m_X12_isWord) (As := [.long (7304564)]) (rest := []) dX12_statement_180 ok_X12_isWord im_X12_isWord se_X12_isWord ml12_339 np_X12_isWord rfl rfl (Nat.le_of_ble_eq_true rfl) (Nat.le_of_ble_eq_true rfl) rfl (c2_X12_isWord (d + 3 * lv + 44) (σ := σ10) (w := 7304564) f13) (fun r63 σ64 hp => ?_)
            obtain ⟨v65, rfl, rfl, f66, f67, f68⟩ := hp
            show Tm _ _ 183 b σ10 [(2, .int (iI v11)), (0, .ref b)] [.int (iI v65)] _
            have iw6 := f67
            have nw6_ := f68
            refine tm_if_eq (tgt := 191) dX12_statement_183 (by decide) ⟨by omega, by omega⟩ (fun h69 => ?_) (fun h69 => ?_)
            · refine tm_bipush dX12_statement_191 (by decide) ?_
              refine tm_istore_n (L' := [(3, .int (iI 7)), (2, .int (iI v11)), (0, .ref b)]) dX12_statement_193 rfl (by decide) rfl ?_
              refine tm_sub [0, 2] rfl (b_stm194 (d + 3 * lv + 5) (σ := σ10) (k3 := 7) (ρ := ρ) R1 ln1 li1 (hln.lin f12 jnP (fun c => g20o now noi (Or.inr wry) hln.sam hln.eff)) e281 (by omega) (fun v τ z1 z2 z3 z4 z5 z6 => hret v τ ((show Fr [19, 20, 22, 23, 26, 27, 28, 29, 31, 32, 33, 34, 39, 40] [3, 4, 5, 6, 7, 8, 35, 37, 41, 42] [24, 38] σ σ10 from (Fr.rfl.trans (Fr.sub f12 (by decide) (by decide) (by decide)))).trans z1) z2 z3 z4 z5 z6) _  rfl)
            · refine tm_bipush dX12_statement_186 (by decide) ?_
              refine tm_goto (tgt := 193) dX12_statement_188 (by decide) ?_
              refine tm_istore_n (L' := [(3, .int (iI 6)), (2, .int (iI v11)), (0, .ref b)]) dX12_statement_193 rfl (by decide) rfl ?_
              refine tm_sub [0, 2] rfl (b_stm194 (d + 3 * lv + 5) (σ := σ10) (k3 := 6) (ρ := ρ) R1 ln1 li1 (hln.lin f12 jnP (fun c => g20o now noi (Or.inr wry) hln.sam hln.eff)) e281 (by omega) (fun v τ z1 z2 z3 z4 z5 z6 => hret v τ ((show Fr [19, 20, 22, 23, 26, 27, 28, 29, 31, 32, 33, 34, 39, 40] [3, 4, 5, 6, 7, 8, 35, 37, 41, 42] [24, 38] σ σ10 from (Fr.rfl.trans (Fr.sub f12 (by decide) (by decide) (by decide)))).trans z1) z2 z3 z4 z5 z6) _  rfl)
      · refine tm_aload_n dX12_statement_151 rfl 1 rfl ?_
        refine tm_callV (M := m_X12_statement) (pc := 152) (ix := 349) (M' := m_X12_ifStatement) (As := []) (rest := []) dX12_statement_152 ok_X12_ifStatement im_X12_ifStatement se_X12_ifStatement ml12_349 np_X12_ifStatement rfl rfl (Nat.le_of_ble_eq_true rfl) (Nat.le_of_ble_eq_true rfl) rfl (c_X12_ifStatement (d) (σ := σ10) (ρ := ρ) hcb R1 ln1 li1 (hln.lin f12 jnP (fun c => g20i now ((WD.bk ln1.2.2.1 (by decide) (by decide)).mp (iwi (by omega))) hln.sam hln.eff)) e281 e291 e431) (fun r70 σ71 hp => ?_)
        obtain ⟨v72, rfl, f73, f74, f75, f76, f77, f78⟩ := hp
        show Tm _ _ 155 b σ71 [(2, .int (iI v11)), (0, .ref b)] [.int (iI v72)] _
        exact tm_zret (v := v72) rfl (by omega) dX12_statement_155 (hret _ _ ((Fr.rfl.trans (Fr.sub f12 (by decide) (by decide) (by decide))).trans (Fr.sub f74 (by decide) (by decide) (by decide))) f75 f73 f76 f77 f78)
    · refine tm_aload_n dX12_statement_124 rfl 0 rfl ?_
      refine tm_callV (M := m_X12_statement) (pc := 125) (ix := 346) (M' := m_X12_whileStatement) (As := []) (rest := []) dX12_statement_125 ok_X12_whileStatement im_X12_whileStatement se_X12_whileStatement ml12_346 np_X12_whileStatement rfl rfl (Nat.le_of_ble_eq_true rfl) (Nat.le_of_ble_eq_true rfl) rfl (c_X12_whileStatement (d) (σ := σ) (ρ := ρ) hcb hR hln (fun c => g20w ((WD.bk hln.2.2.1 (by decide) (by decide)).mp (iww (by omega))) hln.sam hln.eff) h28 h29 ht) (fun r79 σ80 hp => ?_)
      obtain ⟨v81, rfl, f82, f83, f84, f85, f86, f87⟩ := hp
      show Tm _ _ 128 b σ80 [(0, .ref b)] [.int (iI v81)] _
      exact tm_zret (v := v81) rfl (by omega) dX12_statement_128 (hret _ _ (Fr.rfl.trans (Fr.sub f83 (by decide) (by decide) (by decide))) f84 f82 f85 f86 f87)
