theorem ml12_515 : Cond.methodLink RX12 515 yX12_add ∈ pWW := pw9 (List.mem_of_getElem? (i := 201) rfl) rfl
theorem dX12_meltItem_0 : decode cX12_meltItem 0 = .ok (.sipush 2640, 3) := by decide +kernel
theorem dX12_meltItem_3 : decode cX12_meltItem 3 = .ok (.aload_n 0, 1) := by decide +kernel
theorem dX12_meltItem_4 : decode cX12_meltItem 4 = .ok (.getfield 509, 3) := by decide +kernel
theorem dX12_meltItem_7 : decode cX12_meltItem 7 = .ok (.iadd, 1) := by decide +kernel
theorem dX12_meltItem_8 : decode cX12_meltItem 8 = .ok (.istore 7, 2) := by decide +kernel
theorem dX12_meltItem_10 : decode cX12_meltItem 10 = .ok (.aload_n 0, 1) := by decide +kernel
theorem dX12_meltItem_11 : decode cX12_meltItem 11 = .ok (.iload_n 1, 1) := by decide +kernel
theorem dX12_meltItem_12 : decode cX12_meltItem 12 = .ok (.iload 7, 2) := by decide +kernel
theorem dX12_meltItem_14 : decode cX12_meltItem 14 = .ok (.invokevirtual 394, 3) := by decide +kernel
theorem dX12_meltItem_17 : decode cX12_meltItem 17 = .ok (.aload_n 0, 1) := by decide +kernel
theorem dX12_meltItem_18 : decode cX12_meltItem 18 = .ok (.dup, 1) := by decide +kernel
theorem dX12_meltItem_19 : decode cX12_meltItem 19 = .ok (.getfield 509, 3) := by decide +kernel
theorem dX12_meltItem_22 : decode cX12_meltItem 22 = .ok (.iconst 1, 1) := by decide +kernel
theorem dX12_meltItem_23 : decode cX12_meltItem 23 = .ok (.iadd, 1) := by decide +kernel
theorem dX12_meltItem_24 : decode cX12_meltItem 24 = .ok (.putfield 509, 3) := by decide +kernel
theorem dX12_meltItem_27 : decode cX12_meltItem 27 = .ok (.iconst 0, 1) := by decide +kernel
theorem dX12_meltItem_28 : decode cX12_meltItem 28 = .ok (.istore 8, 2) := by decide +kernel
theorem dX12_meltItem_78 : decode cX12_meltItem 78 = .ok (.aload_n 0, 1) := by decide +kernel
theorem dX12_meltItem_79 : decode cX12_meltItem 79 = .ok (.getfield 13, 3) := by decide +kernel
theorem dX12_meltItem_82 : decode cX12_meltItem 82 = .ok (.iload_n 1, 1) := by decide +kernel
theorem dX12_meltItem_83 : decode cX12_meltItem 83 = .ok (.iaload, 1) := by decide +kernel
theorem dX12_meltItem_84 : decode cX12_meltItem 84 = .ok (.tableswitch 133 6 15 #[130, 56, 87, 87, 133, 102, 102, 87, 116, 116], 56) := by decide +kernel
theorem dX12_meltItem_217 : decode cX12_meltItem 217 = .ok (.aload_n 0, 1) := by decide +kernel
theorem dX12_meltItem_218 : decode cX12_meltItem 218 = .ok (.getfield 17, 3) := by decide +kernel
theorem dX12_meltItem_221 : decode cX12_meltItem 221 = .ok (.iload 7, 2) := by decide +kernel
theorem dX12_meltItem_223 : decode cX12_meltItem 223 = .ok (.dup2, 1) := by decide +kernel
theorem dX12_meltItem_224 : decode cX12_meltItem 224 = .ok (.iaload, 1) := by decide +kernel
theorem dX12_meltItem_225 : decode cX12_meltItem 225 = .ok (.iload_n 3, 1) := by decide +kernel
theorem dX12_meltItem_226 : decode cX12_meltItem 226 = .ok (.iadd, 1) := by decide +kernel
theorem dX12_meltItem_227 : decode cX12_meltItem 227 = .ok (.iastore, 1) := by decide +kernel
theorem dX12_meltItem_228 : decode cX12_meltItem 228 = .ok (.return_, 1) := by decide +kernel
theorem dX12_meltItem_214 : decode cX12_meltItem 214 = .ok (.goto 14, 3) := by decide +kernel
theorem dX12_meltItem_140 : decode cX12_meltItem 140 = .ok (.aload_n 0, 1) := by decide +kernel
theorem dX12_meltItem_141 : decode cX12_meltItem 141 = .ok (.getfield 13, 3) := by decide +kernel
theorem dX12_meltItem_144 : decode cX12_meltItem 144 = .ok (.iload 7, 2) := by decide +kernel
theorem dX12_meltItem_146 : decode cX12_meltItem 146 = .ok (.iconst 0, 1) := by decide +kernel
theorem dX12_meltItem_147 : decode cX12_meltItem 147 = .ok (.iastore, 1) := by decide +kernel
theorem dX12_meltItem_148 : decode cX12_meltItem 148 = .ok (.aload_n 0, 1) := by decide +kernel
theorem dX12_meltItem_149 : decode cX12_meltItem 149 = .ok (.getfield 17, 3) := by decide +kernel
theorem dX12_meltItem_152 : decode cX12_meltItem 152 = .ok (.iload 7, 2) := by decide +kernel
theorem dX12_meltItem_154 : decode cX12_meltItem 154 = .ok (.iload 5, 2) := by decide +kernel
theorem dX12_meltItem_156 : decode cX12_meltItem 156 = .ok (.iastore, 1) := by decide +kernel
theorem dX12_meltItem_157 : decode cX12_meltItem 157 = .ok (.aload_n 0, 1) := by decide +kernel
theorem dX12_meltItem_158 : decode cX12_meltItem 158 = .ok (.bipush 8, 2) := by decide +kernel
theorem dX12_meltItem_160 : decode cX12_meltItem 160 = .ok (.iload 6, 2) := by decide +kernel
theorem dX12_meltItem_162 : decode cX12_meltItem 162 = .ok (.iconst 0, 1) := by decide +kernel
theorem dX12_meltItem_163 : decode cX12_meltItem 163 = .ok (.iconst 0, 1) := by decide +kernel
theorem dX12_meltItem_164 : decode cX12_meltItem 164 = .ok (.iconst 0, 1) := by decide +kernel
theorem dX12_meltItem_165 : decode cX12_meltItem 165 = .ok (.invokevirtual 515, 3) := by decide +kernel
theorem dX12_meltItem_168 : decode cX12_meltItem 168 = .ok (.goto 60, 3) := by decide +kernel
theorem dX12_meltItem_171 : decode cX12_meltItem 171 = .ok (.aload_n 0, 1) := by decide +kernel
theorem dX12_meltItem_172 : decode cX12_meltItem 172 = .ok (.getfield 17, 3) := by decide +kernel
theorem dX12_meltItem_175 : decode cX12_meltItem 175 = .ok (.iload 7, 2) := by decide +kernel
theorem dX12_meltItem_177 : decode cX12_meltItem 177 = .ok (.dup2, 1) := by decide +kernel
theorem dX12_meltItem_178 : decode cX12_meltItem 178 = .ok (.iaload, 1) := by decide +kernel
theorem dX12_meltItem_179 : decode cX12_meltItem 179 = .ok (.iload 4, 2) := by decide +kernel
theorem dX12_meltItem_181 : decode cX12_meltItem 181 = .ok (.iadd, 1) := by decide +kernel
theorem dX12_meltItem_182 : decode cX12_meltItem 182 = .ok (.iastore, 1) := by decide +kernel
theorem dX12_meltItem_183 : decode cX12_meltItem 183 = .ok (.goto 45, 3) := by decide +kernel
theorem dX12_meltItem_186 : decode cX12_meltItem 186 = .ok (.aload_n 0, 1) := by decide +kernel
theorem dX12_meltItem_187 : decode cX12_meltItem 187 = .ok (.getfield 20, 3) := by decide +kernel
theorem dX12_meltItem_190 : decode cX12_meltItem 190 = .ok (.iload 7, 2) := by decide +kernel
theorem dX12_meltItem_192 : decode cX12_meltItem 192 = .ok (.dup2, 1) := by decide +kernel
theorem dX12_meltItem_193 : decode cX12_meltItem 193 = .ok (.iaload, 1) := by decide +kernel
theorem dX12_meltItem_194 : decode cX12_meltItem 194 = .ok (.iload_n 2, 1) := by decide +kernel
theorem dX12_meltItem_195 : decode cX12_meltItem 195 = .ok (.iadd, 1) := by decide +kernel
theorem dX12_meltItem_196 : decode cX12_meltItem 196 = .ok (.iastore, 1) := by decide +kernel
theorem dX12_meltItem_197 : decode cX12_meltItem 197 = .ok (.goto 31, 3) := by decide +kernel
theorem dX12_meltItem_200 : decode cX12_meltItem 200 = .ok (.aload_n 0, 1) := by decide +kernel
theorem dX12_meltItem_201 : decode cX12_meltItem 201 = .ok (.getfield 17, 3) := by decide +kernel
theorem dX12_meltItem_204 : decode cX12_meltItem 204 = .ok (.iload 7, 2) := by decide +kernel
theorem dX12_meltItem_206 : decode cX12_meltItem 206 = .ok (.dup2, 1) := by decide +kernel
theorem dX12_meltItem_207 : decode cX12_meltItem 207 = .ok (.iaload, 1) := by decide +kernel
theorem dX12_meltItem_208 : decode cX12_meltItem 208 = .ok (.iload_n 2, 1) := by decide +kernel
theorem dX12_meltItem_209 : decode cX12_meltItem 209 = .ok (.iadd, 1) := by decide +kernel
theorem dX12_meltItem_210 : decode cX12_meltItem 210 = .ok (.iastore, 1) := by decide +kernel
theorem dX12_meltItem_211 : decode cX12_meltItem 211 = .ok (.goto 17, 3) := by decide +kernel
set_option maxHeartbeats 1000000 in
set_option maxRecDepth 20000 in
theorem c_X12_meltItem (d : Nat) {b : Nat} {σ : MS} {x : Int} {f : Int} {base : Int} {lb : Int} {to : Int} {out : Int} {ρ : MS} {FI : Int → Int} {lf : Int → Int} {frq : Int → Int} {lfq : Int → Int} {q : Int} {i : Int} {g0 : Int} {m : Int} (hR : RG σ) (hx : x = 220 * q + i) (hq : 0 ≤ q ∧ q < 6 ∧ i < 220) (hn : σ.1 62 ≤ 217) (hmi : MIH ρ σ q f base lb to out g0 (σ.1 62) i m FI lf frq lfq) (hf2 : f + ρ.2.1 14 q ≤ 12 ∧ 0 ≤ ρ.2.1 14 q ∧ 0 ≤ m) : Tm (d + 3) m_X12_meltItem 0 b σ [(0, .ref b), (1, .int (iI x)), (2, .int (iI f)), (3, .int (iI base)), (4, .int (iI lb)), (5, .int (iI to)), (6, .int (iI out))] [] (fun ro σ2 => ro = none ∧ (Fr [62] [3, 4, 5, 6, 7, 8] [] σ σ2) ∧ (RG σ2) ∧ (σ2.1 62 = σ.1 62 + (if ρ.2.1 3 (220 * q + i) = 7 then 2 else 1)) ∧ (MSG ρ σ2 FI lf q (f + ρ.2.1 14 q) lb out g0 (σ2.1 62) (i + 1) (Gq ρ q f frq (i + 1)))) := by
  have hix : IEQ ρ x σ x := by rw [hx]; exact hmi.ms.2.2.2.2.2.1 _ (by omega)
  have hokx : OKI ρ (ρ.2.1 14 q) x := by rw [hx]; exact hmi.ok
  have ha := hmi.ha
  have hi := hmi.hi
  have hb := hmi.hb
  have ht := hmi.ht
  have hl := hmi.hl
  have hf := hmi.hf
  refine tm_sipush dX12_meltItem_0 (by decide) ?_
  refine tm_aload_n dX12_meltItem_3 rfl 0 rfl ?_
  refine tm_getS (k := 62) (t := σ.1 62) dX12_meltItem_4 (by decide) fl12_509 rfl (rfl) ?_
  have g1 := RG.s hR 62
  refine tm_iadd dX12_meltItem_7 ?_
  refine tm_istore (L' := [(7, .int (iI (2640 + (σ.1 62)))), (0, .ref b), (1, .int (iI x)), (2, .int (iI f)), (3, .int (iI base)), (4, .int (iI lb)), (5, .int (iI to)), (6, .int (iI out))]) dX12_meltItem_8 (by decide) rfl ?_
  refine tm_aload_n dX12_meltItem_10 rfl 1 rfl ?_
  refine tm_iload_n dX12_meltItem_11 rfl 2 rfl ?_
  refine tm_iload dX12_meltItem_12 0 rfl ?_
  refine tm_callV (M := m_X12_meltItem) (pc := 14) (ix := 394) (M' := m_X12_copyItem) (As := [.int (iI x), .int (iI (2640 + (σ.1 62)))]) (rest := []) dX12_meltItem_14 ok_X12_copyItem im_X12_copyItem se_X12_copyItem ml12_394 np_X12_copyItem rfl rfl (Nat.le_of_ble_eq_true rfl) (Nat.le_of_ble_eq_true rfl) rfl (c_X12_copyItem (d + 1) (σ := σ) (f := x) (t := 2640 + (σ.1 62)) (by omega) (by omega)) (fun r2 σ3 hp => ?_)
  obtain ⟨rfl, f5⟩ := hp
  subst f5
  show Tm _ _ 17 b (fCopy (x) (2640 + (σ.1 62)) σ) [(7, .int (iI (2640 + (σ.1 62)))), (0, .ref b), (1, .int (iI x)), (2, .int (iI f)), (3, .int (iI base)), (4, .int (iI lb)), (5, .int (iI to)), (6, .int (iI out))] [] _
  refine tm_aload_n dX12_meltItem_17 rfl 1 rfl ?_
  refine tm_dup dX12_meltItem_18 rfl ?_
  refine tm_getS (k := 62) (t := σ.1 62) dX12_meltItem_19 (by decide) fl12_509 rfl (rs_F fCopy_fr (by decide) (rfl)) ?_
  have g6 := RG.s hR 62
  refine tm_iconst dX12_meltItem_22 ?_
  refine tm_iadd dX12_meltItem_23 ?_
  refine tm_putS (k := 62) (v := (σ.1 62) + 1) lay_12 dX12_meltItem_24 (by decide) fl12_509 rfl (tyX12_ok 62 (by decide)) rfl rfl rfl ?_
  refine tm_iconst dX12_meltItem_27 ?_
  refine tm_istore (L' := [(8, .int (iI 0)), (7, .int (iI (2640 + (σ.1 62)))), (0, .ref b), (1, .int (iI x)), (2, .int (iI f)), (3, .int (iI base)), (4, .int (iI lb)), (5, .int (iI to)), (6, .int (iI out))]) dX12_meltItem_28 (by decide) rfl ?_
  refine tm_sub [0, 1, 2, 3, 4, 5, 6, 7, 8] rfl (l_mi (d + 2) (σ0 := (sS 62 ((σ.1 62) + 1) (fCopy (x) (2640 + (σ.1 62)) σ))) (y := 2640 + (σ.1 62)) (x := x) (f := f) (base := base) (lb := lb) (to := to) (out := out) ((hR.copy).S (by omega)) (by omega) (fun u a c e => by
   have i1 := fCopy_ieq (f := x) (t := 2640 + σ.1 62) (σ := σ)
   have i2 := hix.trans i1
   have o8 := hokx.2.2.2.2.2.2.2.1 u a c
   rw [← (i2.2.2.2.2 u a c).1, ← (i2.2.2.2.2 u a c).2] at o8
   exact (o8.2 e).1) (by omega) (fun j13 σ14 F9 R10 f11 f12 => ?_) _ (0) (sS 62 ((σ.1 62) + 1) (fCopy (x) (2640 + (σ.1 62)) σ)) Fr.rfl ((hR.copy).S (by omega)) (by omega) OFF.rfl (fun u a c => ⟨fun w => absurd w (by omega), fun _ => rfl⟩) rfl)
  show Tm _ _ 78 b σ14 [(7, .int (iI (2640 + (σ.1 62)))), (0, .ref b), (1, .int (iI x)), (2, .int (iI f)), (3, .int (iI base)), (4, .int (iI lb)), (5, .int (iI to)), (6, .int (iI out))] [] _
  have n62 : σ14.1 62 = σ.1 62 + 1 := by rw [F9.1 62 (by decide)]; exact rs_eq
  have hmc0 : MIC ρ σ σ14 x (σ.1 62) base := MIC.mk (by omega) hix hmi.ms.2.2.2.2.2.2 f11 F9 f12
  have hmc : MIC ρ σ σ14 (220 * q + i) (σ.1 62) base := by rw [← hx]; exact hmc0
  have e3x : (fCopy (x) (2640 + (σ.1 62)) σ).2.1 3 x = ρ.2.1 3 (220 * q + i) := by rw [← hx]; exact (hix.trans (fCopy_off.ieq (by omega))).1
  have k0 := hmi.ok.1
  have k10 := hmi.h10
  have c3 := hmc.2.1
  have c4 := hmc.2.2.1
  have c5 := hmc.2.2.2.1
  have c4f : (fCopy (x) (2640 + (σ.1 62)) σ).2.1 4 (2640 + σ.1 62) = ρ.2.1 4 (220 * q + i) := by rw [← hx]; exact (hix.trans fCopy_ieq).2.1
  have c5f : (fCopy (x) (2640 + (σ.1 62)) σ).2.1 5 (2640 + σ.1 62) = ρ.2.1 5 (220 * q + i) := by rw [← hx]; exact (hix.trans fCopy_ieq).2.2.1
  have ok4 := hmi.ok.2.2.1
  have ok5 := hmi.ok.2.2.2.1
  have ok6 := hmi.ok.2.1
  have ok7 := hmi.ok.2.2.2.2.2.1
  refine tm_aload_n dX12_meltItem_78 rfl 1 rfl ?_
  refine tm_get (k := 3) (v := .ref (b + 1 + 1)) lay_12 dX12_meltItem_79 (by decide) fl12_13 rfl ?_
  refine tm_iload_n dX12_meltItem_82 rfl 2 rfl ?_
  refine tm_iald (z := x) (v := (fCopy (x) (2640 + (σ.1 62)) σ).2.1 3 x) dX12_meltItem_83 (show mT[1]? = some (3, 0, 2860) from rfl) (by omega) (by omega) (by decide) (ra_F F9 (by decide) (ra_S (rfl))) ?_
  by_cases h15 : (fCopy (x) (2640 + (σ.1 62)) σ).2.1 3 x < 6 ∨ 15 < (fCopy (x) (2640 + (σ.1 62)) σ).2.1 3 x
  · refine tm_tableOut (tgt := 217) dX12_meltItem_84 ⟨by omega, by omega⟩ h15 (by decide) ?_
    refine tm_aload_n dX12_meltItem_217 rfl 1 rfl ?_
    refine tm_get (k := 4) (v := .ref (b + 1 + 2)) lay_12 dX12_meltItem_218 (by decide) fl12_17 rfl ?_
    refine tm_iload dX12_meltItem_221 0 rfl ?_
    refine tm_dup2 dX12_meltItem_223 rfl rfl ?_
    refine tm_iald (z := 2640 + (σ.1 62)) (v := (fCopy (x) (2640 + (σ.1 62)) σ).2.1 4 (2640 + (σ.1 62))) dX12_meltItem_224 (show mT[2]? = some (4, 0, 2860) from rfl) (by omega) (by omega) (by decide) (ra_F F9 (by decide) (ra_S (rfl))) ?_
    refine tm_iload_n dX12_meltItem_225 rfl 4 rfl ?_
    refine tm_iadd dX12_meltItem_226 ?_
    refine tm_iast (z := 2640 + (σ.1 62)) (v := ((fCopy (x) (2640 + (σ.1 62)) σ).2.1 4 (2640 + (σ.1 62))) + base) dX12_meltItem_227 (show mT[2]? = some (4, 0, 2860) from rfl) (by omega) (by omega) (by decide) ?_
    exact tm_vret rfl dX12_meltItem_228 (⟨rfl, ((((Fr.rfl.trans (Fr.sub fCopy_fr (by decide) (by decide) (by decide))).S (by decide)).trans (Fr.sub F9 (by decide) (by decide) (by decide))).A (by decide)), (R10.A (by omega)), by rw [show (sA 4 (2640 + (σ.1 62)) (((fCopy (x) (2640 + (σ.1 62)) σ).2.1 4 (2640 + (σ.1 62))) + base) σ14).1 62 = σ.1 62 + 1 from n62, if_neg (by omega)], by rw [show (sA 4 (2640 + (σ.1 62)) (((fCopy (x) (2640 + (σ.1 62)) σ).2.1 4 (2640 + (σ.1 62))) + base) σ14).1 62 = σ.1 62 + 1 from n62]; exact mi_reg hmi hmc (by omega) (by omega)⟩)
  · have h15c : (fCopy (x) (2640 + (σ.1 62)) σ).2.1 3 x = 6 ∨ (fCopy (x) (2640 + (σ.1 62)) σ).2.1 3 x = 7 ∨ (fCopy (x) (2640 + (σ.1 62)) σ).2.1 3 x = 8 ∨ (fCopy (x) (2640 + (σ.1 62)) σ).2.1 3 x = 9 ∨ (fCopy (x) (2640 + (σ.1 62)) σ).2.1 3 x = 10 ∨ (fCopy (x) (2640 + (σ.1 62)) σ).2.1 3 x = 11 ∨ (fCopy (x) (2640 + (σ.1 62)) σ).2.1 3 x = 12 ∨ (fCopy (x) (2640 + (σ.1 62)) σ).2.1 3 x = 13 ∨ (fCopy (x) (2640 + (σ.1 62)) σ).2.1 3 x = 14 ∨ (fCopy (x) (2640 + (σ.1 62)) σ).2.1 3 x = 15 := by omega
    rcases h15c with h15v | h15v | h15v | h15v | h15v | h15v | h15v | h15v | h15v | h15v
    · refine tm_tableIn (tgt := 214) dX12_meltItem_84 ⟨by omega, by omega⟩ (by omega) (by omega) (show _ = some (130) by rw [h15v]; rfl) (by decide) ?_
      refine tm_goto (tgt := 228) dX12_meltItem_214 (by decide) ?_
      exact tm_vret rfl dX12_meltItem_228 (⟨rfl, (((Fr.rfl.trans (Fr.sub fCopy_fr (by decide) (by decide) (by decide))).S (by decide)).trans (Fr.sub F9 (by decide) (by decide) (by decide))), R10, by rw [show σ14.1 62 = σ.1 62 + 1 from n62, if_neg (by omega)], by rw [show σ14.1 62 = σ.1 62 + 1 from n62]; exact mi_out hmi hmc (by omega)⟩)
    · refine tm_tableIn (tgt := 140) dX12_meltItem_84 ⟨by omega, by omega⟩ (by omega) (by omega) (show _ = some (56) by rw [h15v]; rfl) (by decide) ?_
      refine tm_aload_n dX12_meltItem_140 rfl 1 rfl ?_
      refine tm_get (k := 3) (v := .ref (b + 1 + 1)) lay_12 dX12_meltItem_141 (by decide) fl12_13 rfl ?_
      refine tm_iload dX12_meltItem_144 0 rfl ?_
      refine tm_iconst dX12_meltItem_146 ?_
      refine tm_iast (z := 2640 + (σ.1 62)) (v := 0) dX12_meltItem_147 (show mT[1]? = some (3, 0, 2860) from rfl) (by omega) (by omega) (by decide) ?_
      refine tm_aload_n dX12_meltItem_148 rfl 1 rfl ?_
      refine tm_get (k := 4) (v := .ref (b + 1 + 2)) lay_12 dX12_meltItem_149 (by decide) fl12_17 rfl ?_
      refine tm_iload dX12_meltItem_152 0 rfl ?_
      refine tm_iload dX12_meltItem_154 6 rfl ?_
      refine tm_iast (z := 2640 + (σ.1 62)) (v := to) dX12_meltItem_156 (show mT[2]? = some (4, 0, 2860) from rfl) (by omega) (by omega) (by decide) ?_
      refine tm_aload_n dX12_meltItem_157 rfl 1 rfl ?_
      refine tm_bipush dX12_meltItem_158 (by decide) ?_
      refine tm_iload dX12_meltItem_160 7 rfl ?_
      refine tm_iconst dX12_meltItem_162 ?_
      refine tm_iconst dX12_meltItem_163 ?_
      refine tm_iconst dX12_meltItem_164 ?_
      have n62' : (sA 4 (2640 + (σ.1 62)) (to) (sA 3 (2640 + (σ.1 62)) (0) σ14)).1 62 = σ.1 62 + 1 := n62
      refine tm_callV (M := m_X12_meltItem) (pc := 165) (ix := 515) (M' := m_X12_add) (As := [.int (iI 8), .int (iI out), .int (iI 0), .int (iI 0), .int (iI 0)]) (rest := []) dX12_meltItem_165 ok_X12_add im_X12_add se_X12_add ml12_515 np_X12_add rfl rfl (Nat.le_of_ble_eq_true rfl) (Nat.le_of_ble_eq_true rfl) rfl (c_X12_add (d) (σ := (sA 4 (2640 + (σ.1 62)) (to) (sA 3 (2640 + (σ.1 62)) (0) σ14))) (k := 8) (e := out) (o := 0) (ak := 0) (a := 0) ((R10.A (by omega)).A (by omega)) (by rw [n62']; omega)) (fun r16 σ17 hp => ?_)
      obtain ⟨rfl, f19⟩ := hp
      subst f19
      show Tm _ _ 168 b (fAdd (8) (out) (0) (0) (0) (sA 4 (2640 + (σ.1 62)) (to) (sA 3 (2640 + (σ.1 62)) (0) σ14))) [(7, .int (iI (2640 + (σ.1 62)))), (0, .ref b), (1, .int (iI x)), (2, .int (iI f)), (3, .int (iI base)), (4, .int (iI lb)), (5, .int (iI to)), (6, .int (iI out))] [] _
      refine tm_goto (tgt := 228) dX12_meltItem_168 (by decide) ?_
      exact tm_vret rfl dX12_meltItem_228 (⟨rfl, ((((((Fr.rfl.trans (Fr.sub fCopy_fr (by decide) (by decide) (by decide))).S (by decide)).trans (Fr.sub F9 (by decide) (by decide) (by decide))).A (by decide)).A (by decide)).trans (Fr.sub fAdd_fr (by decide) (by decide) (by decide))), (((R10.A (by omega)).A (by omega)).add (by rw [n62']; omega) (by decide) (by omega) (by decide) (by decide) (by decide)), by rw [show (fAdd (8) (out) (0) (0) (0) (sA 4 (2640 + (σ.1 62)) (to) (sA 3 (2640 + (σ.1 62)) (0) σ14))).1 62 = σ14.1 62 + 1 from fAdd_n, n62, if_pos (by omega)]; omega, by rw [show (fAdd (8) (out) (0) (0) (0) (sA 4 (2640 + (σ.1 62)) (to) (sA 3 (2640 + (σ.1 62)) (0) σ14))).1 62 = σ14.1 62 + 1 from fAdd_n, n62]; exact mi_ret hmi hmc (by omega) n62⟩)
    · refine tm_tableIn (tgt := 171) dX12_meltItem_84 ⟨by omega, by omega⟩ (by omega) (by omega) (show _ = some (87) by rw [h15v]; rfl) (by decide) ?_
      refine tm_aload_n dX12_meltItem_171 rfl 1 rfl ?_
      refine tm_get (k := 4) (v := .ref (b + 1 + 2)) lay_12 dX12_meltItem_172 (by decide) fl12_17 rfl ?_
      refine tm_iload dX12_meltItem_175 0 rfl ?_
      refine tm_dup2 dX12_meltItem_177 rfl rfl ?_
      refine tm_iald (z := 2640 + (σ.1 62)) (v := (fCopy (x) (2640 + (σ.1 62)) σ).2.1 4 (2640 + (σ.1 62))) dX12_meltItem_178 (show mT[2]? = some (4, 0, 2860) from rfl) (by omega) (by omega) (by decide) (ra_F F9 (by decide) (ra_S (rfl))) ?_
      refine tm_iload dX12_meltItem_179 5 rfl ?_
      refine tm_iadd dX12_meltItem_181 ?_
      refine tm_iast (z := 2640 + (σ.1 62)) (v := ((fCopy (x) (2640 + (σ.1 62)) σ).2.1 4 (2640 + (σ.1 62))) + lb) dX12_meltItem_182 (show mT[2]? = some (4, 0, 2860) from rfl) (by omega) (by omega) (by decide) ?_
      refine tm_goto (tgt := 228) dX12_meltItem_183 (by decide) ?_
      exact tm_vret rfl dX12_meltItem_228 (⟨rfl, ((((Fr.rfl.trans (Fr.sub fCopy_fr (by decide) (by decide) (by decide))).S (by decide)).trans (Fr.sub F9 (by decide) (by decide) (by decide))).A (by decide)), (R10.A (by omega)), by rw [show (sA 4 (2640 + (σ.1 62)) (((fCopy (x) (2640 + (σ.1 62)) σ).2.1 4 (2640 + (σ.1 62))) + lb) σ14).1 62 = σ.1 62 + 1 from n62, if_neg (by omega)], by rw [show (sA 4 (2640 + (σ.1 62)) (((fCopy (x) (2640 + (σ.1 62)) σ).2.1 4 (2640 + (σ.1 62))) + lb) σ14).1 62 = σ.1 62 + 1 from n62]; exact mi_lab hmi hmc (by omega) (by omega)⟩)
    · refine tm_tableIn (tgt := 171) dX12_meltItem_84 ⟨by omega, by omega⟩ (by omega) (by omega) (show _ = some (87) by rw [h15v]; rfl) (by decide) ?_
      refine tm_aload_n dX12_meltItem_171 rfl 1 rfl ?_
      refine tm_get (k := 4) (v := .ref (b + 1 + 2)) lay_12 dX12_meltItem_172 (by decide) fl12_17 rfl ?_
      refine tm_iload dX12_meltItem_175 0 rfl ?_
      refine tm_dup2 dX12_meltItem_177 rfl rfl ?_
      refine tm_iald (z := 2640 + (σ.1 62)) (v := (fCopy (x) (2640 + (σ.1 62)) σ).2.1 4 (2640 + (σ.1 62))) dX12_meltItem_178 (show mT[2]? = some (4, 0, 2860) from rfl) (by omega) (by omega) (by decide) (ra_F F9 (by decide) (ra_S (rfl))) ?_
      refine tm_iload dX12_meltItem_179 5 rfl ?_
      refine tm_iadd dX12_meltItem_181 ?_
      refine tm_iast (z := 2640 + (σ.1 62)) (v := ((fCopy (x) (2640 + (σ.1 62)) σ).2.1 4 (2640 + (σ.1 62))) + lb) dX12_meltItem_182 (show mT[2]? = some (4, 0, 2860) from rfl) (by omega) (by omega) (by decide) ?_
      refine tm_goto (tgt := 228) dX12_meltItem_183 (by decide) ?_
      exact tm_vret rfl dX12_meltItem_228 (⟨rfl, ((((Fr.rfl.trans (Fr.sub fCopy_fr (by decide) (by decide) (by decide))).S (by decide)).trans (Fr.sub F9 (by decide) (by decide) (by decide))).A (by decide)), (R10.A (by omega)), by rw [show (sA 4 (2640 + (σ.1 62)) (((fCopy (x) (2640 + (σ.1 62)) σ).2.1 4 (2640 + (σ.1 62))) + lb) σ14).1 62 = σ.1 62 + 1 from n62, if_neg (by omega)], by rw [show (sA 4 (2640 + (σ.1 62)) (((fCopy (x) (2640 + (σ.1 62)) σ).2.1 4 (2640 + (σ.1 62))) + lb) σ14).1 62 = σ.1 62 + 1 from n62]; exact mi_lab hmi hmc (by omega) (by omega)⟩)
    · refine tm_tableIn (tgt := 217) dX12_meltItem_84 ⟨by omega, by omega⟩ (by omega) (by omega) (show _ = some (133) by rw [h15v]; rfl) (by decide) ?_
      refine tm_aload_n dX12_meltItem_217 rfl 1 rfl ?_
      refine tm_get (k := 4) (v := .ref (b + 1 + 2)) lay_12 dX12_meltItem_218 (by decide) fl12_17 rfl ?_
      refine tm_iload dX12_meltItem_221 0 rfl ?_
      refine tm_dup2 dX12_meltItem_223 rfl rfl ?_
      refine tm_iald (z := 2640 + (σ.1 62)) (v := (fCopy (x) (2640 + (σ.1 62)) σ).2.1 4 (2640 + (σ.1 62))) dX12_meltItem_224 (show mT[2]? = some (4, 0, 2860) from rfl) (by omega) (by omega) (by decide) (ra_F F9 (by decide) (ra_S (rfl))) ?_
      refine tm_iload_n dX12_meltItem_225 rfl 4 rfl ?_
      refine tm_iadd dX12_meltItem_226 ?_
      refine tm_iast (z := 2640 + (σ.1 62)) (v := ((fCopy (x) (2640 + (σ.1 62)) σ).2.1 4 (2640 + (σ.1 62))) + base) dX12_meltItem_227 (show mT[2]? = some (4, 0, 2860) from rfl) (by omega) (by omega) (by decide) ?_
      exact tm_vret rfl dX12_meltItem_228 (⟨rfl, ((((Fr.rfl.trans (Fr.sub fCopy_fr (by decide) (by decide) (by decide))).S (by decide)).trans (Fr.sub F9 (by decide) (by decide) (by decide))).A (by decide)), (R10.A (by omega)), by rw [show (sA 4 (2640 + (σ.1 62)) (((fCopy (x) (2640 + (σ.1 62)) σ).2.1 4 (2640 + (σ.1 62))) + base) σ14).1 62 = σ.1 62 + 1 from n62, if_neg (by omega)], by rw [show (sA 4 (2640 + (σ.1 62)) (((fCopy (x) (2640 + (σ.1 62)) σ).2.1 4 (2640 + (σ.1 62))) + base) σ14).1 62 = σ.1 62 + 1 from n62]; exact mi_reg hmi hmc (by omega) (by omega)⟩)
    · refine tm_tableIn (tgt := 186) dX12_meltItem_84 ⟨by omega, by omega⟩ (by omega) (by omega) (show _ = some (102) by rw [h15v]; rfl) (by decide) ?_
      refine tm_aload_n dX12_meltItem_186 rfl 1 rfl ?_
      refine tm_get (k := 5) (v := .ref (b + 1 + 3)) lay_12 dX12_meltItem_187 (by decide) fl12_20 rfl ?_
      refine tm_iload dX12_meltItem_190 0 rfl ?_
      refine tm_dup2 dX12_meltItem_192 rfl rfl ?_
      refine tm_iald (z := 2640 + (σ.1 62)) (v := (fCopy (x) (2640 + (σ.1 62)) σ).2.1 5 (2640 + (σ.1 62))) dX12_meltItem_193 (show mT[3]? = some (5, 0, 2860) from rfl) (by omega) (by omega) (by decide) (ra_F F9 (by decide) (ra_S (rfl))) ?_
      refine tm_iload_n dX12_meltItem_194 rfl 3 rfl ?_
      refine tm_iadd dX12_meltItem_195 ?_
      refine tm_iast (z := 2640 + (σ.1 62)) (v := ((fCopy (x) (2640 + (σ.1 62)) σ).2.1 5 (2640 + (σ.1 62))) + f) dX12_meltItem_196 (show mT[3]? = some (5, 0, 2860) from rfl) (by omega) (by omega) (by decide) ?_
      refine tm_goto (tgt := 228) dX12_meltItem_197 (by decide) ?_
      exact tm_vret rfl dX12_meltItem_228 (⟨rfl, ((((Fr.rfl.trans (Fr.sub fCopy_fr (by decide) (by decide) (by decide))).S (by decide)).trans (Fr.sub F9 (by decide) (by decide) (by decide))).A (by decide)), (R10.A (by omega)), by rw [show (sA 5 (2640 + (σ.1 62)) (((fCopy (x) (2640 + (σ.1 62)) σ).2.1 5 (2640 + (σ.1 62))) + f) σ14).1 62 = σ.1 62 + 1 from n62, if_neg (by omega)], by rw [show (sA 5 (2640 + (σ.1 62)) (((fCopy (x) (2640 + (σ.1 62)) σ).2.1 5 (2640 + (σ.1 62))) + f) σ14).1 62 = σ.1 62 + 1 from n62]; exact mi_of hmi hmc (by omega) (by omega)⟩)
    · refine tm_tableIn (tgt := 186) dX12_meltItem_84 ⟨by omega, by omega⟩ (by omega) (by omega) (show _ = some (102) by rw [h15v]; rfl) (by decide) ?_
      refine tm_aload_n dX12_meltItem_186 rfl 1 rfl ?_
      refine tm_get (k := 5) (v := .ref (b + 1 + 3)) lay_12 dX12_meltItem_187 (by decide) fl12_20 rfl ?_
      refine tm_iload dX12_meltItem_190 0 rfl ?_
      refine tm_dup2 dX12_meltItem_192 rfl rfl ?_
      refine tm_iald (z := 2640 + (σ.1 62)) (v := (fCopy (x) (2640 + (σ.1 62)) σ).2.1 5 (2640 + (σ.1 62))) dX12_meltItem_193 (show mT[3]? = some (5, 0, 2860) from rfl) (by omega) (by omega) (by decide) (ra_F F9 (by decide) (ra_S (rfl))) ?_
      refine tm_iload_n dX12_meltItem_194 rfl 3 rfl ?_
      refine tm_iadd dX12_meltItem_195 ?_
      refine tm_iast (z := 2640 + (σ.1 62)) (v := ((fCopy (x) (2640 + (σ.1 62)) σ).2.1 5 (2640 + (σ.1 62))) + f) dX12_meltItem_196 (show mT[3]? = some (5, 0, 2860) from rfl) (by omega) (by omega) (by decide) ?_
      refine tm_goto (tgt := 228) dX12_meltItem_197 (by decide) ?_
      exact tm_vret rfl dX12_meltItem_228 (⟨rfl, ((((Fr.rfl.trans (Fr.sub fCopy_fr (by decide) (by decide) (by decide))).S (by decide)).trans (Fr.sub F9 (by decide) (by decide) (by decide))).A (by decide)), (R10.A (by omega)), by rw [show (sA 5 (2640 + (σ.1 62)) (((fCopy (x) (2640 + (σ.1 62)) σ).2.1 5 (2640 + (σ.1 62))) + f) σ14).1 62 = σ.1 62 + 1 from n62, if_neg (by omega)], by rw [show (sA 5 (2640 + (σ.1 62)) (((fCopy (x) (2640 + (σ.1 62)) σ).2.1 5 (2640 + (σ.1 62))) + f) σ14).1 62 = σ.1 62 + 1 from n62]; exact mi_of hmi hmc (by omega) (by omega)⟩)
    · refine tm_tableIn (tgt := 171) dX12_meltItem_84 ⟨by omega, by omega⟩ (by omega) (by omega) (show _ = some (87) by rw [h15v]; rfl) (by decide) ?_
      refine tm_aload_n dX12_meltItem_171 rfl 1 rfl ?_
      refine tm_get (k := 4) (v := .ref (b + 1 + 2)) lay_12 dX12_meltItem_172 (by decide) fl12_17 rfl ?_
      refine tm_iload dX12_meltItem_175 0 rfl ?_
      refine tm_dup2 dX12_meltItem_177 rfl rfl ?_
      refine tm_iald (z := 2640 + (σ.1 62)) (v := (fCopy (x) (2640 + (σ.1 62)) σ).2.1 4 (2640 + (σ.1 62))) dX12_meltItem_178 (show mT[2]? = some (4, 0, 2860) from rfl) (by omega) (by omega) (by decide) (ra_F F9 (by decide) (ra_S (rfl))) ?_
      refine tm_iload dX12_meltItem_179 5 rfl ?_
      refine tm_iadd dX12_meltItem_181 ?_
      refine tm_iast (z := 2640 + (σ.1 62)) (v := ((fCopy (x) (2640 + (σ.1 62)) σ).2.1 4 (2640 + (σ.1 62))) + lb) dX12_meltItem_182 (show mT[2]? = some (4, 0, 2860) from rfl) (by omega) (by omega) (by decide) ?_
      refine tm_goto (tgt := 228) dX12_meltItem_183 (by decide) ?_
      exact tm_vret rfl dX12_meltItem_228 (⟨rfl, ((((Fr.rfl.trans (Fr.sub fCopy_fr (by decide) (by decide) (by decide))).S (by decide)).trans (Fr.sub F9 (by decide) (by decide) (by decide))).A (by decide)), (R10.A (by omega)), by rw [show (sA 4 (2640 + (σ.1 62)) (((fCopy (x) (2640 + (σ.1 62)) σ).2.1 4 (2640 + (σ.1 62))) + lb) σ14).1 62 = σ.1 62 + 1 from n62, if_neg (by omega)], by rw [show (sA 4 (2640 + (σ.1 62)) (((fCopy (x) (2640 + (σ.1 62)) σ).2.1 4 (2640 + (σ.1 62))) + lb) σ14).1 62 = σ.1 62 + 1 from n62]; exact mi_lab hmi hmc (by omega) (by omega)⟩)
    · refine tm_tableIn (tgt := 200) dX12_meltItem_84 ⟨by omega, by omega⟩ (by omega) (by omega) (show _ = some (116) by rw [h15v]; rfl) (by decide) ?_
      refine tm_aload_n dX12_meltItem_200 rfl 1 rfl ?_
      refine tm_get (k := 4) (v := .ref (b + 1 + 2)) lay_12 dX12_meltItem_201 (by decide) fl12_17 rfl ?_
      refine tm_iload dX12_meltItem_204 0 rfl ?_
      refine tm_dup2 dX12_meltItem_206 rfl rfl ?_
      refine tm_iald (z := 2640 + (σ.1 62)) (v := (fCopy (x) (2640 + (σ.1 62)) σ).2.1 4 (2640 + (σ.1 62))) dX12_meltItem_207 (show mT[2]? = some (4, 0, 2860) from rfl) (by omega) (by omega) (by decide) (ra_F F9 (by decide) (ra_S (rfl))) ?_
      refine tm_iload_n dX12_meltItem_208 rfl 3 rfl ?_
      refine tm_iadd dX12_meltItem_209 ?_
      refine tm_iast (z := 2640 + (σ.1 62)) (v := ((fCopy (x) (2640 + (σ.1 62)) σ).2.1 4 (2640 + (σ.1 62))) + f) dX12_meltItem_210 (show mT[2]? = some (4, 0, 2860) from rfl) (by omega) (by omega) (by decide) ?_
      refine tm_goto (tgt := 228) dX12_meltItem_211 (by decide) ?_
      exact tm_vret rfl dX12_meltItem_228 (⟨rfl, ((((Fr.rfl.trans (Fr.sub fCopy_fr (by decide) (by decide) (by decide))).S (by decide)).trans (Fr.sub F9 (by decide) (by decide) (by decide))).A (by decide)), (R10.A (by omega)), by rw [show (sA 4 (2640 + (σ.1 62)) (((fCopy (x) (2640 + (σ.1 62)) σ).2.1 4 (2640 + (σ.1 62))) + f) σ14).1 62 = σ.1 62 + 1 from n62, if_neg (by omega)], by rw [show (sA 4 (2640 + (σ.1 62)) (((fCopy (x) (2640 + (σ.1 62)) σ).2.1 4 (2640 + (σ.1 62))) + f) σ14).1 62 = σ.1 62 + 1 from n62]; exact mi_frm hmi hmc (by omega) (by omega)⟩)
    · refine tm_tableIn (tgt := 200) dX12_meltItem_84 ⟨by omega, by omega⟩ (by omega) (by omega) (show _ = some (116) by rw [h15v]; rfl) (by decide) ?_
      refine tm_aload_n dX12_meltItem_200 rfl 1 rfl ?_
      refine tm_get (k := 4) (v := .ref (b + 1 + 2)) lay_12 dX12_meltItem_201 (by decide) fl12_17 rfl ?_
      refine tm_iload dX12_meltItem_204 0 rfl ?_
      refine tm_dup2 dX12_meltItem_206 rfl rfl ?_
      refine tm_iald (z := 2640 + (σ.1 62)) (v := (fCopy (x) (2640 + (σ.1 62)) σ).2.1 4 (2640 + (σ.1 62))) dX12_meltItem_207 (show mT[2]? = some (4, 0, 2860) from rfl) (by omega) (by omega) (by decide) (ra_F F9 (by decide) (ra_S (rfl))) ?_
      refine tm_iload_n dX12_meltItem_208 rfl 3 rfl ?_
      refine tm_iadd dX12_meltItem_209 ?_
      refine tm_iast (z := 2640 + (σ.1 62)) (v := ((fCopy (x) (2640 + (σ.1 62)) σ).2.1 4 (2640 + (σ.1 62))) + f) dX12_meltItem_210 (show mT[2]? = some (4, 0, 2860) from rfl) (by omega) (by omega) (by decide) ?_
      refine tm_goto (tgt := 228) dX12_meltItem_211 (by decide) ?_
      exact tm_vret rfl dX12_meltItem_228 (⟨rfl, ((((Fr.rfl.trans (Fr.sub fCopy_fr (by decide) (by decide) (by decide))).S (by decide)).trans (Fr.sub F9 (by decide) (by decide) (by decide))).A (by decide)), (R10.A (by omega)), by rw [show (sA 4 (2640 + (σ.1 62)) (((fCopy (x) (2640 + (σ.1 62)) σ).2.1 4 (2640 + (σ.1 62))) + f) σ14).1 62 = σ.1 62 + 1 from n62, if_neg (by omega)], by rw [show (sA 4 (2640 + (σ.1 62)) (((fCopy (x) (2640 + (σ.1 62)) σ).2.1 4 (2640 + (σ.1 62))) + f) σ14).1 62 = σ.1 62 + 1 from n62]; exact mi_frm hmi hmc (by omega) (by omega)⟩)
