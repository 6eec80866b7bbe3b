section
theorem ml12_475 : Cond.methodLink RX12 475 yX12_findLives ∈ pWW := pw9 (List.mem_of_getElem? (i := 129) rfl) rfl
theorem ml12_527 : Cond.methodLink RX12 527 yX12_unbind ∈ pWW := pw9 (List.mem_of_getElem? (i := 221) rfl) rfl
theorem ml12_530 : Cond.methodLink RX12 530 yX12_renumber ∈ pWW := pw9 (List.mem_of_getElem? (i := 229) rfl) rfl
theorem ml12_410 : Cond.methodLink RX12 410 yX12_registers ∈ pWW := pw9 (List.mem_of_getElem? (i := 48) rfl) rfl
theorem dX12_share_0 : decode cX12_share 0 = .ok (.aload_n 0, 1) := by decide +kernel
theorem dX12_share_1 : decode cX12_share 1 = .ok (.iload_n 1, 1) := by decide +kernel
theorem dX12_share_2 : decode cX12_share 2 = .ok (.invokevirtual 475, 3) := by decide +kernel
theorem dX12_share_5 : decode cX12_share 5 = .ok (.iconst 0, 1) := by decide +kernel
theorem dX12_share_6 : decode cX12_share 6 = .ok (.istore_n 2, 1) := by decide +kernel
theorem dX12_share_26 : decode cX12_share 26 = .ok (.iconst 0, 1) := by decide +kernel
theorem dX12_share_27 : decode cX12_share 27 = .ok (.istore_n 2, 1) := by decide +kernel
theorem dX12_share_78 : decode cX12_share 78 = .ok (.iconst 0, 1) := by decide +kernel
theorem dX12_share_79 : decode cX12_share 79 = .ok (.istore_n 2, 1) := by decide +kernel
theorem dX12_share_155 : decode cX12_share 155 = .ok (.iconst 0, 1) := by decide +kernel
theorem dX12_share_156 : decode cX12_share 156 = .ok (.istore_n 2, 1) := by decide +kernel
theorem dX12_share_230 : decode cX12_share 230 = .ok (.aload_n 0, 1) := by decide +kernel
theorem dX12_share_231 : decode cX12_share 231 = .ok (.iload_n 1, 1) := by decide +kernel
theorem dX12_share_232 : decode cX12_share 232 = .ok (.invokevirtual 527, 3) := by decide +kernel
theorem dX12_share_235 : decode cX12_share 235 = .ok (.aload_n 0, 1) := by decide +kernel
theorem dX12_share_236 : decode cX12_share 236 = .ok (.iload_n 1, 1) := by decide +kernel
theorem dX12_share_237 : decode cX12_share 237 = .ok (.invokevirtual 530, 3) := by decide +kernel
theorem dX12_share_240 : decode cX12_share 240 = .ok (.aload_n 0, 1) := by decide +kernel
theorem dX12_share_241 : decode cX12_share 241 = .ok (.iload_n 1, 1) := by decide +kernel
theorem dX12_share_242 : decode cX12_share 242 = .ok (.invokevirtual 410, 3) := by decide +kernel
theorem dX12_share_245 : decode cX12_share 245 = .ok (.ireturn, 1) := by decide +kernel
set_option maxHeartbeats 4000000 in
set_option maxRecDepth 20000 in
theorem c_X12_share (d : Nat) {b : Nat} {σ : MS} {r : Int} {F : Int} (hr : 0 ≤ r ∧ r < 6) (hR : RG σ) (hit : ITM σ) (hpar : PAR σ) (hnam : NAM σ) (hok : OKS σ F r) (hof : OKF σ r) (hl : LAB σ) (hbo : BO 47 σ) (hbl : BO 59 σ) (hbd : BO 63 σ) (hnl : NUL σ) (hlex : LEX σ r) : Tm (d + 6) m_X12_share 0 b σ [(0, .ref b), (1, .int (iI r))] [] (fun ro σ2 => ∃ v : Int, ro = some (.int (iI v)) ∧ (Fr [] [4, 6, 7, 8, 18, 46, 47, 59, 63, 64, 65, 66] [] σ σ2) ∧ (RG σ2) ∧ (LAB σ2) ∧ (BO 47 σ2) ∧ (BO 59 σ2) ∧ (BO 63 σ2) ∧ (NUL σ2) ∧ (OKS σ2 F r) ∧ (OKF σ2 r) ∧ (XO r σ σ2) ∧ (XN r σ σ2) ∧ (DK σ σ2)) := by
  have q1 := hit r (by omega) (by omega)
  refine tm_aload_n dX12_share_0 rfl 0 rfl ?_
  refine tm_iload_n dX12_share_1 rfl 1 rfl ?_
  refine tm_callV (M := m_X12_share) (pc := 2) (ix := 475) (M' := m_X12_findLives) (As := [.int (iI r)]) (rest := []) dX12_share_2 ok_X12_findLives im_X12_findLives se_X12_findLives ml12_475 np_X12_findLives rfl rfl (Nat.le_of_ble_eq_true rfl) (Nat.le_of_ble_eq_true rfl) rfl (c_X12_findLives (d) (σ := σ) (r := r) (F := F) (by omega) hR hit hpar hok hl hbl) (fun r1 σ2 hp => ?_)
  obtain ⟨rfl, f4, f5, f6, f7⟩ := hp
  show Tm _ _ 5 b σ2 [(0, .ref b), (1, .int (iI r))] [] _
  have hlab1 := f6
  have hbl1 := f7
  refine tm_iconst dX12_share_5 ?_
  refine tm_istore_n (L' := [(2, .int (iI 0)), (0, .ref b), (1, .int (iI r))]) dX12_share_6 rfl (by decide) rfl ?_
  refine tm_sub [0, 1, 2] rfl (l_sh1 (d + 5) (σ0 := σ2) (r := r) (fun k13 σ14 F10 R11 f12 => ?_) _ (0) σ2 Fr.rfl f5 (by omega) (hbd.fr (show Fr [] [46, 59] [] σ σ2 from (Fr.rfl.trans (Fr.sub f4 (by decide) (by decide) (by decide)))) (by decide)) rfl)
  show Tm _ _ 26 b σ14 [(2, .int (iI k13)), (0, .ref b), (1, .int (iI r))] [] _
  have hbd1 := f12
  refine tm_iconst dX12_share_26 ?_
  refine tm_istore_n (L' := [(2, .int (iI 0)), (0, .ref b), (1, .int (iI r))]) dX12_share_27 rfl (by decide) rfl ?_
  refine tm_sub [0, 1, 2] rfl (l_sh2 (d + 3) (σ0 := σ14) (r := r) hr R11 (hpar.fr (show Fr [] [46, 59, 63] [] σ σ14 from ((Fr.rfl.trans (Fr.sub f4 (by decide) (by decide) (by decide))).trans (Fr.sub F10 (by decide) (by decide) (by decide)))) (by decide)) (hbl1.fr F10 (by decide)) (fun a120 σ21 F17 R18 f19 => ?_) _ (0) σ14 Fr.rfl R11 (by omega) hbd1 rfl)
  show Tm _ _ 78 b σ21 [(2, .int (iI a120)), (0, .ref b), (1, .int (iI r))] [] _
  have hbd2 := f19
  refine tm_iconst dX12_share_78 ?_
  refine tm_istore_n (L' := [(2, .int (iI 0)), (0, .ref b), (1, .int (iI r))]) dX12_share_79 rfl (by decide) rfl ?_
  refine tm_sub [0, 1, 2] rfl (l_sh4 (d + 2) (σ0 := σ21) (r := r) (F := F) hr R18 (hit.fr (show Fr [] [46, 59, 63] [] σ σ21 from (((Fr.rfl.trans (Fr.sub f4 (by decide) (by decide) (by decide))).trans (Fr.sub F10 (by decide) (by decide) (by decide))).trans (Fr.sub F17 (by decide) (by decide) (by decide)))) (by decide)) (hok.fr (show Fr [] [46, 59, 63] [] σ σ21 from (((Fr.rfl.trans (Fr.sub f4 (by decide) (by decide) (by decide))).trans (Fr.sub F10 (by decide) (by decide) (by decide))).trans (Fr.sub F17 (by decide) (by decide) (by decide)))) (by decide)) (BO.fr (BO.fr hbl1 F10 (by decide)) F17 (by decide)) (LAB.fr (LAB.fr hlab1 F10 (by decide)) F17 (by decide)) (fun k27 σ28 F24 R25 f26 => ?_) _ (0) σ21 Fr.rfl R18 (by rw [((show Fr [] [46, 59, 63] [] σ σ21 from (((Fr.rfl.trans (Fr.sub f4 (by decide) (by decide) (by decide))).trans (Fr.sub F10 (by decide) (by decide) (by decide))).trans (Fr.sub F17 (by decide) (by decide) (by decide))))).2.1 9 (by decide)]; omega) hbd2 rfl)
  show Tm _ _ 155 b σ28 [(2, .int (iI k27)), (0, .ref b), (1, .int (iI r))] [] _
  have hbd3 := f26
  have hlab4 := ((hlab1.fr F10 (by decide)).fr F17 (by decide)).fr F24 (by decide)
  have hbl4 := ((hbl1.fr F10 (by decide)).fr F17 (by decide)).fr F24 (by decide)
  refine tm_iconst dX12_share_155 ?_
  refine tm_istore_n (L' := [(2, .int (iI 0)), (0, .ref b), (1, .int (iI r))]) dX12_share_156 rfl (by decide) rfl ?_
  refine tm_sub [0, 1, 2] rfl (l_sh6 (d + 5) (σ0 := σ28) (r := r) R25 hbd3 (fun g34 σ35 F31 R32 f33 => ?_) _ (0) σ28 Fr.rfl R25 (by omega) (hnl.fr (show Fr [] [46, 59, 63] [] σ σ28 from ((((Fr.rfl.trans (Fr.sub f4 (by decide) (by decide) (by decide))).trans (Fr.sub F10 (by decide) (by decide) (by decide))).trans (Fr.sub F17 (by decide) (by decide) (by decide))).trans (Fr.sub F24 (by decide) (by decide) (by decide)))) (by decide)) rfl)
  show Tm _ _ 230 b σ35 [(2, .int (iI g34)), (0, .ref b), (1, .int (iI r))] [] _
  have hnl5 := f33
  have hlab5 := hlab4.fr F31 (by decide)
  have hbl5 := hbl4.fr F31 (by decide)
  refine tm_aload_n dX12_share_230 rfl 1 rfl ?_
  refine tm_iload_n dX12_share_231 rfl 2 rfl ?_
  refine tm_callV (M := m_X12_share) (pc := 232) (ix := 527) (M' := m_X12_unbind) (As := [.int (iI r)]) (rest := []) dX12_share_232 ok_X12_unbind im_X12_unbind se_X12_unbind ml12_527 np_X12_unbind rfl rfl (Nat.le_of_ble_eq_true rfl) (Nat.le_of_ble_eq_true rfl) rfl (c_X12_unbind (d + 1) (σ := σ35) (r := r) (F := F) (by omega) R32 (hit.fr (show Fr [] [46, 59, 63, 64] [] σ σ35 from (((((Fr.rfl.trans (Fr.sub f4 (by decide) (by decide) (by decide))).trans (Fr.sub F10 (by decide) (by decide) (by decide))).trans (Fr.sub F17 (by decide) (by decide) (by decide))).trans (Fr.sub F24 (by decide) (by decide) (by decide))).trans (Fr.sub F31 (by decide) (by decide) (by decide)))) (by decide)) (hpar.fr (show Fr [] [46, 59, 63, 64] [] σ σ35 from (((((Fr.rfl.trans (Fr.sub f4 (by decide) (by decide) (by decide))).trans (Fr.sub F10 (by decide) (by decide) (by decide))).trans (Fr.sub F17 (by decide) (by decide) (by decide))).trans (Fr.sub F24 (by decide) (by decide) (by decide))).trans (Fr.sub F31 (by decide) (by decide) (by decide)))) (by decide)) (hok.fr (show Fr [] [46, 59, 63, 64] [] σ σ35 from (((((Fr.rfl.trans (Fr.sub f4 (by decide) (by decide) (by decide))).trans (Fr.sub F10 (by decide) (by decide) (by decide))).trans (Fr.sub F17 (by decide) (by decide) (by decide))).trans (Fr.sub F24 (by decide) (by decide) (by decide))).trans (Fr.sub F31 (by decide) (by decide) (by decide)))) (by decide)) hlab5 (hbo.fr (show Fr [] [46, 59, 63, 64] [] σ σ35 from (((((Fr.rfl.trans (Fr.sub f4 (by decide) (by decide) (by decide))).trans (Fr.sub F10 (by decide) (by decide) (by decide))).trans (Fr.sub F17 (by decide) (by decide) (by decide))).trans (Fr.sub F24 (by decide) (by decide) (by decide))).trans (Fr.sub F31 (by decide) (by decide) (by decide)))) (by decide)) hbl5 hnl5.num (hlex.fr (show Fr [] [46, 59, 63, 64] [] σ σ35 from (((((Fr.rfl.trans (Fr.sub f4 (by decide) (by decide) (by decide))).trans (Fr.sub F10 (by decide) (by decide) (by decide))).trans (Fr.sub F17 (by decide) (by decide) (by decide))).trans (Fr.sub F24 (by decide) (by decide) (by decide))).trans (Fr.sub F31 (by decide) (by decide) (by decide)))) (by decide))) (fun r36 σ37 hp => ?_)
  obtain ⟨rfl, f39, f40, f41, f42, f43, f44⟩ := hp
  show Tm _ _ 235 b σ37 [(2, .int (iI g34)), (0, .ref b), (1, .int (iI r))] [] _
  have hlab6 := f41
  have hbo6 := f42
  have hok6 := f43
  have hxo6 := f44
  have hnl6 := hnl5.fr f39 (by decide)
  refine tm_aload_n dX12_share_235 rfl 1 rfl ?_
  refine tm_iload_n dX12_share_236 rfl 2 rfl ?_
  refine tm_callV (M := m_X12_share) (pc := 237) (ix := 530) (M' := m_X12_renumber) (As := [.int (iI r)]) (rest := []) dX12_share_237 ok_X12_renumber im_X12_renumber se_X12_renumber ml12_530 np_X12_renumber rfl rfl (Nat.le_of_ble_eq_true rfl) (Nat.le_of_ble_eq_true rfl) rfl (c_X12_renumber (d + 1) (σ := σ37) (r := r) (F := F) (by omega) f40 (hit.fr (show Fr [] [6, 7, 8, 46, 47, 59, 63, 64, 65, 66] [] σ σ37 from ((((((Fr.rfl.trans (Fr.sub f4 (by decide) (by decide) (by decide))).trans (Fr.sub F10 (by decide) (by decide) (by decide))).trans (Fr.sub F17 (by decide) (by decide) (by decide))).trans (Fr.sub F24 (by decide) (by decide) (by decide))).trans (Fr.sub F31 (by decide) (by decide) (by decide))).trans (Fr.sub f39 (by decide) (by decide) (by decide)))) (by decide)) (hpar.fr (show Fr [] [6, 7, 8, 46, 47, 59, 63, 64, 65, 66] [] σ σ37 from ((((((Fr.rfl.trans (Fr.sub f4 (by decide) (by decide) (by decide))).trans (Fr.sub F10 (by decide) (by decide) (by decide))).trans (Fr.sub F17 (by decide) (by decide) (by decide))).trans (Fr.sub F24 (by decide) (by decide) (by decide))).trans (Fr.sub F31 (by decide) (by decide) (by decide))).trans (Fr.sub f39 (by decide) (by decide) (by decide)))) (by decide)) (hnam.fr (show Fr [] [6, 7, 8, 46, 47, 59, 63, 64, 65, 66] [] σ σ37 from ((((((Fr.rfl.trans (Fr.sub f4 (by decide) (by decide) (by decide))).trans (Fr.sub F10 (by decide) (by decide) (by decide))).trans (Fr.sub F17 (by decide) (by decide) (by decide))).trans (Fr.sub F24 (by decide) (by decide) (by decide))).trans (Fr.sub F31 (by decide) (by decide) (by decide))).trans (Fr.sub f39 (by decide) (by decide) (by decide)))) (by decide)) hnl6.num hok6 (hof.fr (show Fr [] [6, 7, 8, 46, 47, 59, 63, 64, 65, 66] [] σ σ37 from ((((((Fr.rfl.trans (Fr.sub f4 (by decide) (by decide) (by decide))).trans (Fr.sub F10 (by decide) (by decide) (by decide))).trans (Fr.sub F17 (by decide) (by decide) (by decide))).trans (Fr.sub F24 (by decide) (by decide) (by decide))).trans (Fr.sub F31 (by decide) (by decide) (by decide))).trans (Fr.sub f39 (by decide) (by decide) (by decide)))) (by decide))) (fun r45 σ46 hp => ?_)
  obtain ⟨rfl, f48, f49, f50, f51, f52, f53, f54⟩ := hp
  show Tm _ _ 240 b σ46 [(2, .int (iI g34)), (0, .ref b), (1, .int (iI r))] [] _
  have hok7 := f50
  have hof7 := f51
  have hxo7 := f52
  have hxn7 := f53
  have hdk7 := f54
  refine tm_aload_n dX12_share_240 rfl 1 rfl ?_
  refine tm_iload_n dX12_share_241 rfl 2 rfl ?_
  refine tm_callV (M := m_X12_share) (pc := 242) (ix := 410) (M' := m_X12_registers) (As := [.int (iI r)]) (rest := []) dX12_share_242 ok_X12_registers im_X12_registers se_X12_registers ml12_410 np_X12_registers rfl rfl (Nat.le_of_ble_eq_true rfl) (Nat.le_of_ble_eq_true rfl) rfl (c_X12_registers (d + 1) (σ := σ46) (r := r) (F := F) (by omega) f49 hof7 (hnam.fr (show Fr [] [4, 6, 7, 8, 18, 46, 47, 59, 63, 64, 65, 66] [] σ σ46 from (((((((Fr.rfl.trans (Fr.sub f4 (by decide) (by decide) (by decide))).trans (Fr.sub F10 (by decide) (by decide) (by decide))).trans (Fr.sub F17 (by decide) (by decide) (by decide))).trans (Fr.sub F24 (by decide) (by decide) (by decide))).trans (Fr.sub F31 (by decide) (by decide) (by decide))).trans (Fr.sub f39 (by decide) (by decide) (by decide))).trans (Fr.sub f48 (by decide) (by decide) (by decide)))) (by decide)) (hit.fr (show Fr [] [4, 6, 7, 8, 18, 46, 47, 59, 63, 64, 65, 66] [] σ σ46 from (((((((Fr.rfl.trans (Fr.sub f4 (by decide) (by decide) (by decide))).trans (Fr.sub F10 (by decide) (by decide) (by decide))).trans (Fr.sub F17 (by decide) (by decide) (by decide))).trans (Fr.sub F24 (by decide) (by decide) (by decide))).trans (Fr.sub F31 (by decide) (by decide) (by decide))).trans (Fr.sub f39 (by decide) (by decide) (by decide))).trans (Fr.sub f48 (by decide) (by decide) (by decide)))) (by decide)) (hpar.fr (show Fr [] [4, 6, 7, 8, 18, 46, 47, 59, 63, 64, 65, 66] [] σ σ46 from (((((((Fr.rfl.trans (Fr.sub f4 (by decide) (by decide) (by decide))).trans (Fr.sub F10 (by decide) (by decide) (by decide))).trans (Fr.sub F17 (by decide) (by decide) (by decide))).trans (Fr.sub F24 (by decide) (by decide) (by decide))).trans (Fr.sub F31 (by decide) (by decide) (by decide))).trans (Fr.sub f39 (by decide) (by decide) (by decide))).trans (Fr.sub f48 (by decide) (by decide) (by decide)))) (by decide)) hok7) (fun r55 σ56 hp => ?_)
  obtain ⟨v57, rfl, rfl, f58, f59, f60⟩ := hp
  show Tm _ _ 245 b σ46 [(2, .int (iI g34)), (0, .ref b), (1, .int (iI r))] [.int (iI v57)] _
  exact tm_iret rfl dX12_share_245 (⟨_, rfl, (((((((Fr.rfl.trans (Fr.sub f4 (by decide) (by decide) (by decide))).trans (Fr.sub F10 (by decide) (by decide) (by decide))).trans (Fr.sub F17 (by decide) (by decide) (by decide))).trans (Fr.sub F24 (by decide) (by decide) (by decide))).trans (Fr.sub F31 (by decide) (by decide) (by decide))).trans (Fr.sub f39 (by decide) (by decide) (by decide))).trans (Fr.sub f48 (by decide) (by decide) (by decide))), f49, hlab6.fr f48 (by decide), hbo6.fr f48 (by decide), (hbl5.fr f39 (by decide)).fr f48 (by decide), ((hbd3.fr F31 (by decide)).fr f39 (by decide)).fr f48 (by decide), hnl6.fr f48 (by decide), hok7, hof7, ((XO.fr (show Fr [] [46, 59, 63, 64] [] σ σ35 from (((((Fr.rfl.trans (Fr.sub f4 (by decide) (by decide) (by decide))).trans (Fr.sub F10 (by decide) (by decide) (by decide))).trans (Fr.sub F17 (by decide) (by decide) (by decide))).trans (Fr.sub F24 (by decide) (by decide) (by decide))).trans (Fr.sub F31 (by decide) (by decide) (by decide)))) (by decide)).trans hxo6).trans hxo7, fun z hz => (hxn7 z hz).trans (by rw [((show Fr [] [6, 7, 8, 46, 47, 59, 63, 64, 65, 66] [] σ σ37 from ((((((Fr.rfl.trans (Fr.sub f4 (by decide) (by decide) (by decide))).trans (Fr.sub F10 (by decide) (by decide) (by decide))).trans (Fr.sub F17 (by decide) (by decide) (by decide))).trans (Fr.sub F24 (by decide) (by decide) (by decide))).trans (Fr.sub F31 (by decide) (by decide) (by decide))).trans (Fr.sub f39 (by decide) (by decide) (by decide))))).2.1 18 (by decide)]), hdk7.s (show Fr [] [6, 7, 8, 46, 47, 59, 63, 64, 65, 66] [] σ σ37 from ((((((Fr.rfl.trans (Fr.sub f4 (by decide) (by decide) (by decide))).trans (Fr.sub F10 (by decide) (by decide) (by decide))).trans (Fr.sub F17 (by decide) (by decide) (by decide))).trans (Fr.sub F24 (by decide) (by decide) (by decide))).trans (Fr.sub F31 (by decide) (by decide) (by decide))).trans (Fr.sub f39 (by decide) (by decide) (by decide)))) (by decide) (by decide)⟩)
end
section
def KNW (σ : MS) : Prop := ∀ g, (0 ≤ σ.2.1 60 g ∧ σ.2.1 60 g ≤ 2) ∧ (σ.2.1 60 g = 2 → 0 ≤ σ.2.1 61 g ∧ σ.2.1 61 g < 192)
theorem KNW.fr {ss ks js : List Nat} {σ τ : MS} (h : KNW σ) (f : Fr ss ks js σ τ) (hk : ∀ k ∈ [60, 61], k ∉ ks) : KNW τ := by
  unfold KNW
  rw [f.q hk (k := 60) (by decide), f.q hk (k := 61) (by decide)]
  exact h
theorem KNW.z {σ : MS} (h : KNW σ) {z v : Int} (hv : v = 0 ∨ v = σ.2.1 60 z) : KNW (sA 60 z v σ) := fun g => by
  rw [show (sA 60 z v σ).2.1 61 g = σ.2.1 61 g from ra_o (by decide) rfl]
  by_cases e : g = z
  · subst e
    rw [show (sA 60 g v σ).2.1 60 g = v from ra_eq]
    have := h g
    rcases hv with e | e <;> rw [e]
    · exact ⟨by omega, fun q => by omega⟩
    · exact this
  · rw [show (sA 60 z v σ).2.1 60 g = σ.2.1 60 g from ra_ne e rfl]
    exact h g
theorem KNW.kv {σ : MS} (h : KNW σ) {z k v : Int} (hk : 0 ≤ k ∧ k ≤ 2) (hv : k = 2 → 0 ≤ v ∧ v < 192) : KNW (sA 61 z v (sA 60 z k σ)) := fun g => by
  by_cases e : g = z
  · subst e
    rw [show (sA 61 g v (sA 60 g k σ)).2.1 61 g = v from ra_eq, show (sA 61 g v (sA 60 g k σ)).2.1 60 g = k from ra_o (by decide) ra_eq]
    exact ⟨hk, hv⟩
  · rw [show (sA 61 z v (sA 60 z k σ)).2.1 61 g = σ.2.1 61 g from ra_ne e (ra_o (by decide) rfl), show (sA 61 z v (sA 60 z k σ)).2.1 60 g = σ.2.1 60 g from ra_o (by decide) (ra_ne e rfl)]
    exact h g
theorem fArg_n {σ : MS} {x i k v y : Int} : nArgs (fArg x i k v σ) y = nArgs σ y := (nArgs_o (by decide)).trans (nArgs_o (by decide))
theorem oki_arg2 {σ : MS} {F x i k v : Int} (ho : OKI σ F x) (h0 : 0 ≤ i) (h1 : i < 4) (hn : i < nArgs σ x) (hk : 0 ≤ k ∧ k ≤ 2) (hv : k = 2 → 0 ≤ v ∧ v < 192) (hb : σ.2.1 3 x ≠ 12) : OKI (fArg x i k v σ) F x := by
  obtain ⟨o1, o2, o3, o4, o5, o6, o7, o8, o9⟩ := ho
  unfold OKI
  rw [fArg_n]
  refine ⟨o1, o2, o3, o4, o5, o6, o7, fun j c e => ?_, fun q => absurd q hb⟩
  by_cases hj : j = i
  · subst hj
    rw [show (fArg x j k v σ).2.1 7 (4 * x + j) = k from ra_o (by decide) ra_eq, show (fArg x j k v σ).2.1 8 (4 * x + j) = v from ra_eq]
    exact ⟨hk, fun q => ⟨hv q, hn⟩⟩
  · rw [show (fArg x i k v σ).2.1 7 (4 * x + j) = σ.2.1 7 (4 * x + j) from ra_o (by decide) (ra_ne (by omega) rfl), show (fArg x i k v σ).2.1 8 (4 * x + j) = σ.2.1 8 (4 * x + j) from ra_ne (by omega) (ra_o (by decide) rfl)]
    exact o8 j c e
def fCpy (x k v : Int) (σ : MS) : MS := fArg x 1 0 0 (fArg x 0 k v (sA 3 x 0 σ))
theorem fCpy_off {x k v : Int} {σ : MS} : OFF x σ (fCpy x k v σ) := ((OFF.A (by decide)).trans (OFF.arg (by decide) (by decide))).trans (OFF.arg (by decide) (by decide))
theorem fCpy_oki {x k v F : Int} {σ : MS} (ho : OKI σ F x) (hf : 1 ≤ σ.2.1 3 x ∧ σ.2.1 3 x ≤ 5) (hk : 0 ≤ k ∧ k ≤ 2) (hv : k = 2 → 0 ≤ v ∧ v < 192) : OKI (fCpy x k v σ) F x := by
  have e3 : (fCpy x k v σ).2.1 3 x = 0 := ra_o (by decide) (ra_o (by decide) (ra_o (by decide) (ra_o (by decide) ra_eq)))
  have e4 : (fCpy x k v σ).2.1 4 = σ.2.1 4 := rfl
  have e5 : (fCpy x k v σ).2.1 5 = σ.2.1 5 := rfl
  have e6 : (fCpy x k v σ).2.1 6 = σ.2.1 6 := rfl
  obtain ⟨o1, o2, o3, o4, o5, o6, o7, o8, o9⟩ := ho
  have hn : nArgs σ x = 2 := by unfold nArgs; rw [if_neg (by omega), if_neg (by omega), if_pos hf]
  have hm : nArgs (fCpy x k v σ) x = 1 := by unfold nArgs; rw [e3]; rfl
  unfold OKI
  rw [hm, e3, e4, e5]
  refine ⟨by omega, fun _ => o2 (by omega), fun q => by omega, fun q => by omega, fun q => by omega, fun q => by omega, fun q => by omega, fun i c e => ?_, fun q => by omega⟩
  have := o8 i c e
  by_cases i0 : i = 0
  · subst i0
    rw [show (fCpy x k v σ).2.1 7 (4 * x + 0) = k from ra_o (by decide) (ra_ne (by omega) (ra_o (by decide) ra_eq)), show (fCpy x k v σ).2.1 8 (4 * x + 0) = v from ra_ne (by omega) (ra_o (by decide) ra_eq)]
    exact ⟨hk, fun q => ⟨hv q, by omega⟩⟩
  · by_cases i1 : i = 1
    · subst i1
      rw [show (fCpy x k v σ).2.1 7 (4 * x + 1) = 0 from ra_o (by decide) ra_eq]
      exact ⟨by omega, fun q => by omega⟩
    · rw [show (fCpy x k v σ).2.1 7 (4 * x + i) = σ.2.1 7 (4 * x + i) from ra_o (by decide) (ra_ne (by omega) (ra_o (by decide) (ra_ne (by omega) (ra_o (by decide) rfl))))]
      exact ⟨this.1, fun q => by have := (this.2 q).2; omega⟩
def KC (σ τ : MS) : Prop := ∀ x, τ.2.1 3 x = σ.2.1 3 x ∨ ((1 ≤ σ.2.1 3 x ∧ σ.2.1 3 x ≤ 5) ∧ τ.2.1 3 x = 0)
theorem KC.rfl {σ : MS} : KC σ σ := fun _ => Or.inl (Eq.refl _)
theorem KC.cpy {x k v : Int} {σ τ : MS} (h : KC σ τ) (hf : 1 ≤ τ.2.1 3 x ∧ τ.2.1 3 x ≤ 5) : KC σ (fCpy x k v τ) := fun y => by
  by_cases e : y = x
  · subst e
    rcases h y with q | q
    · exact Or.inr ⟨by omega, ra_o (by decide) (ra_o (by decide) (ra_o (by decide) (ra_o (by decide) ra_eq)))⟩
    · omega
  · have e3 : (fCpy x k v τ).2.1 3 y = τ.2.1 3 y := ra_o (by decide) (ra_o (by decide) (ra_o (by decide) (ra_o (by decide) (ra_ne e (Eq.refl _)))))
    rw [e3]
    exact h y

theorem fl12_136 : Cond.fieldLink RX12 136 (TX12 61).1 (TX12 61).2.1 (TX12 61).2.2.1 ∈ pWW := pw7 (List.mem_of_getElem? (i := 68) rfl) rfl
theorem dX12_learn_29 : decode cX12_learn 29 = .ok (.iload_n 3, 1) := by decide +kernel
theorem dX12_learn_30 : decode cX12_learn 30 = .ok (.sipush 192, 3) := by decide +kernel
theorem dX12_learn_33 : decode cX12_learn 33 = .ok (.if_icmp .ge 45, 3) := by decide +kernel
theorem dX12_learn_36 : decode cX12_learn 36 = .ok (.aload_n 0, 1) := by decide +kernel
theorem dX12_learn_37 : decode cX12_learn 37 = .ok (.getfield 133, 3) := by decide +kernel
theorem dX12_learn_40 : decode cX12_learn 40 = .ok (.iload_n 3, 1) := by decide +kernel
theorem dX12_learn_41 : decode cX12_learn 41 = .ok (.aload_n 0, 1) := by decide +kernel
theorem dX12_learn_42 : decode cX12_learn 42 = .ok (.getfield 133, 3) := by decide +kernel
theorem dX12_learn_45 : decode cX12_learn 45 = .ok (.iload_n 3, 1) := by decide +kernel
theorem dX12_learn_46 : decode cX12_learn 46 = .ok (.iaload, 1) := by decide +kernel
theorem dX12_learn_47 : decode cX12_learn 47 = .ok (.iconst 2, 1) := by decide +kernel
theorem dX12_learn_48 : decode cX12_learn 48 = .ok (.if_icmp .ne 17, 3) := by decide +kernel
theorem dX12_learn_65 : decode cX12_learn 65 = .ok (.aload_n 0, 1) := by decide +kernel
theorem dX12_learn_66 : decode cX12_learn 66 = .ok (.getfield 133, 3) := by decide +kernel
theorem dX12_learn_69 : decode cX12_learn 69 = .ok (.iload_n 3, 1) := by decide +kernel
theorem dX12_learn_70 : decode cX12_learn 70 = .ok (.iaload, 1) := by decide +kernel
theorem dX12_learn_71 : decode cX12_learn 71 = .ok (.iastore, 1) := by decide +kernel
theorem dX12_learn_72 : decode cX12_learn 72 = .ok (.iinc 3 1, 3) := by decide +kernel
theorem dX12_learn_75 : decode cX12_learn 75 = .ok (.goto (-46), 3) := by decide +kernel
theorem dX12_learn_51 : decode cX12_learn 51 = .ok (.aload_n 0, 1) := by decide +kernel
theorem dX12_learn_52 : decode cX12_learn 52 = .ok (.getfield 136, 3) := by decide +kernel
theorem dX12_learn_55 : decode cX12_learn 55 = .ok (.iload_n 3, 1) := by decide +kernel
theorem dX12_learn_56 : decode cX12_learn 56 = .ok (.iaload, 1) := by decide +kernel
theorem dX12_learn_57 : decode cX12_learn 57 = .ok (.iload_n 2, 1) := by decide +kernel
theorem dX12_learn_58 : decode cX12_learn 58 = .ok (.if_icmp .ne 7, 3) := by decide +kernel
theorem dX12_learn_61 : decode cX12_learn 61 = .ok (.iconst 0, 1) := by decide +kernel
theorem dX12_learn_62 : decode cX12_learn 62 = .ok (.goto 9, 3) := by decide +kernel
set_option maxHeartbeats 4000000 in
set_option maxRecDepth 20000 in
theorem l_learn (d : Nat) {b : Nat} {σ0 : MS} {x : Int} {w : Int} {post : Option Value → MS → Prop} (hR0 : RG σ0) (h_w : -2147483648 ≤ w ∧ w ≤ 2147483647) (hx_78 : ∀ (g : Int) (σ : MS) , (Fr [] [60] [] σ0 σ) → (RG σ) → (KNW σ) → Tm (d + 1) m_X12_learn 78 b σ [(3, .int (iI g)), (2, .int (iI w)), (0, .ref b), (1, .int (iI x))] [] post) : ∀ (n : Nat) (g : Int) (σ : MS) , (Fr [] [60] [] σ0 σ) → (RG σ) → (0 ≤ g ∧ g ≤ 192) → (KNW σ) → (192 - g).toNat = n → Tm (d + 1) m_X12_learn 29 b σ [(3, .int (iI g)), (2, .int (iI w)), (0, .ref b), (1, .int (iI x))] [] post := by
  intro n
  induction n using Nat.strongRecOn with
  | _ n ih =>
    intro g σ hF hR h0 hkn hm
    refine tm_iload_n dX12_learn_29 rfl 0 rfl ?_
    refine tm_sipush dX12_learn_30 (by decide) ?_
    refine tm_icmp_ge (tgt := 78) dX12_learn_33 (by decide) ⟨by omega, by omega⟩ ⟨by decide, by decide⟩ (fun h1 => ?_) (fun h1 => ?_)
    · exact tm_sub [0, 1, 2, 3] rfl (hx_78 (g) σ (Fr.rfl.trans (Fr.sub hF (by decide) (by decide) (by decide))) hR hkn)
    · refine tm_aload_n dX12_learn_36 rfl 2 rfl ?_
      refine tm_get (k := 60) (v := .ref (b + 1 + 38)) lay_12 dX12_learn_37 (by decide) fl12_133 rfl ?_
      refine tm_iload_n dX12_learn_40 rfl 0 rfl ?_
      refine tm_aload_n dX12_learn_41 rfl 2 rfl ?_
      refine tm_get (k := 60) (v := .ref (b + 1 + 38)) lay_12 dX12_learn_42 (by decide) fl12_133 rfl ?_
      refine tm_iload_n dX12_learn_45 rfl 0 rfl ?_
      refine tm_iald (z := g) (v := σ.2.1 60 g) dX12_learn_46 (show mT[38]? = some (60, 0, 192) from rfl) (by omega) (by omega) (by decide) (rfl) ?_
      have g2 := RG.a hR 60 (g)
      refine tm_iconst dX12_learn_47 ?_
      refine tm_icmp_ne (tgt := 65) dX12_learn_48 (by decide) ⟨by omega, by omega⟩ ⟨by decide, by decide⟩ (fun h3 => ?_) (fun h3 => ?_)
      · refine tm_aload_n dX12_learn_65 rfl 2 rfl ?_
        refine tm_get (k := 60) (v := .ref (b + 1 + 38)) lay_12 dX12_learn_66 (by decide) fl12_133 rfl ?_
        refine tm_iload_n dX12_learn_69 rfl 0 rfl ?_
        refine tm_iald (z := g) (v := σ.2.1 60 g) dX12_learn_70 (show mT[38]? = some (60, 0, 192) from rfl) (by omega) (by omega) (by decide) (rfl) ?_
        have g4 := RG.a hR 60 (g)
        refine tm_iast (z := g) (v := σ.2.1 60 g) dX12_learn_71 (show mT[38]? = some (60, 0, 192) from rfl) (by omega) (by omega) (by decide) ?_
        refine tm_iinc (q0 := 0) (L' := [(3, .int (iI (g + 1))), (2, .int (iI w)), (0, .ref b), (1, .int (iI x))]) dX12_learn_72 rfl (by decide) rfl ?_
        refine tm_goto (tgt := 29) dX12_learn_75 (by decide) ?_
        exact tm_sub [0, 1, 2, 3] rfl (ih _ (by omega) (g + 1) (sA 60 (g) (σ.2.1 60 g) σ) ((Fr.rfl.trans (Fr.sub hF (by decide) (by decide) (by decide))).A (by decide)) (hR.A (by omega)) (by omega) (hkn.z (by omega)) rfl)
      · refine tm_aload_n dX12_learn_51 rfl 2 rfl ?_
        refine tm_get (k := 61) (v := .ref (b + 1 + 39)) lay_12 dX12_learn_52 (by decide) fl12_136 rfl ?_
        refine tm_iload_n dX12_learn_55 rfl 0 rfl ?_
        refine tm_iald (z := g) (v := σ0.2.1 61 g) dX12_learn_56 (show mT[39]? = some (61, 0, 192) from rfl) (by omega) (by omega) (by decide) (ra_F hF (by decide) (rfl)) ?_
        have g5 := RG.a hR0 61 (g)
        refine tm_iload_n dX12_learn_57 rfl 1 rfl ?_
        refine tm_icmp_ne (tgt := 65) dX12_learn_58 (by decide) ⟨by omega, by omega⟩ ⟨by omega, by omega⟩ (fun h6 => ?_) (fun h6 => ?_)
        · refine tm_aload_n dX12_learn_65 rfl 2 rfl ?_
          refine tm_get (k := 60) (v := .ref (b + 1 + 38)) lay_12 dX12_learn_66 (by decide) fl12_133 rfl ?_
          refine tm_iload_n dX12_learn_69 rfl 0 rfl ?_
          refine tm_iald (z := g) (v := σ.2.1 60 g) dX12_learn_70 (show mT[38]? = some (60, 0, 192) from rfl) (by omega) (by omega) (by decide) (rfl) ?_
          have g7 := RG.a hR 60 (g)
          refine tm_iast (z := g) (v := σ.2.1 60 g) dX12_learn_71 (show mT[38]? = some (60, 0, 192) from rfl) (by omega) (by omega) (by decide) ?_
          refine tm_iinc (q0 := 0) (L' := [(3, .int (iI (g + 1))), (2, .int (iI w)), (0, .ref b), (1, .int (iI x))]) dX12_learn_72 rfl (by decide) rfl ?_
          refine tm_goto (tgt := 29) dX12_learn_75 (by decide) ?_
          exact tm_sub [0, 1, 2, 3] rfl (ih _ (by omega) (g + 1) (sA 60 (g) (σ.2.1 60 g) σ) ((Fr.rfl.trans (Fr.sub hF (by decide) (by decide) (by decide))).A (by decide)) (hR.A (by omega)) (by omega) (hkn.z (by omega)) rfl)
        · refine tm_iconst dX12_learn_61 ?_
          refine tm_goto (tgt := 71) dX12_learn_62 (by decide) ?_
          refine tm_iast (z := g) (v := 0) dX12_learn_71 (show mT[38]? = some (60, 0, 192) from rfl) (by omega) (by omega) (by decide) ?_
          refine tm_iinc (q0 := 0) (L' := [(3, .int (iI (g + 1))), (2, .int (iI w)), (0, .ref b), (1, .int (iI x))]) dX12_learn_72 rfl (by decide) rfl ?_
          refine tm_goto (tgt := 29) dX12_learn_75 (by decide) ?_
          exact tm_sub [0, 1, 2, 3] rfl (ih _ (by omega) (g + 1) (sA 60 (g) (0) σ) ((Fr.rfl.trans (Fr.sub hF (by decide) (by decide) (by decide))).A (by decide)) (hR.A (by omega)) (by omega) (hkn.z (by omega)) rfl)
theorem dX12_learn_0 : decode cX12_learn 0 = .ok (.aload_n 0, 1) := by decide +kernel
theorem dX12_learn_1 : decode cX12_learn 1 = .ok (.getfield 13, 3) := by decide +kernel
theorem dX12_learn_4 : decode cX12_learn 4 = .ok (.iload_n 1, 1) := by decide +kernel
theorem dX12_learn_5 : decode cX12_learn 5 = .ok (.iaload, 1) := by decide +kernel
theorem dX12_learn_6 : decode cX12_learn 6 = .ok (.invokestatic 192, 3) := by decide +kernel
theorem dX12_learn_9 : decode cX12_learn 9 = .ok (.ifCond .ne 4, 3) := by decide +kernel
theorem dX12_learn_13 : decode cX12_learn 13 = .ok (.aload_n 0, 1) := by decide +kernel
theorem dX12_learn_14 : decode cX12_learn 14 = .ok (.getfield 17, 3) := by decide +kernel
theorem dX12_learn_17 : decode cX12_learn 17 = .ok (.iload_n 1, 1) := by decide +kernel
theorem dX12_learn_18 : decode cX12_learn 18 = .ok (.iaload, 1) := by decide +kernel
theorem dX12_learn_19 : decode cX12_learn 19 = .ok (.istore_n 2, 1) := by decide +kernel
theorem dX12_learn_20 : decode cX12_learn 20 = .ok (.aload_n 0, 1) := by decide +kernel
theorem dX12_learn_21 : decode cX12_learn 21 = .ok (.getfield 133, 3) := by decide +kernel
theorem dX12_learn_24 : decode cX12_learn 24 = .ok (.iload_n 2, 1) := by decide +kernel
theorem dX12_learn_25 : decode cX12_learn 25 = .ok (.iconst 0, 1) := by decide +kernel
theorem dX12_learn_26 : decode cX12_learn 26 = .ok (.iastore, 1) := by decide +kernel
theorem dX12_learn_27 : decode cX12_learn 27 = .ok (.iconst 0, 1) := by decide +kernel
theorem dX12_learn_28 : decode cX12_learn 28 = .ok (.istore_n 3, 1) := by decide +kernel
theorem dX12_learn_78 : decode cX12_learn 78 = .ok (.aload_n 0, 1) := by decide +kernel
theorem dX12_learn_79 : decode cX12_learn 79 = .ok (.getfield 13, 3) := by decide +kernel
theorem dX12_learn_82 : decode cX12_learn 82 = .ok (.iload_n 1, 1) := by decide +kernel
theorem dX12_learn_83 : decode cX12_learn 83 = .ok (.iaload, 1) := by decide +kernel
theorem dX12_learn_84 : decode cX12_learn 84 = .ok (.ifCond .ne 55, 3) := by decide +kernel
theorem dX12_learn_139 : decode cX12_learn 139 = .ok (.return_, 1) := by decide +kernel
theorem dX12_learn_87 : decode cX12_learn 87 = .ok (.aload_n 0, 1) := by decide +kernel
theorem dX12_learn_88 : decode cX12_learn 88 = .ok (.getfield 26, 3) := by decide +kernel
theorem dX12_learn_91 : decode cX12_learn 91 = .ok (.iconst 4, 1) := by decide +kernel
theorem dX12_learn_92 : decode cX12_learn 92 = .ok (.iload_n 1, 1) := by decide +kernel
theorem dX12_learn_93 : decode cX12_learn 93 = .ok (.imul, 1) := by decide +kernel
theorem dX12_learn_94 : decode cX12_learn 94 = .ok (.iaload, 1) := by decide +kernel
theorem dX12_learn_95 : decode cX12_learn 95 = .ok (.iconst 2, 1) := by decide +kernel
theorem dX12_learn_96 : decode cX12_learn 96 = .ok (.if_icmp .ne 15, 3) := by decide +kernel
theorem dX12_learn_111 : decode cX12_learn 111 = .ok (.aload_n 0, 1) := by decide +kernel
theorem dX12_learn_112 : decode cX12_learn 112 = .ok (.getfield 133, 3) := by decide +kernel
theorem dX12_learn_115 : decode cX12_learn 115 = .ok (.iload_n 2, 1) := by decide +kernel
theorem dX12_learn_116 : decode cX12_learn 116 = .ok (.aload_n 0, 1) := by decide +kernel
theorem dX12_learn_117 : decode cX12_learn 117 = .ok (.getfield 26, 3) := by decide +kernel
theorem dX12_learn_120 : decode cX12_learn 120 = .ok (.iconst 4, 1) := by decide +kernel
theorem dX12_learn_121 : decode cX12_learn 121 = .ok (.iload_n 1, 1) := by decide +kernel
theorem dX12_learn_122 : decode cX12_learn 122 = .ok (.imul, 1) := by decide +kernel
theorem dX12_learn_123 : decode cX12_learn 123 = .ok (.iaload, 1) := by decide +kernel
theorem dX12_learn_124 : decode cX12_learn 124 = .ok (.iastore, 1) := by decide +kernel
theorem dX12_learn_125 : decode cX12_learn 125 = .ok (.aload_n 0, 1) := by decide +kernel
theorem dX12_learn_126 : decode cX12_learn 126 = .ok (.getfield 136, 3) := by decide +kernel
theorem dX12_learn_129 : decode cX12_learn 129 = .ok (.iload_n 2, 1) := by decide +kernel
theorem dX12_learn_130 : decode cX12_learn 130 = .ok (.aload_n 0, 1) := by decide +kernel
theorem dX12_learn_131 : decode cX12_learn 131 = .ok (.getfield 29, 3) := by decide +kernel
theorem dX12_learn_134 : decode cX12_learn 134 = .ok (.iconst 4, 1) := by decide +kernel
theorem dX12_learn_135 : decode cX12_learn 135 = .ok (.iload_n 1, 1) := by decide +kernel
theorem dX12_learn_136 : decode cX12_learn 136 = .ok (.imul, 1) := by decide +kernel
theorem dX12_learn_137 : decode cX12_learn 137 = .ok (.iaload, 1) := by decide +kernel
theorem dX12_learn_138 : decode cX12_learn 138 = .ok (.iastore, 1) := by decide +kernel
theorem dX12_learn_99 : decode cX12_learn 99 = .ok (.aload_n 0, 1) := by decide +kernel
theorem dX12_learn_100 : decode cX12_learn 100 = .ok (.getfield 29, 3) := by decide +kernel
theorem dX12_learn_103 : decode cX12_learn 103 = .ok (.iconst 4, 1) := by decide +kernel
theorem dX12_learn_104 : decode cX12_learn 104 = .ok (.iload_n 1, 1) := by decide +kernel
theorem dX12_learn_105 : decode cX12_learn 105 = .ok (.imul, 1) := by decide +kernel
theorem dX12_learn_106 : decode cX12_learn 106 = .ok (.iaload, 1) := by decide +kernel
theorem dX12_learn_107 : decode cX12_learn 107 = .ok (.iload_n 2, 1) := by decide +kernel
theorem dX12_learn_108 : decode cX12_learn 108 = .ok (.if_icmp .eq 31, 3) := by decide +kernel
theorem dX12_learn_12 : decode cX12_learn 12 = .ok (.return_, 1) := by decide +kernel
set_option maxHeartbeats 4000000 in
set_option maxRecDepth 20000 in
theorem c_X12_learn (d : Nat) {b : Nat} {σ : MS} {x : Int} {F : Int} (hx : 0 ≤ x ∧ x < 2860) (hR : RG σ) (hkn : KNW σ) (hok : OKI σ F x) : Tm (d + 2) m_X12_learn 0 b σ [(0, .ref b), (1, .int (iI x))] [] (fun ro σ2 => ro = none ∧ (Fr [] [60, 61] [] σ σ2) ∧ (RG σ2) ∧ (KNW σ2)) := by
  have q2 := hok.2.1
  have q3 := hok.2.2.2.2.2.2.2.1 0 (by decide) (by decide)
  rw [Int.add_zero] at q3
  refine tm_aload_n dX12_learn_0 rfl 0 rfl ?_
  refine tm_get (k := 3) (v := .ref (b + 1 + 1)) lay_12 dX12_learn_1 (by decide) fl12_13 rfl ?_
  refine tm_iload_n dX12_learn_4 rfl 1 rfl ?_
  refine tm_iald (z := x) (v := σ.2.1 3 x) dX12_learn_5 (show mT[1]? = some (3, 0, 2860) from rfl) (by omega) (by omega) (by decide) (rfl) ?_
  have g1 := RG.a hR 3 (x)
  refine tm_callS (M := m_X12_learn) (pc := 6) (ix := 192) (M' := m_X12_writes) (As := [.int (iI (σ.2.1 3 x))]) (rest := []) dX12_learn_6 ok_X12_writes stt_X12_writes ml12_192 np_X12_writes rfl (Nat.le_of_ble_eq_true rfl) (Nat.le_of_ble_eq_true rfl) rfl (c_X12_writes (d) (σ := σ) (x := σ.2.1 3 x) (by omega)) (fun r2 σ3 hp => ?_)
  obtain ⟨v4, rfl, rfl, f5, f6⟩ := hp
  show Tm _ _ 9 b σ [(0, .ref b), (1, .int (iI x))] [.int (iI v4)] _
  refine tm_if_ne (tgt := 13) dX12_learn_9 (by decide) ⟨by omega, by omega⟩ (fun h7 => ?_) (fun h7 => ?_)
  · refine tm_aload_n dX12_learn_13 rfl 0 rfl ?_
    refine tm_get (k := 4) (v := .ref (b + 1 + 2)) lay_12 dX12_learn_14 (by decide) fl12_17 rfl ?_
    refine tm_iload_n dX12_learn_17 rfl 1 rfl ?_
    refine tm_iald (z := x) (v := σ.2.1 4 x) dX12_learn_18 (show mT[2]? = some (4, 0, 2860) from rfl) (by omega) (by omega) (by decide) (rfl) ?_
    have g8 := RG.a hR 4 (x)
    refine tm_istore_n (L' := [(2, .int (iI (σ.2.1 4 x))), (0, .ref b), (1, .int (iI x))]) dX12_learn_19 rfl (by decide) rfl ?_
    refine tm_aload_n dX12_learn_20 rfl 1 rfl ?_
    refine tm_get (k := 60) (v := .ref (b + 1 + 38)) lay_12 dX12_learn_21 (by decide) fl12_133 rfl ?_
    refine tm_iload_n dX12_learn_24 rfl 0 rfl ?_
    refine tm_iconst dX12_learn_25 ?_
    refine tm_iast (z := σ.2.1 4 x) (v := 0) dX12_learn_26 (show mT[38]? = some (60, 0, 192) from rfl) (by omega) (by omega) (by decide) ?_
    refine tm_iconst dX12_learn_27 ?_
    refine tm_istore_n (L' := [(3, .int (iI 0)), (2, .int (iI (σ.2.1 4 x))), (0, .ref b), (1, .int (iI x))]) dX12_learn_28 rfl (by decide) rfl ?_
    refine tm_sub [0, 1, 2, 3] rfl (l_learn (d + 1) (σ0 := (sA 60 (σ.2.1 4 x) (0) σ)) (x := x) (w := σ.2.1 4 x) (hR.A (by omega)) (by omega) (fun g14 σ15 F11 R12 f13 => ?_) _ (0) (sA 60 (σ.2.1 4 x) (0) σ) Fr.rfl (hR.A (by omega)) (by omega) (hkn.z (by omega)) rfl)
    show Tm _ _ 78 b σ15 [(3, .int (iI g14)), (2, .int (iI (σ.2.1 4 x))), (0, .ref b), (1, .int (iI x))] [] _
    have hkn1 := f13
    refine tm_aload_n dX12_learn_78 rfl 2 rfl ?_
    refine tm_get (k := 3) (v := .ref (b + 1 + 1)) lay_12 dX12_learn_79 (by decide) fl12_13 rfl ?_
    refine tm_iload_n dX12_learn_82 rfl 3 rfl ?_
    refine tm_iald (z := x) (v := σ.2.1 3 x) dX12_learn_83 (show mT[1]? = some (3, 0, 2860) from rfl) (by omega) (by omega) (by decide) (ra_F F11 (by decide) (ra_o (by decide) (rfl))) ?_
    have g16 := RG.a hR 3 (x)
    refine tm_if_ne (tgt := 139) dX12_learn_84 (by decide) ⟨by omega, by omega⟩ (fun h17 => ?_) (fun h17 => ?_)
    · exact tm_vret rfl dX12_learn_139 (⟨rfl, ((Fr.rfl.A (by decide)).trans (Fr.sub F11 (by decide) (by decide) (by decide))), R12, hkn1⟩)
    · refine tm_aload_n dX12_learn_87 rfl 2 rfl ?_
      refine tm_get (k := 7) (v := .ref (b + 1 + 5)) lay_12 dX12_learn_88 (by decide) fl12_26 rfl ?_
      refine tm_iconst dX12_learn_91 ?_
      refine tm_iload_n dX12_learn_92 rfl 3 rfl ?_
      refine tm_imul dX12_learn_93 ?_
      refine tm_iald (z := 4 * x) (v := σ.2.1 7 (4 * x)) dX12_learn_94 (show mT[5]? = some (7, 0, 11440) from rfl) (by omega) (by omega) (by decide) (ra_F F11 (by decide) (ra_o (by decide) (rfl))) ?_
      have g18 := RG.a hR 7 (4 * x)
      refine tm_iconst dX12_learn_95 ?_
      refine tm_icmp_ne (tgt := 111) dX12_learn_96 (by decide) ⟨by omega, by omega⟩ ⟨by decide, by decide⟩ (fun h19 => ?_) (fun h19 => ?_)
      · refine tm_aload_n dX12_learn_111 rfl 2 rfl ?_
        refine tm_get (k := 60) (v := .ref (b + 1 + 38)) lay_12 dX12_learn_112 (by decide) fl12_133 rfl ?_
        refine tm_iload_n dX12_learn_115 rfl 1 rfl ?_
        refine tm_aload_n dX12_learn_116 rfl 2 rfl ?_
        refine tm_get (k := 7) (v := .ref (b + 1 + 5)) lay_12 dX12_learn_117 (by decide) fl12_26 rfl ?_
        refine tm_iconst dX12_learn_120 ?_
        refine tm_iload_n dX12_learn_121 rfl 3 rfl ?_
        refine tm_imul dX12_learn_122 ?_
        refine tm_iald (z := 4 * x) (v := σ.2.1 7 (4 * x)) dX12_learn_123 (show mT[5]? = some (7, 0, 11440) from rfl) (by omega) (by omega) (by decide) (ra_F F11 (by decide) (ra_o (by decide) (rfl))) ?_
        have g20 := RG.a hR 7 (4 * x)
        refine tm_iast (z := σ.2.1 4 x) (v := σ.2.1 7 (4 * x)) dX12_learn_124 (show mT[38]? = some (60, 0, 192) from rfl) (by omega) (by omega) (by decide) ?_
        refine tm_aload_n dX12_learn_125 rfl 2 rfl ?_
        refine tm_get (k := 61) (v := .ref (b + 1 + 39)) lay_12 dX12_learn_126 (by decide) fl12_136 rfl ?_
        refine tm_iload_n dX12_learn_129 rfl 1 rfl ?_
        refine tm_aload_n dX12_learn_130 rfl 2 rfl ?_
        refine tm_get (k := 8) (v := .ref (b + 1 + 6)) lay_12 dX12_learn_131 (by decide) fl12_29 rfl ?_
        refine tm_iconst dX12_learn_134 ?_
        refine tm_iload_n dX12_learn_135 rfl 3 rfl ?_
        refine tm_imul dX12_learn_136 ?_
        refine tm_iald (z := 4 * x) (v := σ.2.1 8 (4 * x)) dX12_learn_137 (show mT[6]? = some (8, 0, 11440) from rfl) (by omega) (by omega) (by decide) (ra_o (by decide) (ra_F F11 (by decide) (ra_o (by decide) (rfl)))) ?_
        have g21 := RG.a hR 8 (4 * x)
        refine tm_iast (z := σ.2.1 4 x) (v := σ.2.1 8 (4 * x)) dX12_learn_138 (show mT[39]? = some (61, 0, 192) from rfl) (by omega) (by omega) (by decide) ?_
        exact tm_vret rfl dX12_learn_139 (⟨rfl, ((((Fr.rfl.A (by decide)).trans (Fr.sub F11 (by decide) (by decide) (by decide))).A (by decide)).A (by decide)), ((R12.A (by omega)).A (by omega)), hkn1.kv (by omega) (by omega)⟩)
      · refine tm_aload_n dX12_learn_99 rfl 2 rfl ?_
        refine tm_get (k := 8) (v := .ref (b + 1 + 6)) lay_12 dX12_learn_100 (by decide) fl12_29 rfl ?_
        refine tm_iconst dX12_learn_103 ?_
        refine tm_iload_n dX12_learn_104 rfl 3 rfl ?_
        refine tm_imul dX12_learn_105 ?_
        refine tm_iald (z := 4 * x) (v := σ.2.1 8 (4 * x)) dX12_learn_106 (show mT[6]? = some (8, 0, 11440) from rfl) (by omega) (by omega) (by decide) (ra_F F11 (by decide) (ra_o (by decide) (rfl))) ?_
        have g22 := RG.a hR 8 (4 * x)
        refine tm_iload_n dX12_learn_107 rfl 1 rfl ?_
        refine tm_icmp_eq (tgt := 139) dX12_learn_108 (by decide) ⟨by omega, by omega⟩ ⟨by omega, by omega⟩ (fun h23 => ?_) (fun h23 => ?_)
        · exact tm_vret rfl dX12_learn_139 (⟨rfl, ((Fr.rfl.A (by decide)).trans (Fr.sub F11 (by decide) (by decide) (by decide))), R12, hkn1⟩)
        · refine tm_aload_n dX12_learn_111 rfl 2 rfl ?_
          refine tm_get (k := 60) (v := .ref (b + 1 + 38)) lay_12 dX12_learn_112 (by decide) fl12_133 rfl ?_
          refine tm_iload_n dX12_learn_115 rfl 1 rfl ?_
          refine tm_aload_n dX12_learn_116 rfl 2 rfl ?_
          refine tm_get (k := 7) (v := .ref (b + 1 + 5)) lay_12 dX12_learn_117 (by decide) fl12_26 rfl ?_
          refine tm_iconst dX12_learn_120 ?_
          refine tm_iload_n dX12_learn_121 rfl 3 rfl ?_
          refine tm_imul dX12_learn_122 ?_
          refine tm_iald (z := 4 * x) (v := σ.2.1 7 (4 * x)) dX12_learn_123 (show mT[5]? = some (7, 0, 11440) from rfl) (by omega) (by omega) (by decide) (ra_F F11 (by decide) (ra_o (by decide) (rfl))) ?_
          have g24 := RG.a hR 7 (4 * x)
          refine tm_iast (z := σ.2.1 4 x) (v := σ.2.1 7 (4 * x)) dX12_learn_124 (show mT[38]? = some (60, 0, 192) from rfl) (by omega) (by omega) (by decide) ?_
          refine tm_aload_n dX12_learn_125 rfl 2 rfl ?_
          refine tm_get (k := 61) (v := .ref (b + 1 + 39)) lay_12 dX12_learn_126 (by decide) fl12_136 rfl ?_
          refine tm_iload_n dX12_learn_129 rfl 1 rfl ?_
          refine tm_aload_n dX12_learn_130 rfl 2 rfl ?_
          refine tm_get (k := 8) (v := .ref (b + 1 + 6)) lay_12 dX12_learn_131 (by decide) fl12_29 rfl ?_
          refine tm_iconst dX12_learn_134 ?_
          refine tm_iload_n dX12_learn_135 rfl 3 rfl ?_
          refine tm_imul dX12_learn_136 ?_
          refine tm_iald (z := 4 * x) (v := σ.2.1 8 (4 * x)) dX12_learn_137 (show mT[6]? = some (8, 0, 11440) from rfl) (by omega) (by omega) (by decide) (ra_o (by decide) (ra_F F11 (by decide) (ra_o (by decide) (rfl)))) ?_
          have g25 := RG.a hR 8 (4 * x)
          refine tm_iast (z := σ.2.1 4 x) (v := σ.2.1 8 (4 * x)) dX12_learn_138 (show mT[39]? = some (61, 0, 192) from rfl) (by omega) (by omega) (by decide) ?_
          exact tm_vret rfl dX12_learn_139 (⟨rfl, ((((Fr.rfl.A (by decide)).trans (Fr.sub F11 (by decide) (by decide) (by decide))).A (by decide)).A (by decide)), ((R12.A (by omega)).A (by omega)), hkn1.kv (by omega) (by omega)⟩)
  · exact tm_vret rfl dX12_learn_12 (⟨rfl, Fr.rfl, hR, hkn⟩)
theorem dX12_putsIn_4 : decode cX12_putsIn 4 = .ok (.iload_n 3, 1) := by decide +kernel
theorem dX12_putsIn_5 : decode cX12_putsIn 5 = .ok (.aload_n 0, 1) := by decide +kernel
theorem dX12_putsIn_6 : decode cX12_putsIn 6 = .ok (.iload_n 1, 1) := by decide +kernel
theorem dX12_putsIn_7 : decode cX12_putsIn 7 = .ok (.invokevirtual 199, 3) := by decide +kernel
theorem dX12_putsIn_10 : decode cX12_putsIn 10 = .ok (.if_icmp .ge 67, 3) := by decide +kernel
theorem dX12_putsIn_13 : decode cX12_putsIn 13 = .ok (.aload_n 0, 1) := by decide +kernel
theorem dX12_putsIn_14 : decode cX12_putsIn 14 = .ok (.getfield 29, 3) := by decide +kernel
theorem dX12_putsIn_17 : decode cX12_putsIn 17 = .ok (.iconst 4, 1) := by decide +kernel
theorem dX12_putsIn_18 : decode cX12_putsIn 18 = .ok (.iload_n 1, 1) := by decide +kernel
theorem dX12_putsIn_19 : decode cX12_putsIn 19 = .ok (.imul, 1) := by decide +kernel
theorem dX12_putsIn_20 : decode cX12_putsIn 20 = .ok (.iload_n 3, 1) := by decide +kernel
theorem dX12_putsIn_21 : decode cX12_putsIn 21 = .ok (.iadd, 1) := by decide +kernel
theorem dX12_putsIn_22 : decode cX12_putsIn 22 = .ok (.iaload, 1) := by decide +kernel
theorem dX12_putsIn_23 : decode cX12_putsIn 23 = .ok (.istore 4, 2) := by decide +kernel
theorem dX12_putsIn_25 : decode cX12_putsIn 25 = .ok (.aload_n 0, 1) := by decide +kernel
theorem dX12_putsIn_26 : decode cX12_putsIn 26 = .ok (.getfield 26, 3) := by decide +kernel
theorem dX12_putsIn_29 : decode cX12_putsIn 29 = .ok (.iconst 4, 1) := by decide +kernel
theorem dX12_putsIn_30 : decode cX12_putsIn 30 = .ok (.iload_n 1, 1) := by decide +kernel
theorem dX12_putsIn_31 : decode cX12_putsIn 31 = .ok (.imul, 1) := by decide +kernel
theorem dX12_putsIn_32 : decode cX12_putsIn 32 = .ok (.iload_n 3, 1) := by decide +kernel
theorem dX12_putsIn_33 : decode cX12_putsIn 33 = .ok (.iadd, 1) := by decide +kernel
theorem dX12_putsIn_34 : decode cX12_putsIn 34 = .ok (.iaload, 1) := by decide +kernel
theorem dX12_putsIn_35 : decode cX12_putsIn 35 = .ok (.iconst 2, 1) := by decide +kernel
theorem dX12_putsIn_36 : decode cX12_putsIn 36 = .ok (.if_icmp .ne 35, 3) := by decide +kernel
theorem dX12_putsIn_71 : decode cX12_putsIn 71 = .ok (.iinc 3 1, 3) := by decide +kernel
theorem dX12_putsIn_74 : decode cX12_putsIn 74 = .ok (.goto (-70), 3) := by decide +kernel
theorem dX12_putsIn_39 : decode cX12_putsIn 39 = .ok (.aload_n 0, 1) := by decide +kernel
theorem dX12_putsIn_40 : decode cX12_putsIn 40 = .ok (.getfield 133, 3) := by decide +kernel
theorem dX12_putsIn_43 : decode cX12_putsIn 43 = .ok (.iload 4, 2) := by decide +kernel
theorem dX12_putsIn_45 : decode cX12_putsIn 45 = .ok (.iaload, 1) := by decide +kernel
theorem dX12_putsIn_46 : decode cX12_putsIn 46 = .ok (.ifCond .eq 25, 3) := by decide +kernel
theorem dX12_putsIn_49 : decode cX12_putsIn 49 = .ok (.aload_n 0, 1) := by decide +kernel
theorem dX12_putsIn_50 : decode cX12_putsIn 50 = .ok (.iload_n 1, 1) := by decide +kernel
theorem dX12_putsIn_51 : decode cX12_putsIn 51 = .ok (.iload_n 3, 1) := by decide +kernel
theorem dX12_putsIn_52 : decode cX12_putsIn 52 = .ok (.aload_n 0, 1) := by decide +kernel
theorem dX12_putsIn_53 : decode cX12_putsIn 53 = .ok (.getfield 133, 3) := by decide +kernel
theorem dX12_putsIn_56 : decode cX12_putsIn 56 = .ok (.iload 4, 2) := by decide +kernel
theorem dX12_putsIn_58 : decode cX12_putsIn 58 = .ok (.iaload, 1) := by decide +kernel
theorem dX12_putsIn_59 : decode cX12_putsIn 59 = .ok (.aload_n 0, 1) := by decide +kernel
theorem dX12_putsIn_60 : decode cX12_putsIn 60 = .ok (.getfield 136, 3) := by decide +kernel
theorem dX12_putsIn_63 : decode cX12_putsIn 63 = .ok (.iload 4, 2) := by decide +kernel
theorem dX12_putsIn_65 : decode cX12_putsIn 65 = .ok (.iaload, 1) := by decide +kernel
theorem dX12_putsIn_66 : decode cX12_putsIn 66 = .ok (.invokevirtual 298, 3) := by decide +kernel
theorem dX12_putsIn_69 : decode cX12_putsIn 69 = .ok (.iconst 1, 1) := by decide +kernel
theorem dX12_putsIn_70 : decode cX12_putsIn 70 = .ok (.istore_n 2, 1) := by decide +kernel
set_option maxHeartbeats 4000000 in
set_option maxRecDepth 20000 in
theorem l_putsIn (d : Nat) {b : Nat} {σ0 : MS} {x : Int} {F : Int} {post : Option Value → MS → Prop} (hx : 0 ≤ x ∧ x < 2860) (hR0 : RG σ0) (hpar : PAR σ0) (hkn : KNW σ0) (hact : σ0.2.1 3 x ≤ 10) (hx_77 : ∀ (w : Int) (i : Int) (σ : MS) , (Fr [] [7, 8] [] σ0 σ) → (RG σ) → (w = 0 ∨ w = 1) → (OKI σ F x) → (OFF x σ0 σ) → Tm (d + 4) m_X12_putsIn 77 b σ [(3, .int (iI i)), (2, .int (iI w)), (0, .ref b), (1, .int (iI x))] [] post) : ∀ (n : Nat) (w : Int) (i : Int) (σ : MS) , (Fr [] [7, 8] [] σ0 σ) → (RG σ) → ((w = 0 ∨ w = 1) ∧ 0 ≤ i ∧ i ≤ 4) → (OKI σ F x) → (OFF x σ0 σ) → (4 - i).toNat = n → Tm (d + 4) m_X12_putsIn 4 b σ [(3, .int (iI i)), (2, .int (iI w)), (0, .ref b), (1, .int (iI x))] [] post := by
  intro n
  induction n using Nat.strongRecOn with
  | _ n ih =>
    intro w i σ hF hR h0 hok hff hm
    have q3 : σ.2.1 3 = σ0.2.1 3 := hF.2.1 3 (by decide)
    refine tm_iload_n dX12_putsIn_4 rfl 0 rfl ?_
    refine tm_aload_n dX12_putsIn_5 rfl 2 rfl ?_
    refine tm_iload_n dX12_putsIn_6 rfl 3 rfl ?_
    refine tm_callV (M := m_X12_putsIn) (pc := 7) (ix := 199) (M' := m_X12_args) (As := [.int (iI x)]) (rest := [.int (iI i)]) dX12_putsIn_7 ok_X12_args im_X12_args se_X12_args ml12_199 np_X12_args rfl rfl (Nat.le_of_ble_eq_true rfl) (Nat.le_of_ble_eq_true rfl) rfl (c_X12_args (d) (σ := σ) (x := x) (by omega) hR hok.2.2.2.2.2.2.1 (hpar.fr hF (by decide))) (fun r1 σ2 hp => ?_)
    obtain ⟨v3, rfl, rfl, f4, f5⟩ := hp
    show Tm _ _ 10 b σ [(3, .int (iI i)), (2, .int (iI w)), (0, .ref b), (1, .int (iI x))] [.int (iI v3), .int (iI i)] _
    refine tm_icmp_ge (tgt := 77) dX12_putsIn_10 (by decide) ⟨by omega, by omega⟩ ⟨by omega, by omega⟩ (fun h6 => ?_) (fun h6 => ?_)
    · exact tm_sub [0, 1, 2, 3] rfl (hx_77 (w) (i) σ (Fr.rfl.trans (Fr.sub hF (by decide) (by decide) (by decide))) hR (by omega) hok hff)
    · have q2 := hok.2.2.2.2.2.2.2.1 i (by omega) (by omega)
      refine tm_aload_n dX12_putsIn_13 rfl 2 rfl ?_
      refine tm_get (k := 8) (v := .ref (b + 1 + 6)) lay_12 dX12_putsIn_14 (by decide) fl12_29 rfl ?_
      refine tm_iconst dX12_putsIn_17 ?_
      refine tm_iload_n dX12_putsIn_18 rfl 3 rfl ?_
      refine tm_imul dX12_putsIn_19 ?_
      refine tm_iload_n dX12_putsIn_20 rfl 0 rfl ?_
      refine tm_iadd dX12_putsIn_21 ?_
      refine tm_iald (z := (4 * x) + i) (v := σ.2.1 8 ((4 * x) + i)) dX12_putsIn_22 (show mT[6]? = some (8, 0, 11440) from rfl) (by omega) (by omega) (by decide) (rfl) ?_
      have g7 := RG.a hR 8 ((4 * x) + i)
      refine tm_istore (L' := [(4, .int (iI (σ.2.1 8 ((4 * x) + i)))), (3, .int (iI i)), (2, .int (iI w)), (0, .ref b), (1, .int (iI x))]) dX12_putsIn_23 (by decide) rfl ?_
      refine tm_aload_n dX12_putsIn_25 rfl 3 rfl ?_
      refine tm_get (k := 7) (v := .ref (b + 1 + 5)) lay_12 dX12_putsIn_26 (by decide) fl12_26 rfl ?_
      refine tm_iconst dX12_putsIn_29 ?_
      refine tm_iload_n dX12_putsIn_30 rfl 4 rfl ?_
      refine tm_imul dX12_putsIn_31 ?_
      refine tm_iload_n dX12_putsIn_32 rfl 1 rfl ?_
      refine tm_iadd dX12_putsIn_33 ?_
      refine tm_iald (z := (4 * x) + i) (v := σ.2.1 7 ((4 * x) + i)) dX12_putsIn_34 (show mT[5]? = some (7, 0, 11440) from rfl) (by omega) (by omega) (by decide) (rfl) ?_
      have g8 := RG.a hR 7 ((4 * x) + i)
      refine tm_iconst dX12_putsIn_35 ?_
      refine tm_icmp_ne (tgt := 71) dX12_putsIn_36 (by decide) ⟨by omega, by omega⟩ ⟨by decide, by decide⟩ (fun h9 => ?_) (fun h9 => ?_)
      · refine tm_iinc (q0 := 1) (L' := [(3, .int (iI (i + 1))), (4, .int (iI (σ.2.1 8 ((4 * x) + i)))), (2, .int (iI w)), (0, .ref b), (1, .int (iI x))]) dX12_putsIn_71 rfl (by decide) rfl ?_
        refine tm_goto (tgt := 4) dX12_putsIn_74 (by decide) ?_
        exact tm_sub [0, 2, 3, 4] rfl (ih _ (by omega) (w) (i + 1) σ (Fr.rfl.trans (Fr.sub hF (by decide) (by decide) (by decide))) hR (by omega) hok hff rfl)
      · refine tm_aload_n dX12_putsIn_39 rfl 3 rfl ?_
        refine tm_get (k := 60) (v := .ref (b + 1 + 38)) lay_12 dX12_putsIn_40 (by decide) fl12_133 rfl ?_
        refine tm_iload dX12_putsIn_43 0 rfl ?_
        refine tm_iald (z := σ.2.1 8 ((4 * x) + i)) (v := σ0.2.1 60 (σ.2.1 8 ((4 * x) + i))) dX12_putsIn_45 (show mT[38]? = some (60, 0, 192) from rfl) (by omega) (by omega) (by decide) (ra_F hF (by decide) (rfl)) ?_
        have g10 := RG.a hR0 60 (σ.2.1 8 ((4 * x) + i))
        have := hkn (σ.2.1 8 ((4 * x) + i))
        refine tm_if_eq (tgt := 71) dX12_putsIn_46 (by decide) ⟨by omega, by omega⟩ (fun h11 => ?_) (fun h11 => ?_)
        · refine tm_iinc (q0 := 1) (L' := [(3, .int (iI (i + 1))), (4, .int (iI (σ.2.1 8 ((4 * x) + i)))), (2, .int (iI w)), (0, .ref b), (1, .int (iI x))]) dX12_putsIn_71 rfl (by decide) rfl ?_
          refine tm_goto (tgt := 4) dX12_putsIn_74 (by decide) ?_
          exact tm_sub [0, 2, 3, 4] rfl (ih _ (by omega) (w) (i + 1) σ (Fr.rfl.trans (Fr.sub hF (by decide) (by decide) (by decide))) hR (by omega) hok hff rfl)
        · refine tm_aload_n dX12_putsIn_49 rfl 3 rfl ?_
          refine tm_iload_n dX12_putsIn_50 rfl 4 rfl ?_
          refine tm_iload_n dX12_putsIn_51 rfl 1 rfl ?_
          refine tm_aload_n dX12_putsIn_52 rfl 3 rfl ?_
          refine tm_get (k := 60) (v := .ref (b + 1 + 38)) lay_12 dX12_putsIn_53 (by decide) fl12_133 rfl ?_
          refine tm_iload dX12_putsIn_56 0 rfl ?_
          refine tm_iald (z := σ.2.1 8 ((4 * x) + i)) (v := σ0.2.1 60 (σ.2.1 8 ((4 * x) + i))) dX12_putsIn_58 (show mT[38]? = some (60, 0, 192) from rfl) (by omega) (by omega) (by decide) (ra_F hF (by decide) (rfl)) ?_
          have g12 := RG.a hR0 60 (σ.2.1 8 ((4 * x) + i))
          have := hkn (σ.2.1 8 ((4 * x) + i))
          refine tm_aload_n dX12_putsIn_59 rfl 3 rfl ?_
          refine tm_get (k := 61) (v := .ref (b + 1 + 39)) lay_12 dX12_putsIn_60 (by decide) fl12_136 rfl ?_
          refine tm_iload dX12_putsIn_63 0 rfl ?_
          refine tm_iald (z := σ.2.1 8 ((4 * x) + i)) (v := σ0.2.1 61 (σ.2.1 8 ((4 * x) + i))) dX12_putsIn_65 (show mT[39]? = some (61, 0, 192) from rfl) (by omega) (by omega) (by decide) (ra_F hF (by decide) (rfl)) ?_
          have g13 := RG.a hR0 61 (σ.2.1 8 ((4 * x) + i))
          refine tm_callV (M := m_X12_putsIn) (pc := 66) (ix := 298) (M' := m_X12_setArg) (As := [.int (iI x), .int (iI i), .int (iI (σ0.2.1 60 (σ.2.1 8 ((4 * x) + i)))), .int (iI (σ0.2.1 61 (σ.2.1 8 ((4 * x) + i))))]) (rest := []) dX12_putsIn_66 ok_X12_setArg im_X12_setArg se_X12_setArg ml12_298 np_X12_setArg rfl rfl (Nat.le_of_ble_eq_true rfl) (Nat.le_of_ble_eq_true rfl) rfl (c_X12_setArg (d + 2) (σ := σ) (x := x) (i := i) (k := σ0.2.1 60 (σ.2.1 8 ((4 * x) + i))) (w := σ0.2.1 61 (σ.2.1 8 ((4 * x) + i))) (by omega)) (fun r14 σ15 hp => ?_)
          obtain ⟨rfl, f17⟩ := hp
          subst f17
          show Tm _ _ 69 b (fArg (x) (i) (σ0.2.1 60 (σ.2.1 8 ((4 * x) + i))) (σ0.2.1 61 (σ.2.1 8 ((4 * x) + i))) σ) [(4, .int (iI (σ.2.1 8 ((4 * x) + i)))), (3, .int (iI i)), (2, .int (iI w)), (0, .ref b), (1, .int (iI x))] [] _
          refine tm_iconst dX12_putsIn_69 ?_
          refine tm_istore_n (L' := [(2, .int (iI 1)), (4, .int (iI (σ.2.1 8 ((4 * x) + i)))), (3, .int (iI i)), (0, .ref b), (1, .int (iI x))]) dX12_putsIn_70 rfl (by decide) rfl ?_
          refine tm_iinc (q0 := 2) (L' := [(3, .int (iI (i + 1))), (2, .int (iI 1)), (4, .int (iI (σ.2.1 8 ((4 * x) + i)))), (0, .ref b), (1, .int (iI x))]) dX12_putsIn_71 rfl (by decide) rfl ?_
          refine tm_goto (tgt := 4) dX12_putsIn_74 (by decide) ?_
          exact tm_sub [0, 1, 3, 4] rfl (ih _ (by omega) (1) (i + 1) (fArg (x) (i) (σ0.2.1 60 (σ.2.1 8 ((4 * x) + i))) (σ0.2.1 61 (σ.2.1 8 ((4 * x) + i))) σ) ((Fr.rfl.trans (Fr.sub hF (by decide) (by decide) (by decide))).trans (Fr.sub fArg_fr (by decide) (by decide) (by decide))) (hR.arg (by omega) (by omega)) (by omega) (oki_arg2 hok (by omega) (by omega) (by omega) (by omega) (by omega) (by rw [q3]; omega)) (hff.trans (OFF.arg (by omega) (by omega))) rfl)
theorem dX12_putsIn_0 : decode cX12_putsIn 0 = .ok (.iconst 0, 1) := by decide +kernel
theorem dX12_putsIn_1 : decode cX12_putsIn 1 = .ok (.istore_n 2, 1) := by decide +kernel
theorem dX12_putsIn_2 : decode cX12_putsIn 2 = .ok (.iconst 0, 1) := by decide +kernel
theorem dX12_putsIn_3 : decode cX12_putsIn 3 = .ok (.istore_n 3, 1) := by decide +kernel
theorem dX12_putsIn_77 : decode cX12_putsIn 77 = .ok (.iload_n 2, 1) := by decide +kernel
theorem dX12_putsIn_78 : decode cX12_putsIn 78 = .ok (.ireturn, 1) := by decide +kernel
set_option maxHeartbeats 4000000 in
set_option maxRecDepth 20000 in
theorem c_X12_putsIn (d : Nat) {b : Nat} {σ : MS} {x : Int} {F : Int} (hx : 0 ≤ x ∧ x < 2860) (hR : RG σ) (hpar : PAR σ) (hkn : KNW σ) (hact : σ.2.1 3 x ≤ 10) (hok : OKI σ F x) : Tm (d + 4) m_X12_putsIn 0 b σ [(0, .ref b), (1, .int (iI x))] [] (fun ro σ2 => ∃ v : Int, ro = some (.int (iI v)) ∧ ((v = 0 ∨ v = 1)) ∧ (Fr [] [7, 8] [] σ σ2) ∧ (RG σ2) ∧ (OKI σ2 F x) ∧ (OFF x σ σ2)) := by
  refine tm_iconst dX12_putsIn_0 ?_
  refine tm_istore_n (L' := [(2, .int (iI 0)), (0, .ref b), (1, .int (iI x))]) dX12_putsIn_1 rfl (by decide) rfl ?_
  refine tm_iconst dX12_putsIn_2 ?_
  refine tm_istore_n (L' := [(3, .int (iI 0)), (2, .int (iI 0)), (0, .ref b), (1, .int (iI x))]) dX12_putsIn_3 rfl (by decide) rfl ?_
  refine tm_sub [0, 1, 2, 3] rfl (l_putsIn (d) (σ0 := σ) (x := x) (F := F) hx hR hpar hkn hact (fun w9 i10 σ11 F4 R5 f6 f7 f8 => ?_) _ (0) (0) σ Fr.rfl hR (by omega) hok OFF.rfl rfl)
  show Tm _ _ 77 b σ11 [(3, .int (iI i10)), (2, .int (iI w9)), (0, .ref b), (1, .int (iI x))] [] _
  refine tm_iload_n dX12_putsIn_77 rfl 1 rfl ?_
  exact tm_zret (v := w9) rfl (by omega) dX12_putsIn_78 (⟨_, rfl, by omega, (Fr.rfl.trans (Fr.sub F4 (by decide) (by decide) (by decide))), R5, f7, f8⟩)
theorem ml12_494 : Cond.methodLink RX12 494 yX12_isAlike ∈ pWW := pw9 (List.mem_of_getElem? (i := 173) rfl) rfl
theorem ml12_497 : Cond.methodLink RX12 497 yX12_stands ∈ pWW := pw9 (List.mem_of_getElem? (i := 177) rfl) rfl
theorem dX12_alike_43 : decode cX12_alike 43 = .ok (.iload 5, 2) := by decide +kernel
theorem dX12_alike_45 : decode cX12_alike 45 = .ok (.ifCond .lt 53, 3) := by decide +kernel
theorem dX12_alike_48 : decode cX12_alike 48 = .ok (.aload_n 0, 1) := by decide +kernel
theorem dX12_alike_49 : decode cX12_alike 49 = .ok (.getfield 13, 3) := by decide +kernel
theorem dX12_alike_52 : decode cX12_alike 52 = .ok (.aload_n 0, 1) := by decide +kernel
theorem dX12_alike_53 : decode cX12_alike 53 = .ok (.iload_n 1, 1) := by decide +kernel
theorem dX12_alike_54 : decode cX12_alike 54 = .ok (.iload 5, 2) := by decide +kernel
theorem dX12_alike_56 : decode cX12_alike 56 = .ok (.invokevirtual 203, 3) := by decide +kernel
theorem dX12_alike_59 : decode cX12_alike 59 = .ok (.iaload, 1) := by decide +kernel
theorem dX12_alike_60 : decode cX12_alike 60 = .ok (.bipush 13, 2) := by decide +kernel
theorem dX12_alike_62 : decode cX12_alike 62 = .ok (.if_icmp .eq 36, 3) := by decide +kernel
theorem dX12_alike_65 : decode cX12_alike 65 = .ok (.aload_n 0, 1) := by decide +kernel
theorem dX12_alike_66 : decode cX12_alike 66 = .ok (.aload_n 0, 1) := by decide +kernel
theorem dX12_alike_67 : decode cX12_alike 67 = .ok (.iload_n 1, 1) := by decide +kernel
theorem dX12_alike_68 : decode cX12_alike 68 = .ok (.iload 5, 2) := by decide +kernel
theorem dX12_alike_70 : decode cX12_alike 70 = .ok (.invokevirtual 203, 3) := by decide +kernel
theorem dX12_alike_73 : decode cX12_alike 73 = .ok (.iload 4, 2) := by decide +kernel
theorem dX12_alike_75 : decode cX12_alike 75 = .ok (.invokevirtual 494, 3) := by decide +kernel
theorem dX12_alike_78 : decode cX12_alike 78 = .ok (.ifCond .eq 14, 3) := by decide +kernel
theorem dX12_alike_92 : decode cX12_alike 92 = .ok (.iinc 5 (-1), 3) := by decide +kernel
theorem dX12_alike_95 : decode cX12_alike 95 = .ok (.goto (-52), 3) := by decide +kernel
theorem dX12_alike_81 : decode cX12_alike 81 = .ok (.aload_n 0, 1) := by decide +kernel
theorem dX12_alike_82 : decode cX12_alike 82 = .ok (.iload_n 1, 1) := by decide +kernel
theorem dX12_alike_83 : decode cX12_alike 83 = .ok (.iload 5, 2) := by decide +kernel
theorem dX12_alike_85 : decode cX12_alike 85 = .ok (.iload_n 3, 1) := by decide +kernel
theorem dX12_alike_86 : decode cX12_alike 86 = .ok (.invokevirtual 497, 3) := by decide +kernel
theorem dX12_alike_89 : decode cX12_alike 89 = .ok (.ifCond .ne 9, 3) := by decide +kernel
set_option maxHeartbeats 4000000 in
set_option maxRecDepth 20000 in
theorem l_alike2 (d : Nat) {b : Nat} {σ : MS} {r : Int} {F : Int} {n1 : Int} {k : Int} {post : Option Value → MS → Prop} (hr : 0 ≤ r ∧ r < 6) (hR : RG σ) (hit : ITM σ) (hpar : PAR σ) (hok : OKS σ F r) (hk : 0 ≤ k ∧ k < σ.2.1 9 r ∧ 1 ≤ σ.2.1 3 (220 * r + k) ∧ σ.2.1 3 (220 * r + k) ≤ 5) (hx_98 : ∀ (j : Int) , (-1 ≤ j ∧ j < k) → (0 ≤ j → σ.2.1 3 (220 * r + j) = 13 ∨ σ.2.1 3 (220 * r + j) = σ.2.1 3 (220 * r + k)) → Tm (d + 6) m_X12_alike 98 b σ [(5, .int (iI j)), (4, .int (iI (220 * r + k))), (3, .int (iI k)), (2, .int (iI n1)), (0, .ref b), (1, .int (iI r))] [] post) : ∀ (n : Nat) (j : Int) , (-1 ≤ j ∧ j < k) → (j + 1).toNat = n → Tm (d + 6) m_X12_alike 43 b σ [(5, .int (iI j)), (4, .int (iI (220 * r + k))), (3, .int (iI k)), (2, .int (iI n1)), (0, .ref b), (1, .int (iI r))] [] post := by
  intro n
  induction n using Nat.strongRecOn with
  | _ n ih =>
    intro j h0 hm
    have q1 := hit r (by omega) (by omega)
    refine tm_iload dX12_alike_43 0 rfl ?_
    refine tm_if_lt (tgt := 98) dX12_alike_45 (by decide) ⟨by omega, by omega⟩ (fun h1 => ?_) (fun h1 => ?_)
    · exact tm_sub [0, 1, 2, 3, 4, 5] rfl (hx_98 (j) (by omega) (by omega))
    · refine tm_aload_n dX12_alike_48 rfl 4 rfl ?_
      refine tm_get (k := 3) (v := .ref (b + 1 + 1)) lay_12 dX12_alike_49 (by decide) fl12_13 rfl ?_
      refine tm_aload_n dX12_alike_52 rfl 4 rfl ?_
      refine tm_iload_n dX12_alike_53 rfl 5 rfl ?_
      refine tm_iload dX12_alike_54 0 rfl ?_
      refine tm_callV (M := m_X12_alike) (pc := 56) (ix := 203) (M' := m_X12_at) (As := [.int (iI r), .int (iI j)]) (rest := [.ref (b + 1 + 1)]) dX12_alike_56 ok_X12_at im_X12_at se_X12_at ml12_203 np_X12_at rfl rfl (Nat.le_of_ble_eq_true rfl) (Nat.le_of_ble_eq_true rfl) rfl (c_X12_at (d + 4) (σ := σ) (x := r) (k := j) ) (fun r2 σ3 hp => ?_)
      obtain ⟨v4, rfl, rfl, f5⟩ := hp
      subst f5
      show Tm _ _ 59 b σ [(5, .int (iI j)), (4, .int (iI (220 * r + k))), (3, .int (iI k)), (2, .int (iI n1)), (0, .ref b), (1, .int (iI r))] [.int (iI (220 * r + j)), .ref (b + 1 + 1)] _
      refine tm_iald (z := 220 * r + j) (v := σ.2.1 3 (220 * r + j)) dX12_alike_59 (show mT[1]? = some (3, 0, 2860) from rfl) (by omega) (by omega) (by decide) (rfl) ?_
      have g6 := RG.a hR 3 (220 * r + j)
      refine tm_bipush dX12_alike_60 (by decide) ?_
      refine tm_icmp_eq (tgt := 98) dX12_alike_62 (by decide) ⟨by omega, by omega⟩ ⟨by decide, by decide⟩ (fun h7 => ?_) (fun h7 => ?_)
      · exact tm_sub [0, 1, 2, 3, 4, 5] rfl (hx_98 (j) (by omega) (by omega))
      · refine tm_aload_n dX12_alike_65 rfl 4 rfl ?_
        refine tm_aload_n dX12_alike_66 rfl 4 rfl ?_
        refine tm_iload_n dX12_alike_67 rfl 5 rfl ?_
        refine tm_iload dX12_alike_68 0 rfl ?_
        refine tm_callV (M := m_X12_alike) (pc := 70) (ix := 203) (M' := m_X12_at) (As := [.int (iI r), .int (iI j)]) (rest := [.ref b]) dX12_alike_70 ok_X12_at im_X12_at se_X12_at ml12_203 np_X12_at rfl rfl (Nat.le_of_ble_eq_true rfl) (Nat.le_of_ble_eq_true rfl) rfl (c_X12_at (d + 4) (σ := σ) (x := r) (k := j) ) (fun r8 σ9 hp => ?_)
        obtain ⟨v10, rfl, rfl, f11⟩ := hp
        subst f11
        show Tm _ _ 73 b σ [(5, .int (iI j)), (4, .int (iI (220 * r + k))), (3, .int (iI k)), (2, .int (iI n1)), (0, .ref b), (1, .int (iI r))] [.int (iI (220 * r + j)), .ref b] _
        refine tm_iload dX12_alike_73 1 rfl ?_
        refine tm_callV (M := m_X12_alike) (pc := 75) (ix := 494) (M' := m_X12_isAlike) (As := [.int (iI (220 * r + j)), .int (iI (220 * r + k))]) (rest := []) dX12_alike_75 ok_X12_isAlike im_X12_isAlike se_X12_isAlike ml12_494 np_X12_isAlike rfl rfl (Nat.le_of_ble_eq_true rfl) (Nat.le_of_ble_eq_true rfl) rfl (c_X12_isAlike (d + 4) (σ := σ) (x := 220 * r + j) (y := 220 * r + k) (by omega) (by omega) hR) (fun r12 σ13 hp => ?_)
        obtain ⟨v14, rfl, rfl, f15, f16⟩ := hp
        show Tm _ _ 78 b σ [(5, .int (iI j)), (4, .int (iI (220 * r + k))), (3, .int (iI k)), (2, .int (iI n1)), (0, .ref b), (1, .int (iI r))] [.int (iI v14)] _
        refine tm_if_eq (tgt := 92) dX12_alike_78 (by decide) ⟨by omega, by omega⟩ (fun h17 => ?_) (fun h17 => ?_)
        · refine tm_iinc (q0 := 0) (L' := [(5, .int (iI (j + (-1)))), (4, .int (iI (220 * r + k))), (3, .int (iI k)), (2, .int (iI n1)), (0, .ref b), (1, .int (iI r))]) dX12_alike_92 rfl (by decide) rfl ?_
          refine tm_goto (tgt := 43) dX12_alike_95 (by decide) ?_
          exact tm_sub [0, 1, 2, 3, 4, 5] rfl (ih _ (by omega) (j + (-1)) (by omega) rfl)
        · refine tm_aload_n dX12_alike_81 rfl 4 rfl ?_
          refine tm_iload_n dX12_alike_82 rfl 5 rfl ?_
          refine tm_iload dX12_alike_83 0 rfl ?_
          refine tm_iload_n dX12_alike_85 rfl 2 rfl ?_
          refine tm_callV (M := m_X12_alike) (pc := 86) (ix := 497) (M' := m_X12_stands) (As := [.int (iI r), .int (iI j), .int (iI k)]) (rest := []) dX12_alike_86 ok_X12_stands im_X12_stands se_X12_stands ml12_497 np_X12_stands rfl rfl (Nat.le_of_ble_eq_true rfl) (Nat.le_of_ble_eq_true rfl) rfl (c_X12_stands (d) (σ := σ) (r := r) (j := j) (k := k) (F := F) (by omega) hR hit hpar hok (by omega)) (fun r18 σ19 hp => ?_)
          obtain ⟨v20, rfl, rfl, f21⟩ := hp
          show Tm _ _ 89 b σ [(5, .int (iI j)), (4, .int (iI (220 * r + k))), (3, .int (iI k)), (2, .int (iI n1)), (0, .ref b), (1, .int (iI r))] [.int (iI v20)] _
          refine tm_if_ne (tgt := 98) dX12_alike_89 (by decide) ⟨by omega, by omega⟩ (fun h22 => ?_) (fun h22 => ?_)
          · exact tm_sub [0, 1, 2, 3, 4, 5] rfl (hx_98 (j) (by omega) (by omega))
          · refine tm_iinc (q0 := 0) (L' := [(5, .int (iI (j + (-1)))), (4, .int (iI (220 * r + k))), (3, .int (iI k)), (2, .int (iI n1)), (0, .ref b), (1, .int (iI r))]) dX12_alike_92 rfl (by decide) rfl ?_
            refine tm_goto (tgt := 43) dX12_alike_95 (by decide) ?_
            exact tm_sub [0, 1, 2, 3, 4, 5] rfl (ih _ (by omega) (j + (-1)) (by omega) rfl)
theorem dX12_alike_4 : decode cX12_alike 4 = .ok (.iload_n 3, 1) := by decide +kernel
theorem dX12_alike_5 : decode cX12_alike 5 = .ok (.aload_n 0, 1) := by decide +kernel
theorem dX12_alike_6 : decode cX12_alike 6 = .ok (.getfield 32, 3) := by decide +kernel
theorem dX12_alike_9 : decode cX12_alike 9 = .ok (.iload_n 1, 1) := by decide +kernel
theorem dX12_alike_10 : decode cX12_alike 10 = .ok (.iaload, 1) := by decide +kernel
theorem dX12_alike_11 : decode cX12_alike 11 = .ok (.if_icmp .ge 159, 3) := by decide +kernel
theorem dX12_alike_14 : decode cX12_alike 14 = .ok (.aload_n 0, 1) := by decide +kernel
theorem dX12_alike_15 : decode cX12_alike 15 = .ok (.iload_n 1, 1) := by decide +kernel
theorem dX12_alike_16 : decode cX12_alike 16 = .ok (.iload_n 3, 1) := by decide +kernel
theorem dX12_alike_17 : decode cX12_alike 17 = .ok (.invokevirtual 203, 3) := by decide +kernel
theorem dX12_alike_20 : decode cX12_alike 20 = .ok (.istore 4, 2) := by decide +kernel
theorem dX12_alike_22 : decode cX12_alike 22 = .ok (.aload_n 0, 1) := by decide +kernel
theorem dX12_alike_23 : decode cX12_alike 23 = .ok (.getfield 13, 3) := by decide +kernel
theorem dX12_alike_26 : decode cX12_alike 26 = .ok (.iload 4, 2) := by decide +kernel
theorem dX12_alike_28 : decode cX12_alike 28 = .ok (.iaload, 1) := by decide +kernel
theorem dX12_alike_29 : decode cX12_alike 29 = .ok (.invokestatic 196, 3) := by decide +kernel
theorem dX12_alike_32 : decode cX12_alike 32 = .ok (.ifCond .ne 6, 3) := by decide +kernel
theorem dX12_alike_38 : decode cX12_alike 38 = .ok (.iload_n 3, 1) := by decide +kernel
theorem dX12_alike_39 : decode cX12_alike 39 = .ok (.iconst 1, 1) := by decide +kernel
theorem dX12_alike_40 : decode cX12_alike 40 = .ok (.isub, 1) := by decide +kernel
theorem dX12_alike_41 : decode cX12_alike 41 = .ok (.istore 5, 2) := by decide +kernel
theorem dX12_alike_98 : decode cX12_alike 98 = .ok (.iload 5, 2) := by decide +kernel
theorem dX12_alike_100 : decode cX12_alike 100 = .ok (.ifCond .lt 64, 3) := by decide +kernel
theorem dX12_alike_164 : decode cX12_alike 164 = .ok (.iinc 3 1, 3) := by decide +kernel
theorem dX12_alike_167 : decode cX12_alike 167 = .ok (.goto (-163), 3) := by decide +kernel
theorem dX12_alike_103 : decode cX12_alike 103 = .ok (.aload_n 0, 1) := by decide +kernel
theorem dX12_alike_104 : decode cX12_alike 104 = .ok (.getfield 13, 3) := by decide +kernel
theorem dX12_alike_107 : decode cX12_alike 107 = .ok (.aload_n 0, 1) := by decide +kernel
theorem dX12_alike_108 : decode cX12_alike 108 = .ok (.iload_n 1, 1) := by decide +kernel
theorem dX12_alike_109 : decode cX12_alike 109 = .ok (.iload 5, 2) := by decide +kernel
theorem dX12_alike_111 : decode cX12_alike 111 = .ok (.invokevirtual 203, 3) := by decide +kernel
theorem dX12_alike_114 : decode cX12_alike 114 = .ok (.iaload, 1) := by decide +kernel
theorem dX12_alike_115 : decode cX12_alike 115 = .ok (.bipush 13, 2) := by decide +kernel
theorem dX12_alike_117 : decode cX12_alike 117 = .ok (.if_icmp .eq 47, 3) := by decide +kernel
theorem dX12_alike_120 : decode cX12_alike 120 = .ok (.aload_n 0, 1) := by decide +kernel
theorem dX12_alike_121 : decode cX12_alike 121 = .ok (.getfield 17, 3) := by decide +kernel
theorem dX12_alike_124 : decode cX12_alike 124 = .ok (.aload_n 0, 1) := by decide +kernel
theorem dX12_alike_125 : decode cX12_alike 125 = .ok (.iload_n 1, 1) := by decide +kernel
theorem dX12_alike_126 : decode cX12_alike 126 = .ok (.iload 5, 2) := by decide +kernel
theorem dX12_alike_128 : decode cX12_alike 128 = .ok (.invokevirtual 203, 3) := by decide +kernel
theorem dX12_alike_131 : decode cX12_alike 131 = .ok (.iaload, 1) := by decide +kernel
theorem dX12_alike_132 : decode cX12_alike 132 = .ok (.istore 6, 2) := by decide +kernel
theorem dX12_alike_134 : decode cX12_alike 134 = .ok (.aload_n 0, 1) := by decide +kernel
theorem dX12_alike_135 : decode cX12_alike 135 = .ok (.getfield 13, 3) := by decide +kernel
theorem dX12_alike_138 : decode cX12_alike 138 = .ok (.iload 4, 2) := by decide +kernel
theorem dX12_alike_140 : decode cX12_alike 140 = .ok (.iconst 0, 1) := by decide +kernel
theorem dX12_alike_141 : decode cX12_alike 141 = .ok (.iastore, 1) := by decide +kernel
theorem dX12_alike_142 : decode cX12_alike 142 = .ok (.aload_n 0, 1) := by decide +kernel
theorem dX12_alike_143 : decode cX12_alike 143 = .ok (.iload 4, 2) := by decide +kernel
theorem dX12_alike_145 : decode cX12_alike 145 = .ok (.iconst 0, 1) := by decide +kernel
theorem dX12_alike_146 : decode cX12_alike 146 = .ok (.iconst 2, 1) := by decide +kernel
theorem dX12_alike_147 : decode cX12_alike 147 = .ok (.iload 6, 2) := by decide +kernel
theorem dX12_alike_149 : decode cX12_alike 149 = .ok (.invokevirtual 298, 3) := by decide +kernel
theorem dX12_alike_152 : decode cX12_alike 152 = .ok (.aload_n 0, 1) := by decide +kernel
theorem dX12_alike_153 : decode cX12_alike 153 = .ok (.iload 4, 2) := by decide +kernel
theorem dX12_alike_155 : decode cX12_alike 155 = .ok (.iconst 1, 1) := by decide +kernel
theorem dX12_alike_156 : decode cX12_alike 156 = .ok (.iconst 0, 1) := by decide +kernel
theorem dX12_alike_157 : decode cX12_alike 157 = .ok (.iconst 0, 1) := by decide +kernel
theorem dX12_alike_158 : decode cX12_alike 158 = .ok (.invokevirtual 298, 3) := by decide +kernel
theorem dX12_alike_161 : decode cX12_alike 161 = .ok (.iinc 2 1, 3) := by decide +kernel
theorem dX12_alike_35 : decode cX12_alike 35 = .ok (.goto 129, 3) := by decide +kernel
set_option maxHeartbeats 4000000 in
set_option maxRecDepth 20000 in
theorem l_alike1 (d : Nat) {b : Nat} {σ0 : MS} {r : Int} {F : Int} {post : Option Value → MS → Prop} (hr : 0 ≤ r ∧ r < 6) (hR0 : RG σ0) (hit : ITM σ0) (hpar : PAR σ0) (hx_170 : ∀ (n1 : Int) (k : Int) (σ : MS) , (Fr [] [3, 7, 8] [] σ0 σ) → (RG σ) → (0 ≤ n1 ∧ n1 ≤ 220) → (OKS σ F r) → (XO r σ0 σ) → (KC σ0 σ) → Tm (d + 6) m_X12_alike 170 b σ [(3, .int (iI k)), (2, .int (iI n1)), (0, .ref b), (1, .int (iI r))] [] post) : ∀ (n : Nat) (n1 : Int) (k : Int) (σ : MS) , (Fr [] [3, 7, 8] [] σ0 σ) → (RG σ) → (0 ≤ n1 ∧ n1 ≤ k ∧ k ≤ σ0.2.1 9 r) → (OKS σ F r) → (XO r σ0 σ) → (KC σ0 σ) → (220 - k).toNat = n → Tm (d + 6) m_X12_alike 4 b σ [(3, .int (iI k)), (2, .int (iI n1)), (0, .ref b), (1, .int (iI r))] [] post := by
  intro n
  induction n using Nat.strongRecOn with
  | _ n ih =>
    intro n1 k σ hF hR h0 hok hxo hkc hm
    have hit1 := hit.fr hF (by decide)
    have hpar1 := hpar.fr hF (by decide)
    have q1 := hit r (by omega) (by omega)
    have q9 : σ.2.1 9 r = σ0.2.1 9 r := by rw [hF.2.1 9 (by decide)]
    refine tm_iload_n dX12_alike_4 rfl 0 rfl ?_
    refine tm_aload_n dX12_alike_5 rfl 2 rfl ?_
    refine tm_get (k := 9) (v := .ref (b + 1 + 7)) lay_12 dX12_alike_6 (by decide) fl12_32 rfl ?_
    refine tm_iload_n dX12_alike_9 rfl 3 rfl ?_
    refine tm_iald (z := r) (v := σ0.2.1 9 r) dX12_alike_10 (show mT[7]? = some (9, 0, 13) from rfl) (by omega) (by omega) (by decide) (ra_F hF (by decide) (rfl)) ?_
    have g1 := RG.a hR0 9 (r)
    refine tm_icmp_ge (tgt := 170) dX12_alike_11 (by decide) ⟨by omega, by omega⟩ ⟨by omega, by omega⟩ (fun h2 => ?_) (fun h2 => ?_)
    · exact tm_sub [0, 1, 2, 3] rfl (hx_170 (n1) (k) σ (Fr.rfl.trans (Fr.sub hF (by decide) (by decide) (by decide))) hR (by omega) hok hxo hkc)
    · refine tm_aload_n dX12_alike_14 rfl 2 rfl ?_
      refine tm_iload_n dX12_alike_15 rfl 3 rfl ?_
      refine tm_iload_n dX12_alike_16 rfl 0 rfl ?_
      refine tm_callV (M := m_X12_alike) (pc := 17) (ix := 203) (M' := m_X12_at) (As := [.int (iI r), .int (iI k)]) (rest := []) dX12_alike_17 ok_X12_at im_X12_at se_X12_at ml12_203 np_X12_at rfl rfl (Nat.le_of_ble_eq_true rfl) (Nat.le_of_ble_eq_true rfl) rfl (c_X12_at (d + 4) (σ := σ) (x := r) (k := k) ) (fun r3 σ4 hp => ?_)
      obtain ⟨v5, rfl, rfl, f6⟩ := hp
      subst f6
      show Tm _ _ 20 b σ [(3, .int (iI k)), (2, .int (iI n1)), (0, .ref b), (1, .int (iI r))] [.int (iI (220 * r + k))] _
      refine tm_istore (L' := [(4, .int (iI (220 * r + k))), (3, .int (iI k)), (2, .int (iI n1)), (0, .ref b), (1, .int (iI r))]) dX12_alike_20 (by decide) rfl ?_
      refine tm_aload_n dX12_alike_22 rfl 3 rfl ?_
      refine tm_get (k := 3) (v := .ref (b + 1 + 1)) lay_12 dX12_alike_23 (by decide) fl12_13 rfl ?_
      refine tm_iload dX12_alike_26 0 rfl ?_
      refine tm_iald (z := 220 * r + k) (v := σ.2.1 3 (220 * r + k)) dX12_alike_28 (show mT[1]? = some (3, 0, 2860) from rfl) (by omega) (by omega) (by decide) (rfl) ?_
      have g7 := RG.a hR 3 (220 * r + k)
      refine tm_callS (M := m_X12_alike) (pc := 29) (ix := 196) (M' := m_X12_isFive) (As := [.int (iI (σ.2.1 3 (220 * r + k)))]) (rest := []) dX12_alike_29 ok_X12_isFive stt_X12_isFive ml12_196 np_X12_isFive rfl (Nat.le_of_ble_eq_true rfl) (Nat.le_of_ble_eq_true rfl) rfl (c_X12_isFive (d + 3) (σ := σ) (x := σ.2.1 3 (220 * r + k)) (by omega)) (fun r8 σ9 hp => ?_)
      obtain ⟨v10, rfl, rfl, f11, f12⟩ := hp
      show Tm _ _ 32 b σ [(4, .int (iI (220 * r + k))), (3, .int (iI k)), (2, .int (iI n1)), (0, .ref b), (1, .int (iI r))] [.int (iI v10)] _
      refine tm_if_ne (tgt := 38) dX12_alike_32 (by decide) ⟨by omega, by omega⟩ (fun h13 => ?_) (fun h13 => ?_)
      · refine tm_iload_n dX12_alike_38 rfl 1 rfl ?_
        refine tm_iconst dX12_alike_39 ?_
        refine tm_isub dX12_alike_40 ?_
        refine tm_istore (L' := [(5, .int (iI (k - 1))), (4, .int (iI (220 * r + k))), (3, .int (iI k)), (2, .int (iI n1)), (0, .ref b), (1, .int (iI r))]) dX12_alike_41 (by decide) rfl ?_
        refine tm_sub [0, 1, 2, 3, 4, 5] rfl (l_alike2 (d) (σ := σ) (r := r) (n1 := n1) (k := k) (F := F) hr hR hit1 hpar1 hok (by omega) (fun j19 f17 f18 => ?_) _ (k - 1) (by omega) rfl)
        show Tm _ _ 98 b σ [(5, .int (iI j19)), (4, .int (iI (220 * r + k))), (3, .int (iI k)), (2, .int (iI n1)), (0, .ref b), (1, .int (iI r))] [] _
        refine tm_iload dX12_alike_98 0 rfl ?_
        refine tm_if_lt (tgt := 164) dX12_alike_100 (by decide) ⟨by omega, by omega⟩ (fun h20 => ?_) (fun h20 => ?_)
        · refine tm_iinc (q0 := 2) (L' := [(3, .int (iI (k + 1))), (5, .int (iI j19)), (4, .int (iI (220 * r + k))), (2, .int (iI n1)), (0, .ref b), (1, .int (iI r))]) dX12_alike_164 rfl (by decide) rfl ?_
          refine tm_goto (tgt := 4) dX12_alike_167 (by decide) ?_
          exact tm_sub [0, 3, 4, 5] rfl (ih _ (by omega) (n1) (k + 1) σ (Fr.rfl.trans (Fr.sub hF (by decide) (by decide) (by decide))) hR (by omega) hok hxo hkc rfl)
        · refine tm_aload_n dX12_alike_103 rfl 4 rfl ?_
          refine tm_get (k := 3) (v := .ref (b + 1 + 1)) lay_12 dX12_alike_104 (by decide) fl12_13 rfl ?_
          refine tm_aload_n dX12_alike_107 rfl 4 rfl ?_
          refine tm_iload_n dX12_alike_108 rfl 5 rfl ?_
          refine tm_iload dX12_alike_109 0 rfl ?_
          refine tm_callV (M := m_X12_alike) (pc := 111) (ix := 203) (M' := m_X12_at) (As := [.int (iI r), .int (iI j19)]) (rest := [.ref (b + 1 + 1)]) dX12_alike_111 ok_X12_at im_X12_at se_X12_at ml12_203 np_X12_at rfl rfl (Nat.le_of_ble_eq_true rfl) (Nat.le_of_ble_eq_true rfl) rfl (c_X12_at (d + 4) (σ := σ) (x := r) (k := j19) ) (fun r21 σ22 hp => ?_)
          obtain ⟨v23, rfl, rfl, f24⟩ := hp
          subst f24
          show Tm _ _ 114 b σ [(5, .int (iI j19)), (4, .int (iI (220 * r + k))), (3, .int (iI k)), (2, .int (iI n1)), (0, .ref b), (1, .int (iI r))] [.int (iI (220 * r + j19)), .ref (b + 1 + 1)] _
          refine tm_iald (z := 220 * r + j19) (v := σ.2.1 3 (220 * r + j19)) dX12_alike_114 (show mT[1]? = some (3, 0, 2860) from rfl) (by omega) (by omega) (by decide) (rfl) ?_
          have g25 := RG.a hR 3 (220 * r + j19)
          refine tm_bipush dX12_alike_115 (by decide) ?_
          refine tm_icmp_eq (tgt := 164) dX12_alike_117 (by decide) ⟨by omega, by omega⟩ ⟨by decide, by decide⟩ (fun h26 => ?_) (fun h26 => ?_)
          · refine tm_iinc (q0 := 2) (L' := [(3, .int (iI (k + 1))), (5, .int (iI j19)), (4, .int (iI (220 * r + k))), (2, .int (iI n1)), (0, .ref b), (1, .int (iI r))]) dX12_alike_164 rfl (by decide) rfl ?_
            refine tm_goto (tgt := 4) dX12_alike_167 (by decide) ?_
            exact tm_sub [0, 3, 4, 5] rfl (ih _ (by omega) (n1) (k + 1) σ (Fr.rfl.trans (Fr.sub hF (by decide) (by decide) (by decide))) hR (by omega) hok hxo hkc rfl)
          · have q5 := hok.dest (k := j19) (by omega) (by omega) (by omega)
            have q4 : σ.2.1 4 = σ0.2.1 4 := hF.2.1 4 (by decide)
            rw [q4] at q5
            refine tm_aload_n dX12_alike_120 rfl 4 rfl ?_
            refine tm_get (k := 4) (v := .ref (b + 1 + 2)) lay_12 dX12_alike_121 (by decide) fl12_17 rfl ?_
            refine tm_aload_n dX12_alike_124 rfl 4 rfl ?_
            refine tm_iload_n dX12_alike_125 rfl 5 rfl ?_
            refine tm_iload dX12_alike_126 0 rfl ?_
            refine tm_callV (M := m_X12_alike) (pc := 128) (ix := 203) (M' := m_X12_at) (As := [.int (iI r), .int (iI j19)]) (rest := [.ref (b + 1 + 2)]) dX12_alike_128 ok_X12_at im_X12_at se_X12_at ml12_203 np_X12_at rfl rfl (Nat.le_of_ble_eq_true rfl) (Nat.le_of_ble_eq_true rfl) rfl (c_X12_at (d + 4) (σ := σ) (x := r) (k := j19) ) (fun r27 σ28 hp => ?_)
            obtain ⟨v29, rfl, rfl, f30⟩ := hp
            subst f30
            show Tm _ _ 131 b σ [(5, .int (iI j19)), (4, .int (iI (220 * r + k))), (3, .int (iI k)), (2, .int (iI n1)), (0, .ref b), (1, .int (iI r))] [.int (iI (220 * r + j19)), .ref (b + 1 + 2)] _
            refine tm_iald (z := 220 * r + j19) (v := σ0.2.1 4 (220 * r + j19)) dX12_alike_131 (show mT[2]? = some (4, 0, 2860) from rfl) (by omega) (by omega) (by decide) (ra_F hF (by decide) (rfl)) ?_
            have g31 := RG.a hR0 4 (220 * r + j19)
            refine tm_istore (L' := [(6, .int (iI (σ0.2.1 4 (220 * r + j19)))), (5, .int (iI j19)), (4, .int (iI (220 * r + k))), (3, .int (iI k)), (2, .int (iI n1)), (0, .ref b), (1, .int (iI r))]) dX12_alike_132 (by decide) rfl ?_
            refine tm_aload_n dX12_alike_134 rfl 5 rfl ?_
            refine tm_get (k := 3) (v := .ref (b + 1 + 1)) lay_12 dX12_alike_135 (by decide) fl12_13 rfl ?_
            refine tm_iload dX12_alike_138 2 rfl ?_
            refine tm_iconst dX12_alike_140 ?_
            refine tm_iast (z := 220 * r + k) (v := 0) dX12_alike_141 (show mT[1]? = some (3, 0, 2860) from rfl) (by omega) (by omega) (by decide) ?_
            refine tm_aload_n dX12_alike_142 rfl 5 rfl ?_
            refine tm_iload dX12_alike_143 2 rfl ?_
            refine tm_iconst dX12_alike_145 ?_
            refine tm_iconst dX12_alike_146 ?_
            refine tm_iload dX12_alike_147 0 rfl ?_
            refine tm_callV (M := m_X12_alike) (pc := 149) (ix := 298) (M' := m_X12_setArg) (As := [.int (iI (220 * r + k)), .int (iI 0), .int (iI 2), .int (iI (σ0.2.1 4 (220 * r + j19)))]) (rest := []) dX12_alike_149 ok_X12_setArg im_X12_setArg se_X12_setArg ml12_298 np_X12_setArg rfl rfl (Nat.le_of_ble_eq_true rfl) (Nat.le_of_ble_eq_true rfl) rfl (c_X12_setArg (d + 4) (σ := (sA 3 (220 * r + k) (0) σ)) (x := 220 * r + k) (i := 0) (k := 2) (w := σ0.2.1 4 (220 * r + j19)) (by omega)) (fun r32 σ33 hp => ?_)
            obtain ⟨rfl, f35⟩ := hp
            subst f35
            show Tm _ _ 152 b (fArg (220 * r + k) (0) (2) (σ0.2.1 4 (220 * r + j19)) (sA 3 (220 * r + k) (0) σ)) [(6, .int (iI (σ0.2.1 4 (220 * r + j19)))), (5, .int (iI j19)), (4, .int (iI (220 * r + k))), (3, .int (iI k)), (2, .int (iI n1)), (0, .ref b), (1, .int (iI r))] [] _
            refine tm_aload_n dX12_alike_152 rfl 5 rfl ?_
            refine tm_iload dX12_alike_153 2 rfl ?_
            refine tm_iconst dX12_alike_155 ?_
            refine tm_iconst dX12_alike_156 ?_
            refine tm_iconst dX12_alike_157 ?_
            refine tm_callV (M := m_X12_alike) (pc := 158) (ix := 298) (M' := m_X12_setArg) (As := [.int (iI (220 * r + k)), .int (iI 1), .int (iI 0), .int (iI 0)]) (rest := []) dX12_alike_158 ok_X12_setArg im_X12_setArg se_X12_setArg ml12_298 np_X12_setArg rfl rfl (Nat.le_of_ble_eq_true rfl) (Nat.le_of_ble_eq_true rfl) rfl (c_X12_setArg (d + 4) (σ := (fArg (220 * r + k) (0) (2) (σ0.2.1 4 (220 * r + j19)) (sA 3 (220 * r + k) (0) σ))) (x := 220 * r + k) (i := 1) (k := 0) (w := 0) (by omega)) (fun r36 σ37 hp => ?_)
            obtain ⟨rfl, f39⟩ := hp
            subst f39
            show Tm _ _ 161 b (fArg (220 * r + k) (1) (0) (0) (fArg (220 * r + k) (0) (2) (σ0.2.1 4 (220 * r + j19)) (sA 3 (220 * r + k) (0) σ))) [(6, .int (iI (σ0.2.1 4 (220 * r + j19)))), (5, .int (iI j19)), (4, .int (iI (220 * r + k))), (3, .int (iI k)), (2, .int (iI n1)), (0, .ref b), (1, .int (iI r))] [] _
            refine tm_iinc (q0 := 4) (L' := [(2, .int (iI (n1 + 1))), (6, .int (iI (σ0.2.1 4 (220 * r + j19)))), (5, .int (iI j19)), (4, .int (iI (220 * r + k))), (3, .int (iI k)), (0, .ref b), (1, .int (iI r))]) dX12_alike_161 rfl (by decide) rfl ?_
            refine tm_iinc (q0 := 4) (L' := [(3, .int (iI (k + 1))), (2, .int (iI (n1 + 1))), (6, .int (iI (σ0.2.1 4 (220 * r + j19)))), (5, .int (iI j19)), (4, .int (iI (220 * r + k))), (0, .ref b), (1, .int (iI r))]) dX12_alike_164 rfl (by decide) rfl ?_
            refine tm_goto (tgt := 4) dX12_alike_167 (by decide) ?_
            exact tm_sub [0, 1, 5, 6] rfl (ih _ (by omega) (n1 + 1) (k + 1) (fArg (220 * r + k) (1) (0) (0) (fArg (220 * r + k) (0) (2) (σ0.2.1 4 (220 * r + j19)) (sA 3 (220 * r + k) (0) σ))) ((((Fr.rfl.trans (Fr.sub hF (by decide) (by decide) (by decide))).A (by decide)).trans (Fr.sub fArg_fr (by decide) (by decide) (by decide))).trans (Fr.sub fArg_fr (by decide) (by decide) (by decide))) (((hR.A (by omega)).arg (by omega) (by omega)).arg (by omega) (by omega)) (by omega) (fCpy_off.oks hok (fCpy_oki (hok k (by omega) (by omega)) (by omega) (by omega) (by omega))) (hxo.trans (fCpy_off.xo (by omega) (by omega))) (hkc.cpy (by omega)) rfl)
      · refine tm_goto (tgt := 164) dX12_alike_35 (by decide) ?_
        refine tm_iinc (q0 := 1) (L' := [(3, .int (iI (k + 1))), (4, .int (iI (220 * r + k))), (2, .int (iI n1)), (0, .ref b), (1, .int (iI r))]) dX12_alike_164 rfl (by decide) rfl ?_
        refine tm_goto (tgt := 4) dX12_alike_167 (by decide) ?_
        exact tm_sub [0, 2, 3, 4] rfl (ih _ (by omega) (n1) (k + 1) σ (Fr.rfl.trans (Fr.sub hF (by decide) (by decide) (by decide))) hR (by omega) hok hxo hkc rfl)
theorem dX12_alike_0 : decode cX12_alike 0 = .ok (.iconst 0, 1) := by decide +kernel
theorem dX12_alike_1 : decode cX12_alike 1 = .ok (.istore_n 2, 1) := by decide +kernel
theorem dX12_alike_2 : decode cX12_alike 2 = .ok (.iconst 0, 1) := by decide +kernel
theorem dX12_alike_3 : decode cX12_alike 3 = .ok (.istore_n 3, 1) := by decide +kernel
theorem dX12_alike_170 : decode cX12_alike 170 = .ok (.iload_n 2, 1) := by decide +kernel
theorem dX12_alike_171 : decode cX12_alike 171 = .ok (.ireturn, 1) := by decide +kernel
set_option maxHeartbeats 4000000 in
set_option maxRecDepth 20000 in
theorem c_X12_alike (d : Nat) {b : Nat} {σ : MS} {r : Int} {F : Int} (hr : 0 ≤ r ∧ r < 6) (hR : RG σ) (hit : ITM σ) (hpar : PAR σ) (hok : OKS σ F r) : Tm (d + 6) m_X12_alike 0 b σ [(0, .ref b), (1, .int (iI r))] [] (fun ro σ2 => ∃ v : Int, ro = some (.int (iI v)) ∧ (Fr [] [3, 7, 8] [] σ σ2) ∧ (RG σ2) ∧ (OKS σ2 F r) ∧ (XO r σ σ2) ∧ (KC σ σ2)) := by
  have q1 := hit r (by omega) (by omega)
  refine tm_iconst dX12_alike_0 ?_
  refine tm_istore_n (L' := [(2, .int (iI 0)), (0, .ref b), (1, .int (iI r))]) dX12_alike_1 rfl (by decide) rfl ?_
  refine tm_iconst dX12_alike_2 ?_
  refine tm_istore_n (L' := [(3, .int (iI 0)), (2, .int (iI 0)), (0, .ref b), (1, .int (iI r))]) dX12_alike_3 rfl (by decide) rfl ?_
  refine tm_sub [0, 1, 2, 3] rfl (l_alike1 (d) (σ0 := σ) (r := r) (F := F) hr hR hit hpar (fun n110 k11 σ12 F4 R5 f6 f7 f8 f9 => ?_) _ (0) (0) σ Fr.rfl hR (by omega) hok XO.rfl KC.rfl rfl)
  show Tm _ _ 170 b σ12 [(3, .int (iI k11)), (2, .int (iI n110)), (0, .ref b), (1, .int (iI r))] [] _
  refine tm_iload_n dX12_alike_170 rfl 1 rfl ?_
  exact tm_iret rfl dX12_alike_171 (⟨_, rfl, (Fr.rfl.trans (Fr.sub F4 (by decide) (by decide) (by decide))), R5, f7, f8, f9⟩)
end
section
def RTN (σ : MS) : Prop := (0 ≤ σ.1 10 ∧ σ.1 10 ≤ 6) ∧ ∀ r, 0 ≤ r → r < σ.1 10 → (1 ≤ σ.2.1 9 r ∧ σ.2.1 9 r ≤ 200) ∧ OKF σ r ∧ OKS σ (σ.2.1 14 r) r ∧ FR0 σ r ∧ LEX σ r

theorem ml12_404 : Cond.methodLink RX12 404 yX12_isRoutine ∈ pWW := pw9 (List.mem_of_getElem? (i := 37) rfl) rfl
theorem ml12_407 : Cond.methodLink RX12 407 yX12_acts ∈ pWW := pw9 (List.mem_of_getElem? (i := 41) rfl) rfl
theorem fl12_41 : Cond.fieldLink RX12 41 (TX12 13).1 (TX12 13).2.1 (TX12 13).2.2.1 ∈ pWW := pw7 (List.mem_of_getElem? (i := 20) rfl) rfl
theorem dX12_routine_0 : decode cX12_routine 0 = .ok (.aload_n 0, 1) := by decide +kernel
theorem dX12_routine_1 : decode cX12_routine 1 = .ok (.iconst 0, 1) := by decide +kernel
theorem dX12_routine_2 : decode cX12_routine 2 = .ok (.putfield 185, 3) := by decide +kernel
theorem dX12_routine_5 : decode cX12_routine 5 = .ok (.aload_n 0, 1) := by decide +kernel
theorem dX12_routine_6 : decode cX12_routine 6 = .ok (.iload_n 1, 1) := by decide +kernel
theorem dX12_routine_7 : decode cX12_routine 7 = .ok (.invokevirtual 404, 3) := by decide +kernel
theorem dX12_routine_10 : decode cX12_routine 10 = .ok (.ifCond .ne 5, 3) := by decide +kernel
theorem dX12_routine_15 : decode cX12_routine 15 = .ok (.iload_n 2, 1) := by decide +kernel
theorem dX12_routine_16 : decode cX12_routine 16 = .ok (.tableswitch 91 0 6 #[44, 51, 57, 64, 71, 77, 84], 44) := by decide +kernel
theorem dX12_routine_107 : decode cX12_routine 107 = .ok (.iload_n 2, 1) := by decide +kernel
theorem dX12_routine_108 : decode cX12_routine 108 = .ok (.bipush 7, 2) := by decide +kernel
theorem dX12_routine_110 : decode cX12_routine 110 = .ok (.bipush 6, 2) := by decide +kernel
theorem dX12_routine_112 : decode cX12_routine 112 = .ok (.aload_n 0, 1) := by decide +kernel
theorem dX12_routine_113 : decode cX12_routine 113 = .ok (.getfield 38, 3) := by decide +kernel
theorem dX12_routine_116 : decode cX12_routine 116 = .ok (.iload_n 1, 1) := by decide +kernel
theorem dX12_routine_117 : decode cX12_routine 117 = .ok (.iaload, 1) := by decide +kernel
theorem dX12_routine_118 : decode cX12_routine 118 = .ok (.iadd, 1) := by decide +kernel
theorem dX12_routine_119 : decode cX12_routine 119 = .ok (.invokestatic 188, 3) := by decide +kernel
theorem dX12_routine_122 : decode cX12_routine 122 = .ok (.ifCond .eq 21, 3) := by decide +kernel
theorem dX12_routine_143 : decode cX12_routine 143 = .ok (.iconst (-1), 1) := by decide +kernel
theorem dX12_routine_144 : decode cX12_routine 144 = .ok (.ireturn, 1) := by decide +kernel
theorem dX12_routine_125 : decode cX12_routine 125 = .ok (.aload_n 0, 1) := by decide +kernel
theorem dX12_routine_126 : decode cX12_routine 126 = .ok (.getfield 56, 3) := by decide +kernel
theorem dX12_routine_129 : decode cX12_routine 129 = .ok (.sipush 144, 3) := by decide +kernel
theorem dX12_routine_132 : decode cX12_routine 132 = .ok (.iload_n 1, 1) := by decide +kernel
theorem dX12_routine_133 : decode cX12_routine 133 = .ok (.imul, 1) := by decide +kernel
theorem dX12_routine_134 : decode cX12_routine 134 = .ok (.iload_n 2, 1) := by decide +kernel
theorem dX12_routine_135 : decode cX12_routine 135 = .ok (.iadd, 1) := by decide +kernel
theorem dX12_routine_136 : decode cX12_routine 136 = .ok (.bipush 7, 2) := by decide +kernel
theorem dX12_routine_138 : decode cX12_routine 138 = .ok (.isub, 1) := by decide +kernel
theorem dX12_routine_139 : decode cX12_routine 139 = .ok (.iaload, 1) := by decide +kernel
theorem dX12_routine_140 : decode cX12_routine 140 = .ok (.goto 4, 3) := by decide +kernel
theorem dX12_routine_60 : decode cX12_routine 60 = .ok (.aload_n 0, 1) := by decide +kernel
theorem dX12_routine_61 : decode cX12_routine 61 = .ok (.getfield 32, 3) := by decide +kernel
theorem dX12_routine_64 : decode cX12_routine 64 = .ok (.iload_n 1, 1) := by decide +kernel
theorem dX12_routine_65 : decode cX12_routine 65 = .ok (.iaload, 1) := by decide +kernel
theorem dX12_routine_66 : decode cX12_routine 66 = .ok (.ireturn, 1) := by decide +kernel
theorem dX12_routine_67 : decode cX12_routine 67 = .ok (.aload_n 0, 1) := by decide +kernel
theorem dX12_routine_68 : decode cX12_routine 68 = .ok (.iload_n 1, 1) := by decide +kernel
theorem dX12_routine_69 : decode cX12_routine 69 = .ok (.invokevirtual 407, 3) := by decide +kernel
theorem dX12_routine_72 : decode cX12_routine 72 = .ok (.ireturn, 1) := by decide +kernel
theorem dX12_routine_73 : decode cX12_routine 73 = .ok (.aload_n 0, 1) := by decide +kernel
theorem dX12_routine_74 : decode cX12_routine 74 = .ok (.getfield 38, 3) := by decide +kernel
theorem dX12_routine_77 : decode cX12_routine 77 = .ok (.iload_n 1, 1) := by decide +kernel
theorem dX12_routine_78 : decode cX12_routine 78 = .ok (.iaload, 1) := by decide +kernel
theorem dX12_routine_79 : decode cX12_routine 79 = .ok (.ireturn, 1) := by decide +kernel
theorem dX12_routine_80 : decode cX12_routine 80 = .ok (.aload_n 0, 1) := by decide +kernel
theorem dX12_routine_81 : decode cX12_routine 81 = .ok (.getfield 35, 3) := by decide +kernel
theorem dX12_routine_84 : decode cX12_routine 84 = .ok (.iload_n 1, 1) := by decide +kernel
theorem dX12_routine_85 : decode cX12_routine 85 = .ok (.iaload, 1) := by decide +kernel
theorem dX12_routine_86 : decode cX12_routine 86 = .ok (.ireturn, 1) := by decide +kernel
theorem dX12_routine_87 : decode cX12_routine 87 = .ok (.aload_n 0, 1) := by decide +kernel
theorem dX12_routine_88 : decode cX12_routine 88 = .ok (.iload_n 1, 1) := by decide +kernel
theorem dX12_routine_89 : decode cX12_routine 89 = .ok (.invokevirtual 410, 3) := by decide +kernel
theorem dX12_routine_92 : decode cX12_routine 92 = .ok (.ireturn, 1) := by decide +kernel
theorem dX12_routine_93 : decode cX12_routine 93 = .ok (.aload_n 0, 1) := by decide +kernel
theorem dX12_routine_94 : decode cX12_routine 94 = .ok (.getfield 44, 3) := by decide +kernel
theorem dX12_routine_97 : decode cX12_routine 97 = .ok (.iload_n 1, 1) := by decide +kernel
theorem dX12_routine_98 : decode cX12_routine 98 = .ok (.iaload, 1) := by decide +kernel
theorem dX12_routine_99 : decode cX12_routine 99 = .ok (.ireturn, 1) := by decide +kernel
theorem dX12_routine_100 : decode cX12_routine 100 = .ok (.aload_n 0, 1) := by decide +kernel
theorem dX12_routine_101 : decode cX12_routine 101 = .ok (.getfield 41, 3) := by decide +kernel
theorem dX12_routine_104 : decode cX12_routine 104 = .ok (.iload_n 1, 1) := by decide +kernel
theorem dX12_routine_105 : decode cX12_routine 105 = .ok (.iaload, 1) := by decide +kernel
theorem dX12_routine_106 : decode cX12_routine 106 = .ok (.ireturn, 1) := by decide +kernel
theorem dX12_routine_13 : decode cX12_routine 13 = .ok (.iconst (-1), 1) := by decide +kernel
theorem dX12_routine_14 : decode cX12_routine 14 = .ok (.ireturn, 1) := by decide +kernel
set_option maxHeartbeats 4000000 in
set_option maxRecDepth 20000 in
theorem c_X12_routine (d : Nat) {b : Nat} {σ : MS} {x : Int} {w : Int} (hR : RG σ) (hit : ITM σ) (hpar : PAR σ) (hnam : NAM σ) (hrt : RTN σ) (h_x : -2147483648 ≤ x ∧ x ≤ 2147483647) (h_w : -2147483648 ≤ w ∧ w ≤ 2147483647) : Tm (d + 5) m_X12_routine 0 b σ [(0, .ref b), (1, .int (iI x)), (2, .int (iI w))] [] (fun ro σ2 => ∃ v : Int, ro = some (.int (iI v)) ∧ (Fr [0] [] [] σ σ2) ∧ (RG σ2)) := by
  refine tm_aload_n dX12_routine_0 rfl 0 rfl ?_
  refine tm_iconst dX12_routine_1 ?_
  refine tm_putS (k := 0) (v := 0) lay_12 dX12_routine_2 (by decide) fl12_185 rfl (tyX12_ok 0 (by decide)) rfl rfl rfl ?_
  refine tm_aload_n dX12_routine_5 rfl 0 rfl ?_
  refine tm_iload_n dX12_routine_6 rfl 1 rfl ?_
  refine tm_callV (M := m_X12_routine) (pc := 7) (ix := 404) (M' := m_X12_isRoutine) (As := [.int (iI x)]) (rest := []) dX12_routine_7 ok_X12_isRoutine im_X12_isRoutine se_X12_isRoutine ml12_404 np_X12_isRoutine rfl rfl (Nat.le_of_ble_eq_true rfl) (Nat.le_of_ble_eq_true rfl) rfl (c_X12_isRoutine (d + 2) (σ := (sS 0 0 σ)) (x := x) (hR.S (by omega)) hrt.1 (by omega)) (fun r1 σ2 hp => ?_)
  obtain ⟨v3, rfl, rfl, f4, f5⟩ := hp
  show Tm _ _ 10 b (sS 0 0 σ) [(0, .ref b), (1, .int (iI x)), (2, .int (iI w))] [.int (iI v3)] _
  have e10 : (sS 0 0 σ).1 10 = σ.1 10 := rfl
  have hrt1 := hrt.1
  refine tm_if_ne (tgt := 15) dX12_routine_10 (by decide) ⟨by omega, by omega⟩ (fun h6 => ?_) (fun h6 => ?_)
  · have hri := hrt.2 x (by omega) (by omega)
    have hof := hri.2.1
    have hok := hri.2.2.1
    have q1 := hof.1
    have q2 := hnam x (by omega) (by omega)
    have q3 := hpar x (by omega) (by omega)
    refine tm_iload_n dX12_routine_15 rfl 2 rfl ?_
    by_cases h7 : w < 0 ∨ 6 < w
    · refine tm_tableOut (tgt := 107) dX12_routine_16 ⟨by omega, by omega⟩ h7 (by decide) ?_
      refine tm_iload_n dX12_routine_107 rfl 2 rfl ?_
      refine tm_bipush dX12_routine_108 (by decide) ?_
      refine tm_bipush dX12_routine_110 (by decide) ?_
      refine tm_aload_n dX12_routine_112 rfl 0 rfl ?_
      refine tm_get (k := 12) (v := .ref (b + 1 + 9)) lay_12 dX12_routine_113 (by decide) fl12_38 rfl ?_
      refine tm_iload_n dX12_routine_116 rfl 1 rfl ?_
      refine tm_iald (z := x) (v := σ.2.1 12 x) dX12_routine_117 (show mT[9]? = some (12, 0, 6) from rfl) (by omega) (by omega) (by decide) (ra_S (rfl)) ?_
      have g8 := RG.a hR 12 (x)
      refine tm_iadd dX12_routine_118 ?_
      refine tm_callS (M := m_X12_routine) (pc := 119) (ix := 188) (M' := m_X12_in) (As := [.int (iI w), .int (iI 7), .int (iI (6 + (σ.2.1 12 x)))]) (rest := []) dX12_routine_119 ok_X12_in stt_X12_in ml12_188 np_X12_in rfl (Nat.le_of_ble_eq_true rfl) (Nat.le_of_ble_eq_true rfl) rfl (c_X12_in (d + 3) (σ := (sS 0 0 σ)) (x := w) (lo := 7) (hi := 6 + (σ.2.1 12 x)) (by omega) (by omega) (by omega)) (fun r9 σ10 hp => ?_)
      obtain ⟨v11, rfl, rfl, f12, f13⟩ := hp
      show Tm _ _ 122 b (sS 0 0 σ) [(0, .ref b), (1, .int (iI x)), (2, .int (iI w))] [.int (iI v11)] _
      refine tm_if_eq (tgt := 143) dX12_routine_122 (by decide) ⟨by omega, by omega⟩ (fun h14 => ?_) (fun h14 => ?_)
      · refine tm_iconst dX12_routine_143 ?_
        exact tm_iret rfl dX12_routine_144 (⟨_, rfl, (Fr.rfl.S (by decide)), (hR.S (by omega))⟩)
      · refine tm_aload_n dX12_routine_125 rfl 0 rfl ?_
        refine tm_get (k := 18) (v := .ref (b + 1 + 15)) lay_12 dX12_routine_126 (by decide) fl12_56 rfl ?_
        refine tm_sipush dX12_routine_129 (by decide) ?_
        refine tm_iload_n dX12_routine_132 rfl 1 rfl ?_
        refine tm_imul dX12_routine_133 ?_
        refine tm_iload_n dX12_routine_134 rfl 2 rfl ?_
        refine tm_iadd dX12_routine_135 ?_
        refine tm_bipush dX12_routine_136 (by decide) ?_
        refine tm_isub dX12_routine_138 ?_
        refine tm_iald (z := ((144 * x) + w) - 7) (v := σ.2.1 18 (((144 * x) + w) - 7)) dX12_routine_139 (show mT[15]? = some (18, 0, 864) from rfl) (by omega) (by omega) (by decide) (ra_S (rfl)) ?_
        have g15 := RG.a hR 18 (((144 * x) + w) - 7)
        refine tm_goto (tgt := 144) dX12_routine_140 (by decide) ?_
        exact tm_iret rfl dX12_routine_144 (⟨_, rfl, (Fr.rfl.S (by decide)), (hR.S (by omega))⟩)
    · have h7c : w = 0 ∨ w = 1 ∨ w = 2 ∨ w = 3 ∨ w = 4 ∨ w = 5 ∨ w = 6 := by omega
      rcases h7c with h7v | h7v | h7v | h7v | h7v | h7v | h7v
      · refine tm_tableIn (tgt := 60) dX12_routine_16 ⟨by omega, by omega⟩ (by omega) (by omega) (show _ = some (44) by rw [h7v]; rfl) (by decide) ?_
        refine tm_aload_n dX12_routine_60 rfl 0 rfl ?_
        refine tm_get (k := 9) (v := .ref (b + 1 + 7)) lay_12 dX12_routine_61 (by decide) fl12_32 rfl ?_
        refine tm_iload_n dX12_routine_64 rfl 1 rfl ?_
        refine tm_iald (z := x) (v := σ.2.1 9 x) dX12_routine_65 (show mT[7]? = some (9, 0, 13) from rfl) (by omega) (by omega) (by decide) (ra_S (rfl)) ?_
        have g16 := RG.a hR 9 (x)
        exact tm_iret rfl dX12_routine_66 (⟨_, rfl, (Fr.rfl.S (by decide)), (hR.S (by omega))⟩)
      · refine tm_tableIn (tgt := 67) dX12_routine_16 ⟨by omega, by omega⟩ (by omega) (by omega) (show _ = some (51) by rw [h7v]; rfl) (by decide) ?_
        refine tm_aload_n dX12_routine_67 rfl 0 rfl ?_
        refine tm_iload_n dX12_routine_68 rfl 1 rfl ?_
        refine tm_callV (M := m_X12_routine) (pc := 69) (ix := 407) (M' := m_X12_acts) (As := [.int (iI x)]) (rest := []) dX12_routine_69 ok_X12_acts im_X12_acts se_X12_acts ml12_407 np_X12_acts rfl rfl (Nat.le_of_ble_eq_true rfl) (Nat.le_of_ble_eq_true rfl) rfl (c_X12_acts (d + 1) (σ := (sS 0 0 σ)) (r := x) (by omega) (hR.S (by omega)) (hit.fr (show Fr [0] [] [] σ (sS 0 0 σ) from (Fr.rfl.S (by decide))) (by decide))) (fun r17 σ18 hp => ?_)
        obtain ⟨v19, rfl, rfl, f20⟩ := hp
        show Tm _ _ 72 b (sS 0 0 σ) [(0, .ref b), (1, .int (iI x)), (2, .int (iI w))] [.int (iI v19)] _
        exact tm_iret rfl dX12_routine_72 (⟨_, rfl, (Fr.rfl.S (by decide)), (hR.S (by omega))⟩)
      · refine tm_tableIn (tgt := 73) dX12_routine_16 ⟨by omega, by omega⟩ (by omega) (by omega) (show _ = some (57) by rw [h7v]; rfl) (by decide) ?_
        refine tm_aload_n dX12_routine_73 rfl 0 rfl ?_
        refine tm_get (k := 12) (v := .ref (b + 1 + 9)) lay_12 dX12_routine_74 (by decide) fl12_38 rfl ?_
        refine tm_iload_n dX12_routine_77 rfl 1 rfl ?_
        refine tm_iald (z := x) (v := σ.2.1 12 x) dX12_routine_78 (show mT[9]? = some (12, 0, 6) from rfl) (by omega) (by omega) (by decide) (ra_S (rfl)) ?_
        have g21 := RG.a hR 12 (x)
        exact tm_iret rfl dX12_routine_79 (⟨_, rfl, (Fr.rfl.S (by decide)), (hR.S (by omega))⟩)
      · refine tm_tableIn (tgt := 80) dX12_routine_16 ⟨by omega, by omega⟩ (by omega) (by omega) (show _ = some (64) by rw [h7v]; rfl) (by decide) ?_
        refine tm_aload_n dX12_routine_80 rfl 0 rfl ?_
        refine tm_get (k := 11) (v := .ref (b + 1 + 8)) lay_12 dX12_routine_81 (by decide) fl12_35 rfl ?_
        refine tm_iload_n dX12_routine_84 rfl 1 rfl ?_
        refine tm_iald (z := x) (v := σ.2.1 11 x) dX12_routine_85 (show mT[8]? = some (11, 0, 6) from rfl) (by omega) (by omega) (by decide) (ra_S (rfl)) ?_
        have g22 := RG.a hR 11 (x)
        exact tm_iret rfl dX12_routine_86 (⟨_, rfl, (Fr.rfl.S (by decide)), (hR.S (by omega))⟩)
      · refine tm_tableIn (tgt := 87) dX12_routine_16 ⟨by omega, by omega⟩ (by omega) (by omega) (show _ = some (71) by rw [h7v]; rfl) (by decide) ?_
        refine tm_aload_n dX12_routine_87 rfl 0 rfl ?_
        refine tm_iload_n dX12_routine_88 rfl 1 rfl ?_
        refine tm_callV (M := m_X12_routine) (pc := 89) (ix := 410) (M' := m_X12_registers) (As := [.int (iI x)]) (rest := []) dX12_routine_89 ok_X12_registers im_X12_registers se_X12_registers ml12_410 np_X12_registers rfl rfl (Nat.le_of_ble_eq_true rfl) (Nat.le_of_ble_eq_true rfl) rfl (c_X12_registers (d) (σ := (sS 0 0 σ)) (r := x) (F := σ.2.1 14 x) (by omega) (hR.S (by omega)) (hof.fr (show Fr [0] [] [] σ (sS 0 0 σ) from (Fr.rfl.S (by decide))) (by decide)) (hnam.fr (show Fr [0] [] [] σ (sS 0 0 σ) from (Fr.rfl.S (by decide))) (by decide)) (hit.fr (show Fr [0] [] [] σ (sS 0 0 σ) from (Fr.rfl.S (by decide))) (by decide)) (hpar.fr (show Fr [0] [] [] σ (sS 0 0 σ) from (Fr.rfl.S (by decide))) (by decide)) (hok.fr (show Fr [0] [] [] σ (sS 0 0 σ) from (Fr.rfl.S (by decide))) (by decide))) (fun r23 σ24 hp => ?_)
        obtain ⟨v25, rfl, rfl, f26, f27, f28⟩ := hp
        show Tm _ _ 92 b (sS 0 0 σ) [(0, .ref b), (1, .int (iI x)), (2, .int (iI w))] [.int (iI v25)] _
        exact tm_iret rfl dX12_routine_92 (⟨_, rfl, (Fr.rfl.S (by decide)), (hR.S (by omega))⟩)
      · refine tm_tableIn (tgt := 93) dX12_routine_16 ⟨by omega, by omega⟩ (by omega) (by omega) (show _ = some (77) by rw [h7v]; rfl) (by decide) ?_
        refine tm_aload_n dX12_routine_93 rfl 0 rfl ?_
        refine tm_get (k := 14) (v := .ref (b + 1 + 11)) lay_12 dX12_routine_94 (by decide) fl12_44 rfl ?_
        refine tm_iload_n dX12_routine_97 rfl 1 rfl ?_
        refine tm_iald (z := x) (v := σ.2.1 14 x) dX12_routine_98 (show mT[11]? = some (14, 0, 6) from rfl) (by omega) (by omega) (by decide) (ra_S (rfl)) ?_
        have g29 := RG.a hR 14 (x)
        exact tm_iret rfl dX12_routine_99 (⟨_, rfl, (Fr.rfl.S (by decide)), (hR.S (by omega))⟩)
      · refine tm_tableIn (tgt := 100) dX12_routine_16 ⟨by omega, by omega⟩ (by omega) (by omega) (show _ = some (84) by rw [h7v]; rfl) (by decide) ?_
        refine tm_aload_n dX12_routine_100 rfl 0 rfl ?_
        refine tm_get (k := 13) (v := .ref (b + 1 + 10)) lay_12 dX12_routine_101 (by decide) fl12_41 rfl ?_
        refine tm_iload_n dX12_routine_104 rfl 1 rfl ?_
        refine tm_iald (z := x) (v := σ.2.1 13 x) dX12_routine_105 (show mT[10]? = some (13, 0, 6) from rfl) (by omega) (by omega) (by decide) (ra_S (rfl)) ?_
        have g30 := RG.a hR 13 (x)
        exact tm_iret rfl dX12_routine_106 (⟨_, rfl, (Fr.rfl.S (by decide)), (hR.S (by omega))⟩)
  · refine tm_iconst dX12_routine_13 ?_
    exact tm_iret rfl dX12_routine_14 (⟨_, rfl, (Fr.rfl.S (by decide)), (hR.S (by omega))⟩)
theorem dX12_item_0 : decode cX12_item 0 = .ok (.aload_n 0, 1) := by decide +kernel
theorem dX12_item_1 : decode cX12_item 1 = .ok (.iconst 0, 1) := by decide +kernel
theorem dX12_item_2 : decode cX12_item 2 = .ok (.putfield 185, 3) := by decide +kernel
theorem dX12_item_5 : decode cX12_item 5 = .ok (.aload_n 0, 1) := by decide +kernel
theorem dX12_item_6 : decode cX12_item 6 = .ok (.iload_n 1, 1) := by decide +kernel
theorem dX12_item_7 : decode cX12_item 7 = .ok (.invokevirtual 404, 3) := by decide +kernel
theorem dX12_item_10 : decode cX12_item 10 = .ok (.ifCond .eq 29, 3) := by decide +kernel
theorem dX12_item_39 : decode cX12_item 39 = .ok (.iconst (-1), 1) := by decide +kernel
theorem dX12_item_40 : decode cX12_item 40 = .ok (.ireturn, 1) := by decide +kernel
theorem dX12_item_13 : decode cX12_item 13 = .ok (.iload_n 2, 1) := by decide +kernel
theorem dX12_item_14 : decode cX12_item 14 = .ok (.iconst 0, 1) := by decide +kernel
theorem dX12_item_15 : decode cX12_item 15 = .ok (.aload_n 0, 1) := by decide +kernel
theorem dX12_item_16 : decode cX12_item 16 = .ok (.getfield 32, 3) := by decide +kernel
theorem dX12_item_19 : decode cX12_item 19 = .ok (.iload_n 1, 1) := by decide +kernel
theorem dX12_item_20 : decode cX12_item 20 = .ok (.iaload, 1) := by decide +kernel
theorem dX12_item_21 : decode cX12_item 21 = .ok (.iconst 1, 1) := by decide +kernel
theorem dX12_item_22 : decode cX12_item 22 = .ok (.isub, 1) := by decide +kernel
theorem dX12_item_23 : decode cX12_item 23 = .ok (.invokestatic 188, 3) := by decide +kernel
theorem dX12_item_26 : decode cX12_item 26 = .ok (.ifCond .eq 13, 3) := by decide +kernel
theorem dX12_item_29 : decode cX12_item 29 = .ok (.iload_n 3, 1) := by decide +kernel
theorem dX12_item_30 : decode cX12_item 30 = .ok (.iconst 0, 1) := by decide +kernel
theorem dX12_item_31 : decode cX12_item 31 = .ok (.bipush 7, 2) := by decide +kernel
theorem dX12_item_33 : decode cX12_item 33 = .ok (.invokestatic 188, 3) := by decide +kernel
theorem dX12_item_36 : decode cX12_item 36 = .ok (.ifCond .ne 5, 3) := by decide +kernel
theorem dX12_item_41 : decode cX12_item 41 = .ok (.aload_n 0, 1) := by decide +kernel
theorem dX12_item_42 : decode cX12_item 42 = .ok (.iload_n 1, 1) := by decide +kernel
theorem dX12_item_43 : decode cX12_item 43 = .ok (.iload_n 2, 1) := by decide +kernel
theorem dX12_item_44 : decode cX12_item 44 = .ok (.invokevirtual 203, 3) := by decide +kernel
theorem dX12_item_47 : decode cX12_item 47 = .ok (.istore 4, 2) := by decide +kernel
theorem dX12_item_49 : decode cX12_item 49 = .ok (.aload_n 0, 1) := by decide +kernel
theorem dX12_item_50 : decode cX12_item 50 = .ok (.iload 4, 2) := by decide +kernel
theorem dX12_item_52 : decode cX12_item 52 = .ok (.invokevirtual 199, 3) := by decide +kernel
theorem dX12_item_55 : decode cX12_item 55 = .ok (.istore 5, 2) := by decide +kernel
theorem dX12_item_57 : decode cX12_item 57 = .ok (.iload_n 3, 1) := by decide +kernel
theorem dX12_item_58 : decode cX12_item 58 = .ok (.tableswitch 204 0 6 #[42, 50, 86, 122, 141, 163, 182], 42) := by decide +kernel
theorem dX12_item_262 : decode cX12_item 262 = .ok (.aload_n 0, 1) := by decide +kernel
theorem dX12_item_263 : decode cX12_item 263 = .ok (.getfield 13, 3) := by decide +kernel
theorem dX12_item_266 : decode cX12_item 266 = .ok (.iload 4, 2) := by decide +kernel
theorem dX12_item_268 : decode cX12_item 268 = .ok (.iaload, 1) := by decide +kernel
theorem dX12_item_269 : decode cX12_item 269 = .ok (.bipush 12, 2) := by decide +kernel
theorem dX12_item_271 : decode cX12_item 271 = .ok (.if_icmp .ne 13, 3) := by decide +kernel
theorem dX12_item_284 : decode cX12_item 284 = .ok (.iconst 0, 1) := by decide +kernel
theorem dX12_item_285 : decode cX12_item 285 = .ok (.ireturn, 1) := by decide +kernel
theorem dX12_item_274 : decode cX12_item 274 = .ok (.aload_n 0, 1) := by decide +kernel
theorem dX12_item_275 : decode cX12_item 275 = .ok (.getfield 23, 3) := by decide +kernel
theorem dX12_item_278 : decode cX12_item 278 = .ok (.iload 4, 2) := by decide +kernel
theorem dX12_item_280 : decode cX12_item 280 = .ok (.iaload, 1) := by decide +kernel
theorem dX12_item_281 : decode cX12_item 281 = .ok (.goto 4, 3) := by decide +kernel
theorem dX12_item_100 : decode cX12_item 100 = .ok (.aload_n 0, 1) := by decide +kernel
theorem dX12_item_101 : decode cX12_item 101 = .ok (.getfield 13, 3) := by decide +kernel
theorem dX12_item_104 : decode cX12_item 104 = .ok (.iload 4, 2) := by decide +kernel
theorem dX12_item_106 : decode cX12_item 106 = .ok (.iaload, 1) := by decide +kernel
theorem dX12_item_107 : decode cX12_item 107 = .ok (.ireturn, 1) := by decide +kernel
theorem dX12_item_108 : decode cX12_item 108 = .ok (.aload_n 0, 1) := by decide +kernel
theorem dX12_item_109 : decode cX12_item 109 = .ok (.getfield 13, 3) := by decide +kernel
theorem dX12_item_112 : decode cX12_item 112 = .ok (.iload 4, 2) := by decide +kernel
theorem dX12_item_114 : decode cX12_item 114 = .ok (.iaload, 1) := by decide +kernel
theorem dX12_item_115 : decode cX12_item 115 = .ok (.bipush 6, 2) := by decide +kernel
theorem dX12_item_117 : decode cX12_item 117 = .ok (.if_icmp .eq 15, 3) := by decide +kernel
theorem dX12_item_132 : decode cX12_item 132 = .ok (.iconst 0, 1) := by decide +kernel
theorem dX12_item_133 : decode cX12_item 133 = .ok (.goto 10, 3) := by decide +kernel
theorem dX12_item_143 : decode cX12_item 143 = .ok (.ireturn, 1) := by decide +kernel
theorem dX12_item_120 : decode cX12_item 120 = .ok (.aload_n 0, 1) := by decide +kernel
theorem dX12_item_121 : decode cX12_item 121 = .ok (.getfield 13, 3) := by decide +kernel
theorem dX12_item_124 : decode cX12_item 124 = .ok (.iload 4, 2) := by decide +kernel
theorem dX12_item_126 : decode cX12_item 126 = .ok (.iaload, 1) := by decide +kernel
theorem dX12_item_127 : decode cX12_item 127 = .ok (.bipush 7, 2) := by decide +kernel
theorem dX12_item_129 : decode cX12_item 129 = .ok (.if_icmp .ne 7, 3) := by decide +kernel
theorem dX12_item_136 : decode cX12_item 136 = .ok (.aload_n 0, 1) := by decide +kernel
theorem dX12_item_137 : decode cX12_item 137 = .ok (.getfield 17, 3) := by decide +kernel
theorem dX12_item_140 : decode cX12_item 140 = .ok (.iload 4, 2) := by decide +kernel
theorem dX12_item_142 : decode cX12_item 142 = .ok (.iaload, 1) := by decide +kernel
theorem dX12_item_144 : decode cX12_item 144 = .ok (.aload_n 0, 1) := by decide +kernel
theorem dX12_item_145 : decode cX12_item 145 = .ok (.getfield 13, 3) := by decide +kernel
theorem dX12_item_148 : decode cX12_item 148 = .ok (.iload 4, 2) := by decide +kernel
theorem dX12_item_150 : decode cX12_item 150 = .ok (.iaload, 1) := by decide +kernel
theorem dX12_item_151 : decode cX12_item 151 = .ok (.bipush 10, 2) := by decide +kernel
theorem dX12_item_153 : decode cX12_item 153 = .ok (.if_icmp .lt 25, 3) := by decide +kernel
theorem dX12_item_178 : decode cX12_item 178 = .ok (.iconst 0, 1) := by decide +kernel
theorem dX12_item_179 : decode cX12_item 179 = .ok (.ireturn, 1) := by decide +kernel
theorem dX12_item_156 : decode cX12_item 156 = .ok (.aload_n 0, 1) := by decide +kernel
theorem dX12_item_157 : decode cX12_item 157 = .ok (.getfield 13, 3) := by decide +kernel
theorem dX12_item_160 : decode cX12_item 160 = .ok (.iload 4, 2) := by decide +kernel
theorem dX12_item_162 : decode cX12_item 162 = .ok (.iaload, 1) := by decide +kernel
theorem dX12_item_163 : decode cX12_item 163 = .ok (.bipush 12, 2) := by decide +kernel
theorem dX12_item_165 : decode cX12_item 165 = .ok (.if_icmp .gt 13, 3) := by decide +kernel
theorem dX12_item_168 : decode cX12_item 168 = .ok (.aload_n 0, 1) := by decide +kernel
theorem dX12_item_169 : decode cX12_item 169 = .ok (.getfield 20, 3) := by decide +kernel
theorem dX12_item_172 : decode cX12_item 172 = .ok (.iload 4, 2) := by decide +kernel
theorem dX12_item_174 : decode cX12_item 174 = .ok (.iaload, 1) := by decide +kernel
theorem dX12_item_175 : decode cX12_item 175 = .ok (.goto 4, 3) := by decide +kernel
theorem dX12_item_180 : decode cX12_item 180 = .ok (.iload 5, 2) := by decide +kernel
theorem dX12_item_182 : decode cX12_item 182 = .ok (.ifCond .le 15, 3) := by decide +kernel
theorem dX12_item_197 : decode cX12_item 197 = .ok (.iconst 0, 1) := by decide +kernel
theorem dX12_item_198 : decode cX12_item 198 = .ok (.ireturn, 1) := by decide +kernel
theorem dX12_item_185 : decode cX12_item 185 = .ok (.aload_n 0, 1) := by decide +kernel
theorem dX12_item_186 : decode cX12_item 186 = .ok (.getfield 26, 3) := by decide +kernel
theorem dX12_item_189 : decode cX12_item 189 = .ok (.iconst 4, 1) := by decide +kernel
theorem dX12_item_190 : decode cX12_item 190 = .ok (.iload 4, 2) := by decide +kernel
theorem dX12_item_192 : decode cX12_item 192 = .ok (.imul, 1) := by decide +kernel
theorem dX12_item_193 : decode cX12_item 193 = .ok (.iaload, 1) := by decide +kernel
theorem dX12_item_194 : decode cX12_item 194 = .ok (.goto 4, 3) := by decide +kernel
theorem dX12_item_199 : decode cX12_item 199 = .ok (.iload 5, 2) := by decide +kernel
theorem dX12_item_201 : decode cX12_item 201 = .ok (.iconst 1, 1) := by decide +kernel
theorem dX12_item_202 : decode cX12_item 202 = .ok (.if_icmp .le 17, 3) := by decide +kernel
theorem dX12_item_219 : decode cX12_item 219 = .ok (.iconst 0, 1) := by decide +kernel
theorem dX12_item_220 : decode cX12_item 220 = .ok (.ireturn, 1) := by decide +kernel
theorem dX12_item_205 : decode cX12_item 205 = .ok (.aload_n 0, 1) := by decide +kernel
theorem dX12_item_206 : decode cX12_item 206 = .ok (.getfield 26, 3) := by decide +kernel
theorem dX12_item_209 : decode cX12_item 209 = .ok (.iconst 4, 1) := by decide +kernel
theorem dX12_item_210 : decode cX12_item 210 = .ok (.iload 4, 2) := by decide +kernel
theorem dX12_item_212 : decode cX12_item 212 = .ok (.imul, 1) := by decide +kernel
theorem dX12_item_213 : decode cX12_item 213 = .ok (.iconst 1, 1) := by decide +kernel
theorem dX12_item_214 : decode cX12_item 214 = .ok (.iadd, 1) := by decide +kernel
theorem dX12_item_215 : decode cX12_item 215 = .ok (.iaload, 1) := by decide +kernel
theorem dX12_item_216 : decode cX12_item 216 = .ok (.goto 4, 3) := by decide +kernel
theorem dX12_item_221 : decode cX12_item 221 = .ok (.iload 5, 2) := by decide +kernel
theorem dX12_item_223 : decode cX12_item 223 = .ok (.ifCond .le 15, 3) := by decide +kernel
theorem dX12_item_238 : decode cX12_item 238 = .ok (.iconst 0, 1) := by decide +kernel
theorem dX12_item_239 : decode cX12_item 239 = .ok (.ireturn, 1) := by decide +kernel
theorem dX12_item_226 : decode cX12_item 226 = .ok (.aload_n 0, 1) := by decide +kernel
theorem dX12_item_227 : decode cX12_item 227 = .ok (.getfield 29, 3) := by decide +kernel
theorem dX12_item_230 : decode cX12_item 230 = .ok (.iconst 4, 1) := by decide +kernel
theorem dX12_item_231 : decode cX12_item 231 = .ok (.iload 4, 2) := by decide +kernel
theorem dX12_item_233 : decode cX12_item 233 = .ok (.imul, 1) := by decide +kernel
theorem dX12_item_234 : decode cX12_item 234 = .ok (.iaload, 1) := by decide +kernel
theorem dX12_item_235 : decode cX12_item 235 = .ok (.goto 4, 3) := by decide +kernel
theorem dX12_item_240 : decode cX12_item 240 = .ok (.iload 5, 2) := by decide +kernel
theorem dX12_item_242 : decode cX12_item 242 = .ok (.iconst 1, 1) := by decide +kernel
theorem dX12_item_243 : decode cX12_item 243 = .ok (.if_icmp .le 17, 3) := by decide +kernel
theorem dX12_item_260 : decode cX12_item 260 = .ok (.iconst 0, 1) := by decide +kernel
theorem dX12_item_261 : decode cX12_item 261 = .ok (.ireturn, 1) := by decide +kernel
theorem dX12_item_246 : decode cX12_item 246 = .ok (.aload_n 0, 1) := by decide +kernel
theorem dX12_item_247 : decode cX12_item 247 = .ok (.getfield 29, 3) := by decide +kernel
theorem dX12_item_250 : decode cX12_item 250 = .ok (.iconst 4, 1) := by decide +kernel
theorem dX12_item_251 : decode cX12_item 251 = .ok (.iload 4, 2) := by decide +kernel
theorem dX12_item_253 : decode cX12_item 253 = .ok (.imul, 1) := by decide +kernel
theorem dX12_item_254 : decode cX12_item 254 = .ok (.iconst 1, 1) := by decide +kernel
theorem dX12_item_255 : decode cX12_item 255 = .ok (.iadd, 1) := by decide +kernel
theorem dX12_item_256 : decode cX12_item 256 = .ok (.iaload, 1) := by decide +kernel
theorem dX12_item_257 : decode cX12_item 257 = .ok (.goto 4, 3) := by decide +kernel
set_option maxHeartbeats 4000000 in
set_option maxRecDepth 20000 in
theorem c_X12_item (d : Nat) {b : Nat} {σ : MS} {x : Int} {k : Int} {w : Int} (hR : RG σ) (hit : ITM σ) (hpar : PAR σ) (hnam : NAM σ) (hrt : RTN σ) (h_x : -2147483648 ≤ x ∧ x ≤ 2147483647) (h_k : -2147483648 ≤ k ∧ k ≤ 2147483647) (h_w : -2147483648 ≤ w ∧ w ≤ 2147483647) : Tm (d + 4) m_X12_item 0 b σ [(0, .ref b), (1, .int (iI x)), (2, .int (iI k)), (3, .int (iI w))] [] (fun ro σ2 => ∃ v : Int, ro = some (.int (iI v)) ∧ (Fr [0] [] [] σ σ2) ∧ (RG σ2)) := by
  refine tm_aload_n dX12_item_0 rfl 0 rfl ?_
  refine tm_iconst dX12_item_1 ?_
  refine tm_putS (k := 0) (v := 0) lay_12 dX12_item_2 (by decide) fl12_185 rfl (tyX12_ok 0 (by decide)) rfl rfl rfl ?_
  refine tm_aload_n dX12_item_5 rfl 0 rfl ?_
  refine tm_iload_n dX12_item_6 rfl 1 rfl ?_
  refine tm_callV (M := m_X12_item) (pc := 7) (ix := 404) (M' := m_X12_isRoutine) (As := [.int (iI x)]) (rest := []) dX12_item_7 ok_X12_isRoutine im_X12_isRoutine se_X12_isRoutine ml12_404 np_X12_isRoutine rfl rfl (Nat.le_of_ble_eq_true rfl) (Nat.le_of_ble_eq_true rfl) rfl (c_X12_isRoutine (d + 1) (σ := (sS 0 0 σ)) (x := x) (hR.S (by omega)) hrt.1 (by omega)) (fun r1 σ2 hp => ?_)
  obtain ⟨v3, rfl, rfl, f4, f5⟩ := hp
  show Tm _ _ 10 b (sS 0 0 σ) [(0, .ref b), (1, .int (iI x)), (2, .int (iI k)), (3, .int (iI w))] [.int (iI v3)] _
  have e10 : (sS 0 0 σ).1 10 = σ.1 10 := rfl
  have hrt1 := hrt.1
  refine tm_if_eq (tgt := 39) dX12_item_10 (by decide) ⟨by omega, by omega⟩ (fun h6 => ?_) (fun h6 => ?_)
  · refine tm_iconst dX12_item_39 ?_
    exact tm_iret rfl dX12_item_40 (⟨_, rfl, (Fr.rfl.S (by decide)), (hR.S (by omega))⟩)
  · have hri := hrt.2 x (by omega) (by omega)
    have hof := hri.2.1
    have hok := hri.2.2.1
    have q1 := hof.1
    have q2 := hnam x (by omega) (by omega)
    have q3 := hpar x (by omega) (by omega)
    refine tm_iload_n dX12_item_13 rfl 2 rfl ?_
    refine tm_iconst dX12_item_14 ?_
    refine tm_aload_n dX12_item_15 rfl 0 rfl ?_
    refine tm_get (k := 9) (v := .ref (b + 1 + 7)) lay_12 dX12_item_16 (by decide) fl12_32 rfl ?_
    refine tm_iload_n dX12_item_19 rfl 1 rfl ?_
    refine tm_iald (z := x) (v := σ.2.1 9 x) dX12_item_20 (show mT[7]? = some (9, 0, 13) from rfl) (by omega) (by omega) (by decide) (ra_S (rfl)) ?_
    have g7 := RG.a hR 9 (x)
    refine tm_iconst dX12_item_21 ?_
    refine tm_isub dX12_item_22 ?_
    refine tm_callS (M := m_X12_item) (pc := 23) (ix := 188) (M' := m_X12_in) (As := [.int (iI k), .int (iI 0), .int (iI ((σ.2.1 9 x) - 1))]) (rest := []) dX12_item_23 ok_X12_in stt_X12_in ml12_188 np_X12_in rfl (Nat.le_of_ble_eq_true rfl) (Nat.le_of_ble_eq_true rfl) rfl (c_X12_in (d + 2) (σ := (sS 0 0 σ)) (x := k) (lo := 0) (hi := (σ.2.1 9 x) - 1) (by omega) (by omega) (by omega)) (fun r8 σ9 hp => ?_)
    obtain ⟨v10, rfl, rfl, f11, f12⟩ := hp
    show Tm _ _ 26 b (sS 0 0 σ) [(0, .ref b), (1, .int (iI x)), (2, .int (iI k)), (3, .int (iI w))] [.int (iI v10)] _
    refine tm_if_eq (tgt := 39) dX12_item_26 (by decide) ⟨by omega, by omega⟩ (fun h13 => ?_) (fun h13 => ?_)
    · refine tm_iconst dX12_item_39 ?_
      exact tm_iret rfl dX12_item_40 (⟨_, rfl, (Fr.rfl.S (by decide)), (hR.S (by omega))⟩)
    · refine tm_iload_n dX12_item_29 rfl 3 rfl ?_
      refine tm_iconst dX12_item_30 ?_
      refine tm_bipush dX12_item_31 (by decide) ?_
      refine tm_callS (M := m_X12_item) (pc := 33) (ix := 188) (M' := m_X12_in) (As := [.int (iI w), .int (iI 0), .int (iI 7)]) (rest := []) dX12_item_33 ok_X12_in stt_X12_in ml12_188 np_X12_in rfl (Nat.le_of_ble_eq_true rfl) (Nat.le_of_ble_eq_true rfl) rfl (c_X12_in (d + 2) (σ := (sS 0 0 σ)) (x := w) (lo := 0) (hi := 7) (by omega) (by omega) (by omega)) (fun r14 σ15 hp => ?_)
      obtain ⟨v16, rfl, rfl, f17, f18⟩ := hp
      show Tm _ _ 36 b (sS 0 0 σ) [(0, .ref b), (1, .int (iI x)), (2, .int (iI k)), (3, .int (iI w))] [.int (iI v16)] _
      refine tm_if_ne (tgt := 41) dX12_item_36 (by decide) ⟨by omega, by omega⟩ (fun h19 => ?_) (fun h19 => ?_)
      · refine tm_aload_n dX12_item_41 rfl 0 rfl ?_
        refine tm_iload_n dX12_item_42 rfl 1 rfl ?_
        refine tm_iload_n dX12_item_43 rfl 2 rfl ?_
        refine tm_callV (M := m_X12_item) (pc := 44) (ix := 203) (M' := m_X12_at) (As := [.int (iI x), .int (iI k)]) (rest := []) dX12_item_44 ok_X12_at im_X12_at se_X12_at ml12_203 np_X12_at rfl rfl (Nat.le_of_ble_eq_true rfl) (Nat.le_of_ble_eq_true rfl) rfl (c_X12_at (d + 2) (σ := (sS 0 0 σ)) (x := x) (k := k) ) (fun r20 σ21 hp => ?_)
        obtain ⟨v22, rfl, rfl, f23⟩ := hp
        subst f23
        show Tm _ _ 47 b (sS 0 0 σ) [(0, .ref b), (1, .int (iI x)), (2, .int (iI k)), (3, .int (iI w))] [.int (iI (220 * x + k))] _
        refine tm_istore (L' := [(4, .int (iI (220 * x + k))), (0, .ref b), (1, .int (iI x)), (2, .int (iI k)), (3, .int (iI w))]) dX12_item_47 (by decide) rfl ?_
        refine tm_aload_n dX12_item_49 rfl 1 rfl ?_
        refine tm_iload dX12_item_50 0 rfl ?_
        refine tm_callV (M := m_X12_item) (pc := 52) (ix := 199) (M' := m_X12_args) (As := [.int (iI (220 * x + k))]) (rest := []) dX12_item_52 ok_X12_args im_X12_args se_X12_args ml12_199 np_X12_args rfl rfl (Nat.le_of_ble_eq_true rfl) (Nat.le_of_ble_eq_true rfl) rfl (c_X12_args (d) (σ := (sS 0 0 σ)) (x := 220 * x + k) (by omega) (hR.S (by omega)) (OKS.of (hok.fr (show Fr [0] [] [] σ (sS 0 0 σ) from (Fr.rfl.S (by decide))) (by decide)) (by omega) (by rw [((show Fr [0] [] [] σ (sS 0 0 σ) from (Fr.rfl.S (by decide)))).2.1 9 (by decide)]; omega)) (hpar.fr (show Fr [0] [] [] σ (sS 0 0 σ) from (Fr.rfl.S (by decide))) (by decide))) (fun r24 σ25 hp => ?_)
        obtain ⟨v26, rfl, rfl, f27, f28⟩ := hp
        show Tm _ _ 55 b (sS 0 0 σ) [(4, .int (iI (220 * x + k))), (0, .ref b), (1, .int (iI x)), (2, .int (iI k)), (3, .int (iI w))] [.int (iI v26)] _
        refine tm_istore (L' := [(5, .int (iI v26)), (4, .int (iI (220 * x + k))), (0, .ref b), (1, .int (iI x)), (2, .int (iI k)), (3, .int (iI w))]) dX12_item_55 (by decide) rfl ?_
        refine tm_iload_n dX12_item_57 rfl 5 rfl ?_
        by_cases h29 : w < 0 ∨ 6 < w
        · refine tm_tableOut (tgt := 262) dX12_item_58 ⟨by omega, by omega⟩ h29 (by decide) ?_
          refine tm_aload_n dX12_item_262 rfl 2 rfl ?_
          refine tm_get (k := 3) (v := .ref (b + 1 + 1)) lay_12 dX12_item_263 (by decide) fl12_13 rfl ?_
          refine tm_iload dX12_item_266 1 rfl ?_
          refine tm_iald (z := 220 * x + k) (v := σ.2.1 3 (220 * x + k)) dX12_item_268 (show mT[1]? = some (3, 0, 2860) from rfl) (by omega) (by omega) (by decide) (ra_S (rfl)) ?_
          have g30 := RG.a hR 3 (220 * x + k)
          refine tm_bipush dX12_item_269 (by decide) ?_
          refine tm_icmp_ne (tgt := 284) dX12_item_271 (by decide) ⟨by omega, by omega⟩ ⟨by decide, by decide⟩ (fun h31 => ?_) (fun h31 => ?_)
          · refine tm_iconst dX12_item_284 ?_
            exact tm_iret rfl dX12_item_285 (⟨_, rfl, (Fr.rfl.S (by decide)), (hR.S (by omega))⟩)
          · refine tm_aload_n dX12_item_274 rfl 2 rfl ?_
            refine tm_get (k := 6) (v := .ref (b + 1 + 4)) lay_12 dX12_item_275 (by decide) fl12_23 rfl ?_
            refine tm_iload dX12_item_278 1 rfl ?_
            refine tm_iald (z := 220 * x + k) (v := σ.2.1 6 (220 * x + k)) dX12_item_280 (show mT[4]? = some (6, 0, 2860) from rfl) (by omega) (by omega) (by decide) (ra_S (rfl)) ?_
            have g32 := RG.a hR 6 (220 * x + k)
            refine tm_goto (tgt := 285) dX12_item_281 (by decide) ?_
            exact tm_iret rfl dX12_item_285 (⟨_, rfl, (Fr.rfl.S (by decide)), (hR.S (by omega))⟩)
        · have h29c : w = 0 ∨ w = 1 ∨ w = 2 ∨ w = 3 ∨ w = 4 ∨ w = 5 ∨ w = 6 := by omega
          rcases h29c with h29v | h29v | h29v | h29v | h29v | h29v | h29v
          · refine tm_tableIn (tgt := 100) dX12_item_58 ⟨by omega, by omega⟩ (by omega) (by omega) (show _ = some (42) by rw [h29v]; rfl) (by decide) ?_
            refine tm_aload_n dX12_item_100 rfl 2 rfl ?_
            refine tm_get (k := 3) (v := .ref (b + 1 + 1)) lay_12 dX12_item_101 (by decide) fl12_13 rfl ?_
            refine tm_iload dX12_item_104 1 rfl ?_
            refine tm_iald (z := 220 * x + k) (v := σ.2.1 3 (220 * x + k)) dX12_item_106 (show mT[1]? = some (3, 0, 2860) from rfl) (by omega) (by omega) (by decide) (ra_S (rfl)) ?_
            have g33 := RG.a hR 3 (220 * x + k)
            exact tm_iret rfl dX12_item_107 (⟨_, rfl, (Fr.rfl.S (by decide)), (hR.S (by omega))⟩)
          · refine tm_tableIn (tgt := 108) dX12_item_58 ⟨by omega, by omega⟩ (by omega) (by omega) (show _ = some (50) by rw [h29v]; rfl) (by decide) ?_
            refine tm_aload_n dX12_item_108 rfl 2 rfl ?_
            refine tm_get (k := 3) (v := .ref (b + 1 + 1)) lay_12 dX12_item_109 (by decide) fl12_13 rfl ?_
            refine tm_iload dX12_item_112 1 rfl ?_
            refine tm_iald (z := 220 * x + k) (v := σ.2.1 3 (220 * x + k)) dX12_item_114 (show mT[1]? = some (3, 0, 2860) from rfl) (by omega) (by omega) (by decide) (ra_S (rfl)) ?_
            have g34 := RG.a hR 3 (220 * x + k)
            refine tm_bipush dX12_item_115 (by decide) ?_
            refine tm_icmp_eq (tgt := 132) dX12_item_117 (by decide) ⟨by omega, by omega⟩ ⟨by decide, by decide⟩ (fun h35 => ?_) (fun h35 => ?_)
            · refine tm_iconst dX12_item_132 ?_
              refine tm_goto (tgt := 143) dX12_item_133 (by decide) ?_
              exact tm_iret rfl dX12_item_143 (⟨_, rfl, (Fr.rfl.S (by decide)), (hR.S (by omega))⟩)
            · refine tm_aload_n dX12_item_120 rfl 2 rfl ?_
              refine tm_get (k := 3) (v := .ref (b + 1 + 1)) lay_12 dX12_item_121 (by decide) fl12_13 rfl ?_
              refine tm_iload dX12_item_124 1 rfl ?_
              refine tm_iald (z := 220 * x + k) (v := σ.2.1 3 (220 * x + k)) dX12_item_126 (show mT[1]? = some (3, 0, 2860) from rfl) (by omega) (by omega) (by decide) (ra_S (rfl)) ?_
              have g36 := RG.a hR 3 (220 * x + k)
              refine tm_bipush dX12_item_127 (by decide) ?_
              refine tm_icmp_ne (tgt := 136) dX12_item_129 (by decide) ⟨by omega, by omega⟩ ⟨by decide, by decide⟩ (fun h37 => ?_) (fun h37 => ?_)
              · refine tm_aload_n dX12_item_136 rfl 2 rfl ?_
                refine tm_get (k := 4) (v := .ref (b + 1 + 2)) lay_12 dX12_item_137 (by decide) fl12_17 rfl ?_
                refine tm_iload dX12_item_140 1 rfl ?_
                refine tm_iald (z := 220 * x + k) (v := σ.2.1 4 (220 * x + k)) dX12_item_142 (show mT[2]? = some (4, 0, 2860) from rfl) (by omega) (by omega) (by decide) (ra_S (rfl)) ?_
                have g38 := RG.a hR 4 (220 * x + k)
                exact tm_iret rfl dX12_item_143 (⟨_, rfl, (Fr.rfl.S (by decide)), (hR.S (by omega))⟩)
              · refine tm_iconst dX12_item_132 ?_
                refine tm_goto (tgt := 143) dX12_item_133 (by decide) ?_
                exact tm_iret rfl dX12_item_143 (⟨_, rfl, (Fr.rfl.S (by decide)), (hR.S (by omega))⟩)
          · refine tm_tableIn (tgt := 144) dX12_item_58 ⟨by omega, by omega⟩ (by omega) (by omega) (show _ = some (86) by rw [h29v]; rfl) (by decide) ?_
            refine tm_aload_n dX12_item_144 rfl 2 rfl ?_
            refine tm_get (k := 3) (v := .ref (b + 1 + 1)) lay_12 dX12_item_145 (by decide) fl12_13 rfl ?_
            refine tm_iload dX12_item_148 1 rfl ?_
            refine tm_iald (z := 220 * x + k) (v := σ.2.1 3 (220 * x + k)) dX12_item_150 (show mT[1]? = some (3, 0, 2860) from rfl) (by omega) (by omega) (by decide) (ra_S (rfl)) ?_
            have g39 := RG.a hR 3 (220 * x + k)
            refine tm_bipush dX12_item_151 (by decide) ?_
            refine tm_icmp_lt (tgt := 178) dX12_item_153 (by decide) ⟨by omega, by omega⟩ ⟨by decide, by decide⟩ (fun h40 => ?_) (fun h40 => ?_)
            · refine tm_iconst dX12_item_178 ?_
              exact tm_iret rfl dX12_item_179 (⟨_, rfl, (Fr.rfl.S (by decide)), (hR.S (by omega))⟩)
            · refine tm_aload_n dX12_item_156 rfl 2 rfl ?_
              refine tm_get (k := 3) (v := .ref (b + 1 + 1)) lay_12 dX12_item_157 (by decide) fl12_13 rfl ?_
              refine tm_iload dX12_item_160 1 rfl ?_
              refine tm_iald (z := 220 * x + k) (v := σ.2.1 3 (220 * x + k)) dX12_item_162 (show mT[1]? = some (3, 0, 2860) from rfl) (by omega) (by omega) (by decide) (ra_S (rfl)) ?_
              have g41 := RG.a hR 3 (220 * x + k)
              refine tm_bipush dX12_item_163 (by decide) ?_
              refine tm_icmp_gt (tgt := 178) dX12_item_165 (by decide) ⟨by omega, by omega⟩ ⟨by decide, by decide⟩ (fun h42 => ?_) (fun h42 => ?_)
              · refine tm_iconst dX12_item_178 ?_
                exact tm_iret rfl dX12_item_179 (⟨_, rfl, (Fr.rfl.S (by decide)), (hR.S (by omega))⟩)
              · refine tm_aload_n dX12_item_168 rfl 2 rfl ?_
                refine tm_get (k := 5) (v := .ref (b + 1 + 3)) lay_12 dX12_item_169 (by decide) fl12_20 rfl ?_
                refine tm_iload dX12_item_172 1 rfl ?_
                refine tm_iald (z := 220 * x + k) (v := σ.2.1 5 (220 * x + k)) dX12_item_174 (show mT[3]? = some (5, 0, 2860) from rfl) (by omega) (by omega) (by decide) (ra_S (rfl)) ?_
                have g43 := RG.a hR 5 (220 * x + k)
                refine tm_goto (tgt := 179) dX12_item_175 (by decide) ?_
                exact tm_iret rfl dX12_item_179 (⟨_, rfl, (Fr.rfl.S (by decide)), (hR.S (by omega))⟩)
          · refine tm_tableIn (tgt := 180) dX12_item_58 ⟨by omega, by omega⟩ (by omega) (by omega) (show _ = some (122) by rw [h29v]; rfl) (by decide) ?_
            refine tm_iload dX12_item_180 0 rfl ?_
            refine tm_if_le (tgt := 197) dX12_item_182 (by decide) ⟨by omega, by omega⟩ (fun h44 => ?_) (fun h44 => ?_)
            · refine tm_iconst dX12_item_197 ?_
              exact tm_iret rfl dX12_item_198 (⟨_, rfl, (Fr.rfl.S (by decide)), (hR.S (by omega))⟩)
            · refine tm_aload_n dX12_item_185 rfl 2 rfl ?_
              refine tm_get (k := 7) (v := .ref (b + 1 + 5)) lay_12 dX12_item_186 (by decide) fl12_26 rfl ?_
              refine tm_iconst dX12_item_189 ?_
              refine tm_iload dX12_item_190 1 rfl ?_
              refine tm_imul dX12_item_192 ?_
              refine tm_iald (z := 4 * (220 * x + k)) (v := σ.2.1 7 (4 * (220 * x + k))) dX12_item_193 (show mT[5]? = some (7, 0, 11440) from rfl) (by omega) (by omega) (by decide) (ra_S (rfl)) ?_
              have g45 := RG.a hR 7 (4 * (220 * x + k))
              refine tm_goto (tgt := 198) dX12_item_194 (by decide) ?_
              exact tm_iret rfl dX12_item_198 (⟨_, rfl, (Fr.rfl.S (by decide)), (hR.S (by omega))⟩)
          · refine tm_tableIn (tgt := 199) dX12_item_58 ⟨by omega, by omega⟩ (by omega) (by omega) (show _ = some (141) by rw [h29v]; rfl) (by decide) ?_
            refine tm_iload dX12_item_199 0 rfl ?_
            refine tm_iconst dX12_item_201 ?_
            refine tm_icmp_le (tgt := 219) dX12_item_202 (by decide) ⟨by omega, by omega⟩ ⟨by decide, by decide⟩ (fun h46 => ?_) (fun h46 => ?_)
            · refine tm_iconst dX12_item_219 ?_
              exact tm_iret rfl dX12_item_220 (⟨_, rfl, (Fr.rfl.S (by decide)), (hR.S (by omega))⟩)
            · refine tm_aload_n dX12_item_205 rfl 2 rfl ?_
              refine tm_get (k := 7) (v := .ref (b + 1 + 5)) lay_12 dX12_item_206 (by decide) fl12_26 rfl ?_
              refine tm_iconst dX12_item_209 ?_
              refine tm_iload dX12_item_210 1 rfl ?_
              refine tm_imul dX12_item_212 ?_
              refine tm_iconst dX12_item_213 ?_
              refine tm_iadd dX12_item_214 ?_
              refine tm_iald (z := (4 * (220 * x + k)) + 1) (v := σ.2.1 7 ((4 * (220 * x + k)) + 1)) dX12_item_215 (show mT[5]? = some (7, 0, 11440) from rfl) (by omega) (by omega) (by decide) (ra_S (rfl)) ?_
              have g47 := RG.a hR 7 ((4 * (220 * x + k)) + 1)
              refine tm_goto (tgt := 220) dX12_item_216 (by decide) ?_
              exact tm_iret rfl dX12_item_220 (⟨_, rfl, (Fr.rfl.S (by decide)), (hR.S (by omega))⟩)
          · refine tm_tableIn (tgt := 221) dX12_item_58 ⟨by omega, by omega⟩ (by omega) (by omega) (show _ = some (163) by rw [h29v]; rfl) (by decide) ?_
            refine tm_iload dX12_item_221 0 rfl ?_
            refine tm_if_le (tgt := 238) dX12_item_223 (by decide) ⟨by omega, by omega⟩ (fun h48 => ?_) (fun h48 => ?_)
            · refine tm_iconst dX12_item_238 ?_
              exact tm_iret rfl dX12_item_239 (⟨_, rfl, (Fr.rfl.S (by decide)), (hR.S (by omega))⟩)
            · refine tm_aload_n dX12_item_226 rfl 2 rfl ?_
              refine tm_get (k := 8) (v := .ref (b + 1 + 6)) lay_12 dX12_item_227 (by decide) fl12_29 rfl ?_
              refine tm_iconst dX12_item_230 ?_
              refine tm_iload dX12_item_231 1 rfl ?_
              refine tm_imul dX12_item_233 ?_
              refine tm_iald (z := 4 * (220 * x + k)) (v := σ.2.1 8 (4 * (220 * x + k))) dX12_item_234 (show mT[6]? = some (8, 0, 11440) from rfl) (by omega) (by omega) (by decide) (ra_S (rfl)) ?_
              have g49 := RG.a hR 8 (4 * (220 * x + k))
              refine tm_goto (tgt := 239) dX12_item_235 (by decide) ?_
              exact tm_iret rfl dX12_item_239 (⟨_, rfl, (Fr.rfl.S (by decide)), (hR.S (by omega))⟩)
          · refine tm_tableIn (tgt := 240) dX12_item_58 ⟨by omega, by omega⟩ (by omega) (by omega) (show _ = some (182) by rw [h29v]; rfl) (by decide) ?_
            refine tm_iload dX12_item_240 0 rfl ?_
            refine tm_iconst dX12_item_242 ?_
            refine tm_icmp_le (tgt := 260) dX12_item_243 (by decide) ⟨by omega, by omega⟩ ⟨by decide, by decide⟩ (fun h50 => ?_) (fun h50 => ?_)
            · refine tm_iconst dX12_item_260 ?_
              exact tm_iret rfl dX12_item_261 (⟨_, rfl, (Fr.rfl.S (by decide)), (hR.S (by omega))⟩)
            · refine tm_aload_n dX12_item_246 rfl 2 rfl ?_
              refine tm_get (k := 8) (v := .ref (b + 1 + 6)) lay_12 dX12_item_247 (by decide) fl12_29 rfl ?_
              refine tm_iconst dX12_item_250 ?_
              refine tm_iload dX12_item_251 1 rfl ?_
              refine tm_imul dX12_item_253 ?_
              refine tm_iconst dX12_item_254 ?_
              refine tm_iadd dX12_item_255 ?_
              refine tm_iald (z := (4 * (220 * x + k)) + 1) (v := σ.2.1 8 ((4 * (220 * x + k)) + 1)) dX12_item_256 (show mT[6]? = some (8, 0, 11440) from rfl) (by omega) (by omega) (by decide) (ra_S (rfl)) ?_
              have g51 := RG.a hR 8 ((4 * (220 * x + k)) + 1)
              refine tm_goto (tgt := 261) dX12_item_257 (by decide) ?_
              exact tm_iret rfl dX12_item_261 (⟨_, rfl, (Fr.rfl.S (by decide)), (hR.S (by omega))⟩)
      · refine tm_iconst dX12_item_39 ?_
        exact tm_iret rfl dX12_item_40 (⟨_, rfl, (Fr.rfl.S (by decide)), (hR.S (by omega))⟩)
theorem fl12_53 : Cond.fieldLink RX12 53 (TX12 17).1 (TX12 17).2.1 (TX12 17).2.2.1 ∈ pWW := pw7 (List.mem_of_getElem? (i := 24) rfl) rfl
theorem fl12_50 : Cond.fieldLink RX12 50 (TX12 16).1 (TX12 16).2.1 (TX12 16).2.2.1 ∈ pWW := pw7 (List.mem_of_getElem? (i := 23) rfl) rfl
theorem dX12_frame_0 : decode cX12_frame 0 = .ok (.aload_n 0, 1) := by decide +kernel
theorem dX12_frame_1 : decode cX12_frame 1 = .ok (.iconst 0, 1) := by decide +kernel
theorem dX12_frame_2 : decode cX12_frame 2 = .ok (.putfield 185, 3) := by decide +kernel
theorem dX12_frame_5 : decode cX12_frame 5 = .ok (.aload_n 0, 1) := by decide +kernel
theorem dX12_frame_6 : decode cX12_frame 6 = .ok (.iload_n 1, 1) := by decide +kernel
theorem dX12_frame_7 : decode cX12_frame 7 = .ok (.invokevirtual 404, 3) := by decide +kernel
theorem dX12_frame_10 : decode cX12_frame 10 = .ok (.ifCond .eq 19, 3) := by decide +kernel
theorem dX12_frame_29 : decode cX12_frame 29 = .ok (.iconst (-1), 1) := by decide +kernel
theorem dX12_frame_30 : decode cX12_frame 30 = .ok (.ireturn, 1) := by decide +kernel
theorem dX12_frame_13 : decode cX12_frame 13 = .ok (.iload_n 2, 1) := by decide +kernel
theorem dX12_frame_14 : decode cX12_frame 14 = .ok (.iconst 0, 1) := by decide +kernel
theorem dX12_frame_15 : decode cX12_frame 15 = .ok (.aload_n 0, 1) := by decide +kernel
theorem dX12_frame_16 : decode cX12_frame 16 = .ok (.getfield 44, 3) := by decide +kernel
theorem dX12_frame_19 : decode cX12_frame 19 = .ok (.iload_n 1, 1) := by decide +kernel
theorem dX12_frame_20 : decode cX12_frame 20 = .ok (.iaload, 1) := by decide +kernel
theorem dX12_frame_21 : decode cX12_frame 21 = .ok (.iconst 1, 1) := by decide +kernel
theorem dX12_frame_22 : decode cX12_frame 22 = .ok (.isub, 1) := by decide +kernel
theorem dX12_frame_23 : decode cX12_frame 23 = .ok (.invokestatic 188, 3) := by decide +kernel
theorem dX12_frame_26 : decode cX12_frame 26 = .ok (.ifCond .ne 5, 3) := by decide +kernel
theorem dX12_frame_31 : decode cX12_frame 31 = .ok (.bipush 12, 2) := by decide +kernel
theorem dX12_frame_33 : decode cX12_frame 33 = .ok (.iload_n 1, 1) := by decide +kernel
theorem dX12_frame_34 : decode cX12_frame 34 = .ok (.imul, 1) := by decide +kernel
theorem dX12_frame_35 : decode cX12_frame 35 = .ok (.iload_n 2, 1) := by decide +kernel
theorem dX12_frame_36 : decode cX12_frame 36 = .ok (.iadd, 1) := by decide +kernel
theorem dX12_frame_37 : decode cX12_frame 37 = .ok (.istore 4, 2) := by decide +kernel
theorem dX12_frame_39 : decode cX12_frame 39 = .ok (.iload_n 3, 1) := by decide +kernel
theorem dX12_frame_40 : decode cX12_frame 40 = .ok (.ifCond .ne 13, 3) := by decide +kernel
theorem dX12_frame_53 : decode cX12_frame 53 = .ok (.iload_n 3, 1) := by decide +kernel
theorem dX12_frame_54 : decode cX12_frame 54 = .ok (.iconst 1, 1) := by decide +kernel
theorem dX12_frame_55 : decode cX12_frame 55 = .ok (.if_icmp .ne 13, 3) := by decide +kernel
theorem dX12_frame_68 : decode cX12_frame 68 = .ok (.iload_n 3, 1) := by decide +kernel
theorem dX12_frame_69 : decode cX12_frame 69 = .ok (.iconst 2, 1) := by decide +kernel
theorem dX12_frame_70 : decode cX12_frame 70 = .ok (.if_icmp .ne 13, 3) := by decide +kernel
theorem dX12_frame_83 : decode cX12_frame 83 = .ok (.iconst (-1), 1) := by decide +kernel
theorem dX12_frame_84 : decode cX12_frame 84 = .ok (.ireturn, 1) := by decide +kernel
theorem dX12_frame_73 : decode cX12_frame 73 = .ok (.aload_n 0, 1) := by decide +kernel
theorem dX12_frame_74 : decode cX12_frame 74 = .ok (.getfield 53, 3) := by decide +kernel
theorem dX12_frame_77 : decode cX12_frame 77 = .ok (.iload 4, 2) := by decide +kernel
theorem dX12_frame_79 : decode cX12_frame 79 = .ok (.iaload, 1) := by decide +kernel
theorem dX12_frame_80 : decode cX12_frame 80 = .ok (.goto 4, 3) := by decide +kernel
theorem dX12_frame_58 : decode cX12_frame 58 = .ok (.aload_n 0, 1) := by decide +kernel
theorem dX12_frame_59 : decode cX12_frame 59 = .ok (.getfield 50, 3) := by decide +kernel
theorem dX12_frame_62 : decode cX12_frame 62 = .ok (.iload 4, 2) := by decide +kernel
theorem dX12_frame_64 : decode cX12_frame 64 = .ok (.iaload, 1) := by decide +kernel
theorem dX12_frame_65 : decode cX12_frame 65 = .ok (.goto 19, 3) := by decide +kernel
theorem dX12_frame_43 : decode cX12_frame 43 = .ok (.aload_n 0, 1) := by decide +kernel
theorem dX12_frame_44 : decode cX12_frame 44 = .ok (.getfield 47, 3) := by decide +kernel
theorem dX12_frame_47 : decode cX12_frame 47 = .ok (.iload 4, 2) := by decide +kernel
theorem dX12_frame_49 : decode cX12_frame 49 = .ok (.iaload, 1) := by decide +kernel
theorem dX12_frame_50 : decode cX12_frame 50 = .ok (.goto 34, 3) := by decide +kernel
set_option maxHeartbeats 4000000 in
set_option maxRecDepth 20000 in
theorem c_X12_frame (d : Nat) {b : Nat} {σ : MS} {x : Int} {f : Int} {w : Int} (hR : RG σ) (hit : ITM σ) (hpar : PAR σ) (hnam : NAM σ) (hrt : RTN σ) (h_x : -2147483648 ≤ x ∧ x ≤ 2147483647) (h_f : -2147483648 ≤ f ∧ f ≤ 2147483647) (h_w : -2147483648 ≤ w ∧ w ≤ 2147483647) : Tm (d + 4) m_X12_frame 0 b σ [(0, .ref b), (1, .int (iI x)), (2, .int (iI f)), (3, .int (iI w))] [] (fun ro σ2 => ∃ v : Int, ro = some (.int (iI v)) ∧ (Fr [0] [] [] σ σ2) ∧ (RG σ2)) := by
  refine tm_aload_n dX12_frame_0 rfl 0 rfl ?_
  refine tm_iconst dX12_frame_1 ?_
  refine tm_putS (k := 0) (v := 0) lay_12 dX12_frame_2 (by decide) fl12_185 rfl (tyX12_ok 0 (by decide)) rfl rfl rfl ?_
  refine tm_aload_n dX12_frame_5 rfl 0 rfl ?_
  refine tm_iload_n dX12_frame_6 rfl 1 rfl ?_
  refine tm_callV (M := m_X12_frame) (pc := 7) (ix := 404) (M' := m_X12_isRoutine) (As := [.int (iI x)]) (rest := []) dX12_frame_7 ok_X12_isRoutine im_X12_isRoutine se_X12_isRoutine ml12_404 np_X12_isRoutine rfl rfl (Nat.le_of_ble_eq_true rfl) (Nat.le_of_ble_eq_true rfl) rfl (c_X12_isRoutine (d + 1) (σ := (sS 0 0 σ)) (x := x) (hR.S (by omega)) hrt.1 (by omega)) (fun r1 σ2 hp => ?_)
  obtain ⟨v3, rfl, rfl, f4, f5⟩ := hp
  show Tm _ _ 10 b (sS 0 0 σ) [(0, .ref b), (1, .int (iI x)), (2, .int (iI f)), (3, .int (iI w))] [.int (iI v3)] _
  have e10 : (sS 0 0 σ).1 10 = σ.1 10 := rfl
  have hrt1 := hrt.1
  refine tm_if_eq (tgt := 29) dX12_frame_10 (by decide) ⟨by omega, by omega⟩ (fun h6 => ?_) (fun h6 => ?_)
  · refine tm_iconst dX12_frame_29 ?_
    exact tm_iret rfl dX12_frame_30 (⟨_, rfl, (Fr.rfl.S (by decide)), (hR.S (by omega))⟩)
  · have hri := hrt.2 x (by omega) (by omega)
    have hof := hri.2.1
    have hok := hri.2.2.1
    have q1 := hof.1
    have q2 := hnam x (by omega) (by omega)
    have q3 := hpar x (by omega) (by omega)
    refine tm_iload_n dX12_frame_13 rfl 2 rfl ?_
    refine tm_iconst dX12_frame_14 ?_
    refine tm_aload_n dX12_frame_15 rfl 0 rfl ?_
    refine tm_get (k := 14) (v := .ref (b + 1 + 11)) lay_12 dX12_frame_16 (by decide) fl12_44 rfl ?_
    refine tm_iload_n dX12_frame_19 rfl 1 rfl ?_
    refine tm_iald (z := x) (v := σ.2.1 14 x) dX12_frame_20 (show mT[11]? = some (14, 0, 6) from rfl) (by omega) (by omega) (by decide) (ra_S (rfl)) ?_
    have g7 := RG.a hR 14 (x)
    refine tm_iconst dX12_frame_21 ?_
    refine tm_isub dX12_frame_22 ?_
    refine tm_callS (M := m_X12_frame) (pc := 23) (ix := 188) (M' := m_X12_in) (As := [.int (iI f), .int (iI 0), .int (iI ((σ.2.1 14 x) - 1))]) (rest := []) dX12_frame_23 ok_X12_in stt_X12_in ml12_188 np_X12_in rfl (Nat.le_of_ble_eq_true rfl) (Nat.le_of_ble_eq_true rfl) rfl (c_X12_in (d + 2) (σ := (sS 0 0 σ)) (x := f) (lo := 0) (hi := (σ.2.1 14 x) - 1) (by omega) (by omega) (by omega)) (fun r8 σ9 hp => ?_)
    obtain ⟨v10, rfl, rfl, f11, f12⟩ := hp
    show Tm _ _ 26 b (sS 0 0 σ) [(0, .ref b), (1, .int (iI x)), (2, .int (iI f)), (3, .int (iI w))] [.int (iI v10)] _
    refine tm_if_ne (tgt := 31) dX12_frame_26 (by decide) ⟨by omega, by omega⟩ (fun h13 => ?_) (fun h13 => ?_)
    · refine tm_bipush dX12_frame_31 (by decide) ?_
      refine tm_iload_n dX12_frame_33 rfl 1 rfl ?_
      refine tm_imul dX12_frame_34 ?_
      refine tm_iload_n dX12_frame_35 rfl 2 rfl ?_
      refine tm_iadd dX12_frame_36 ?_
      refine tm_istore (L' := [(4, .int (iI ((12 * x) + f))), (0, .ref b), (1, .int (iI x)), (2, .int (iI f)), (3, .int (iI w))]) dX12_frame_37 (by decide) rfl ?_
      refine tm_iload_n dX12_frame_39 rfl 4 rfl ?_
      refine tm_if_ne (tgt := 53) dX12_frame_40 (by decide) ⟨by omega, by omega⟩ (fun h14 => ?_) (fun h14 => ?_)
      · refine tm_iload_n dX12_frame_53 rfl 4 rfl ?_
        refine tm_iconst dX12_frame_54 ?_
        refine tm_icmp_ne (tgt := 68) dX12_frame_55 (by decide) ⟨by omega, by omega⟩ ⟨by decide, by decide⟩ (fun h15 => ?_) (fun h15 => ?_)
        · refine tm_iload_n dX12_frame_68 rfl 4 rfl ?_
          refine tm_iconst dX12_frame_69 ?_
          refine tm_icmp_ne (tgt := 83) dX12_frame_70 (by decide) ⟨by omega, by omega⟩ ⟨by decide, by decide⟩ (fun h16 => ?_) (fun h16 => ?_)
          · refine tm_iconst dX12_frame_83 ?_
            exact tm_iret rfl dX12_frame_84 (⟨_, rfl, (Fr.rfl.S (by decide)), (hR.S (by omega))⟩)
          · refine tm_aload_n dX12_frame_73 rfl 1 rfl ?_
            refine tm_get (k := 17) (v := .ref (b + 1 + 14)) lay_12 dX12_frame_74 (by decide) fl12_53 rfl ?_
            refine tm_iload dX12_frame_77 0 rfl ?_
            refine tm_iald (z := (12 * x) + f) (v := σ.2.1 17 ((12 * x) + f)) dX12_frame_79 (show mT[14]? = some (17, 0, 72) from rfl) (by omega) (by omega) (by decide) (ra_S (rfl)) ?_
            have g17 := RG.a hR 17 ((12 * x) + f)
            refine tm_goto (tgt := 84) dX12_frame_80 (by decide) ?_
            exact tm_iret rfl dX12_frame_84 (⟨_, rfl, (Fr.rfl.S (by decide)), (hR.S (by omega))⟩)
        · refine tm_aload_n dX12_frame_58 rfl 1 rfl ?_
          refine tm_get (k := 16) (v := .ref (b + 1 + 13)) lay_12 dX12_frame_59 (by decide) fl12_50 rfl ?_
          refine tm_iload dX12_frame_62 0 rfl ?_
          refine tm_iald (z := (12 * x) + f) (v := σ.2.1 16 ((12 * x) + f)) dX12_frame_64 (show mT[13]? = some (16, 0, 72) from rfl) (by omega) (by omega) (by decide) (ra_S (rfl)) ?_
          have g18 := RG.a hR 16 ((12 * x) + f)
          refine tm_goto (tgt := 84) dX12_frame_65 (by decide) ?_
          exact tm_iret rfl dX12_frame_84 (⟨_, rfl, (Fr.rfl.S (by decide)), (hR.S (by omega))⟩)
      · refine tm_aload_n dX12_frame_43 rfl 1 rfl ?_
        refine tm_get (k := 15) (v := .ref (b + 1 + 12)) lay_12 dX12_frame_44 (by decide) fl12_47 rfl ?_
        refine tm_iload dX12_frame_47 0 rfl ?_
        refine tm_iald (z := (12 * x) + f) (v := σ.2.1 15 ((12 * x) + f)) dX12_frame_49 (show mT[12]? = some (15, 0, 72) from rfl) (by omega) (by omega) (by decide) (ra_S (rfl)) ?_
        have g19 := RG.a hR 15 ((12 * x) + f)
        refine tm_goto (tgt := 84) dX12_frame_50 (by decide) ?_
        exact tm_iret rfl dX12_frame_84 (⟨_, rfl, (Fr.rfl.S (by decide)), (hR.S (by omega))⟩)
    · refine tm_iconst dX12_frame_29 ?_
      exact tm_iret rfl dX12_frame_30 (⟨_, rfl, (Fr.rfl.S (by decide)), (hR.S (by omega))⟩)
theorem ml12_430 : Cond.methodLink RX12 430 yX12_findStates ∈ pWW := pw9 (List.mem_of_getElem? (i := 74) rfl) rfl
theorem dX12_told_0 : decode cX12_told 0 = .ok (.aload_n 0, 1) := by decide +kernel
theorem dX12_told_1 : decode cX12_told 1 = .ok (.iconst 0, 1) := by decide +kernel
theorem dX12_told_2 : decode cX12_told 2 = .ok (.putfield 185, 3) := by decide +kernel
theorem dX12_told_5 : decode cX12_told 5 = .ok (.aload_n 0, 1) := by decide +kernel
theorem dX12_told_6 : decode cX12_told 6 = .ok (.iload_n 1, 1) := by decide +kernel
theorem dX12_told_7 : decode cX12_told 7 = .ok (.invokevirtual 404, 3) := by decide +kernel
theorem dX12_told_10 : decode cX12_told 10 = .ok (.ifCond .eq 70, 3) := by decide +kernel
theorem dX12_told_80 : decode cX12_told 80 = .ok (.iconst (-1), 1) := by decide +kernel
theorem dX12_told_81 : decode cX12_told 81 = .ok (.ireturn, 1) := by decide +kernel
theorem dX12_told_13 : decode cX12_told 13 = .ok (.iload_n 2, 1) := by decide +kernel
theorem dX12_told_14 : decode cX12_told 14 = .ok (.iconst 0, 1) := by decide +kernel
theorem dX12_told_15 : decode cX12_told 15 = .ok (.aload_n 0, 1) := by decide +kernel
theorem dX12_told_16 : decode cX12_told 16 = .ok (.getfield 32, 3) := by decide +kernel
theorem dX12_told_19 : decode cX12_told 19 = .ok (.iload_n 1, 1) := by decide +kernel
theorem dX12_told_20 : decode cX12_told 20 = .ok (.iaload, 1) := by decide +kernel
theorem dX12_told_21 : decode cX12_told 21 = .ok (.invokestatic 188, 3) := by decide +kernel
theorem dX12_told_24 : decode cX12_told 24 = .ok (.ifCond .eq 56, 3) := by decide +kernel
theorem dX12_told_27 : decode cX12_told 27 = .ok (.iload_n 3, 1) := by decide +kernel
theorem dX12_told_28 : decode cX12_told 28 = .ok (.iconst 0, 1) := by decide +kernel
theorem dX12_told_29 : decode cX12_told 29 = .ok (.aload_n 0, 1) := by decide +kernel
theorem dX12_told_30 : decode cX12_told 30 = .ok (.getfield 44, 3) := by decide +kernel
theorem dX12_told_33 : decode cX12_told 33 = .ok (.iload_n 1, 1) := by decide +kernel
theorem dX12_told_34 : decode cX12_told 34 = .ok (.iaload, 1) := by decide +kernel
theorem dX12_told_35 : decode cX12_told 35 = .ok (.iconst 1, 1) := by decide +kernel
theorem dX12_told_36 : decode cX12_told 36 = .ok (.isub, 1) := by decide +kernel
theorem dX12_told_37 : decode cX12_told 37 = .ok (.invokestatic 188, 3) := by decide +kernel
theorem dX12_told_40 : decode cX12_told 40 = .ok (.ifCond .eq 40, 3) := by decide +kernel
theorem dX12_told_43 : decode cX12_told 43 = .ok (.iload 4, 2) := by decide +kernel
theorem dX12_told_45 : decode cX12_told 45 = .ok (.iconst 0, 1) := by decide +kernel
theorem dX12_told_46 : decode cX12_told 46 = .ok (.aload_n 0, 1) := by decide +kernel
theorem dX12_told_47 : decode cX12_told 47 = .ok (.getfield 38, 3) := by decide +kernel
theorem dX12_told_50 : decode cX12_told 50 = .ok (.aload_n 0, 1) := by decide +kernel
theorem dX12_told_51 : decode cX12_told 51 = .ok (.getfield 47, 3) := by decide +kernel
theorem dX12_told_54 : decode cX12_told 54 = .ok (.bipush 12, 2) := by decide +kernel
theorem dX12_told_56 : decode cX12_told 56 = .ok (.iload_n 1, 1) := by decide +kernel
theorem dX12_told_57 : decode cX12_told 57 = .ok (.imul, 1) := by decide +kernel
theorem dX12_told_58 : decode cX12_told 58 = .ok (.iload_n 3, 1) := by decide +kernel
theorem dX12_told_59 : decode cX12_told 59 = .ok (.iadd, 1) := by decide +kernel
theorem dX12_told_60 : decode cX12_told 60 = .ok (.iaload, 1) := by decide +kernel
theorem dX12_told_61 : decode cX12_told 61 = .ok (.iaload, 1) := by decide +kernel
theorem dX12_told_62 : decode cX12_told 62 = .ok (.iconst 1, 1) := by decide +kernel
theorem dX12_told_63 : decode cX12_told 63 = .ok (.isub, 1) := by decide +kernel
theorem dX12_told_64 : decode cX12_told 64 = .ok (.invokestatic 188, 3) := by decide +kernel
theorem dX12_told_67 : decode cX12_told 67 = .ok (.ifCond .eq 13, 3) := by decide +kernel
theorem dX12_told_70 : decode cX12_told 70 = .ok (.iload 5, 2) := by decide +kernel
theorem dX12_told_72 : decode cX12_told 72 = .ok (.iconst 0, 1) := by decide +kernel
theorem dX12_told_73 : decode cX12_told 73 = .ok (.iconst 4, 1) := by decide +kernel
theorem dX12_told_74 : decode cX12_told 74 = .ok (.invokestatic 188, 3) := by decide +kernel
theorem dX12_told_77 : decode cX12_told 77 = .ok (.ifCond .ne 5, 3) := by decide +kernel
theorem dX12_told_82 : decode cX12_told 82 = .ok (.aload_n 0, 1) := by decide +kernel
theorem dX12_told_83 : decode cX12_told 83 = .ok (.iload_n 1, 1) := by decide +kernel
theorem dX12_told_84 : decode cX12_told 84 = .ok (.invokevirtual 430, 3) := by decide +kernel
theorem dX12_told_87 : decode cX12_told 87 = .ok (.sipush 31824, 3) := by decide +kernel
theorem dX12_told_90 : decode cX12_told 90 = .ok (.iload_n 1, 1) := by decide +kernel
theorem dX12_told_91 : decode cX12_told 91 = .ok (.imul, 1) := by decide +kernel
theorem dX12_told_92 : decode cX12_told 92 = .ok (.sipush 144, 3) := by decide +kernel
theorem dX12_told_95 : decode cX12_told 95 = .ok (.iload_n 2, 1) := by decide +kernel
theorem dX12_told_96 : decode cX12_told 96 = .ok (.imul, 1) := by decide +kernel
theorem dX12_told_97 : decode cX12_told 97 = .ok (.iadd, 1) := by decide +kernel
theorem dX12_told_98 : decode cX12_told 98 = .ok (.bipush 12, 2) := by decide +kernel
theorem dX12_told_100 : decode cX12_told 100 = .ok (.iload_n 3, 1) := by decide +kernel
theorem dX12_told_101 : decode cX12_told 101 = .ok (.imul, 1) := by decide +kernel
theorem dX12_told_102 : decode cX12_told 102 = .ok (.iadd, 1) := by decide +kernel
theorem dX12_told_103 : decode cX12_told 103 = .ok (.iload 4, 2) := by decide +kernel
theorem dX12_told_105 : decode cX12_told 105 = .ok (.iadd, 1) := by decide +kernel
theorem dX12_told_106 : decode cX12_told 106 = .ok (.istore 6, 2) := by decide +kernel
theorem dX12_told_108 : decode cX12_told 108 = .ok (.iload 5, 2) := by decide +kernel
theorem dX12_told_110 : decode cX12_told 110 = .ok (.tableswitch 62 0 3 #[30, 38, 46, 54], 30) := by decide +kernel
theorem dX12_told_172 : decode cX12_told 172 = .ok (.aload_n 0, 1) := by decide +kernel
theorem dX12_told_173 : decode cX12_told 173 = .ok (.getfield 111, 3) := by decide +kernel
theorem dX12_told_176 : decode cX12_told 176 = .ok (.iload 6, 2) := by decide +kernel
theorem dX12_told_178 : decode cX12_told 178 = .ok (.iaload, 1) := by decide +kernel
theorem dX12_told_179 : decode cX12_told 179 = .ok (.ireturn, 1) := by decide +kernel
theorem dX12_told_140 : decode cX12_told 140 = .ok (.aload_n 0, 1) := by decide +kernel
theorem dX12_told_141 : decode cX12_told 141 = .ok (.getfield 99, 3) := by decide +kernel
theorem dX12_told_144 : decode cX12_told 144 = .ok (.iload 6, 2) := by decide +kernel
theorem dX12_told_146 : decode cX12_told 146 = .ok (.iaload, 1) := by decide +kernel
theorem dX12_told_147 : decode cX12_told 147 = .ok (.ireturn, 1) := by decide +kernel
theorem dX12_told_148 : decode cX12_told 148 = .ok (.aload_n 0, 1) := by decide +kernel
theorem dX12_told_149 : decode cX12_told 149 = .ok (.getfield 102, 3) := by decide +kernel
theorem dX12_told_152 : decode cX12_told 152 = .ok (.iload 6, 2) := by decide +kernel
theorem dX12_told_154 : decode cX12_told 154 = .ok (.iaload, 1) := by decide +kernel
theorem dX12_told_155 : decode cX12_told 155 = .ok (.ireturn, 1) := by decide +kernel
theorem dX12_told_156 : decode cX12_told 156 = .ok (.aload_n 0, 1) := by decide +kernel
theorem dX12_told_157 : decode cX12_told 157 = .ok (.getfield 108, 3) := by decide +kernel
theorem dX12_told_160 : decode cX12_told 160 = .ok (.iload 6, 2) := by decide +kernel
theorem dX12_told_162 : decode cX12_told 162 = .ok (.iaload, 1) := by decide +kernel
theorem dX12_told_163 : decode cX12_told 163 = .ok (.ireturn, 1) := by decide +kernel
theorem dX12_told_164 : decode cX12_told 164 = .ok (.aload_n 0, 1) := by decide +kernel
theorem dX12_told_165 : decode cX12_told 165 = .ok (.getfield 105, 3) := by decide +kernel
theorem dX12_told_168 : decode cX12_told 168 = .ok (.iload 6, 2) := by decide +kernel
theorem dX12_told_170 : decode cX12_told 170 = .ok (.iaload, 1) := by decide +kernel
theorem dX12_told_171 : decode cX12_told 171 = .ok (.ireturn, 1) := by decide +kernel
set_option maxHeartbeats 4000000 in
set_option maxRecDepth 20000 in
theorem c_X12_told (d : Nat) {b : Nat} {σ : MS} {x : Int} {k : Int} {f : Int} {n : Int} {w : Int} (hR : RG σ) (hit : ITM σ) (hpar : PAR σ) (hnam : NAM σ) (hrt : RTN σ) (hl : LAB σ) (hbo : BO 47 σ) (hbh : BO 48 σ) (hss : SSA σ) (hsc : SCA σ) (h_x : -2147483648 ≤ x ∧ x ≤ 2147483647) (h_k : -2147483648 ≤ k ∧ k ≤ 2147483647) (h_f : -2147483648 ≤ f ∧ f ≤ 2147483647) (h_n : -2147483648 ≤ n ∧ n ≤ 2147483647) (h_w : -2147483648 ≤ w ∧ w ≤ 2147483647) : Tm (d + 6) m_X12_told 0 b σ [(0, .ref b), (1, .int (iI x)), (2, .int (iI k)), (3, .int (iI f)), (4, .int (iI n)), (5, .int (iI w))] [] (fun ro σ2 => ∃ v : Int, ro = some (.int (iI v)) ∧ (Fr [0] [46, 47, 48, 49, 50, 51, 52, 53, 54, 55, 56, 57, 58] [] σ σ2) ∧ (RG σ2) ∧ (LAB σ2) ∧ (BO 47 σ2) ∧ (BO 48 σ2) ∧ (SSA σ2) ∧ (SCA σ2)) := by
  refine tm_aload_n dX12_told_0 rfl 0 rfl ?_
  refine tm_iconst dX12_told_1 ?_
  refine tm_putS (k := 0) (v := 0) lay_12 dX12_told_2 (by decide) fl12_185 rfl (tyX12_ok 0 (by decide)) rfl rfl rfl ?_
  refine tm_aload_n dX12_told_5 rfl 0 rfl ?_
  refine tm_iload_n dX12_told_6 rfl 1 rfl ?_
  refine tm_callV (M := m_X12_told) (pc := 7) (ix := 404) (M' := m_X12_isRoutine) (As := [.int (iI x)]) (rest := []) dX12_told_7 ok_X12_isRoutine im_X12_isRoutine se_X12_isRoutine ml12_404 np_X12_isRoutine rfl rfl (Nat.le_of_ble_eq_true rfl) (Nat.le_of_ble_eq_true rfl) rfl (c_X12_isRoutine (d + 3) (σ := (sS 0 0 σ)) (x := x) (hR.S (by omega)) hrt.1 (by omega)) (fun r1 σ2 hp => ?_)
  obtain ⟨v3, rfl, rfl, f4, f5⟩ := hp
  show Tm _ _ 10 b (sS 0 0 σ) [(0, .ref b), (1, .int (iI x)), (2, .int (iI k)), (3, .int (iI f)), (4, .int (iI n)), (5, .int (iI w))] [.int (iI v3)] _
  have e10 : (sS 0 0 σ).1 10 = σ.1 10 := rfl
  have hrt1 := hrt.1
  refine tm_if_eq (tgt := 80) dX12_told_10 (by decide) ⟨by omega, by omega⟩ (fun h6 => ?_) (fun h6 => ?_)
  · refine tm_iconst dX12_told_80 ?_
    exact tm_iret rfl dX12_told_81 (⟨_, rfl, (Fr.rfl.S (by decide)), (hR.S (by omega)), hl, hbo, hbh, hss, hsc⟩)
  · have hri := hrt.2 x (by omega) (by omega)
    have hof := hri.2.1
    have hok := hri.2.2.1
    have q1 := hof.1
    have q2 := hnam x (by omega) (by omega)
    have q3 := hpar x (by omega) (by omega)
    refine tm_iload_n dX12_told_13 rfl 2 rfl ?_
    refine tm_iconst dX12_told_14 ?_
    refine tm_aload_n dX12_told_15 rfl 0 rfl ?_
    refine tm_get (k := 9) (v := .ref (b + 1 + 7)) lay_12 dX12_told_16 (by decide) fl12_32 rfl ?_
    refine tm_iload_n dX12_told_19 rfl 1 rfl ?_
    refine tm_iald (z := x) (v := σ.2.1 9 x) dX12_told_20 (show mT[7]? = some (9, 0, 13) from rfl) (by omega) (by omega) (by decide) (ra_S (rfl)) ?_
    have g7 := RG.a hR 9 (x)
    refine tm_callS (M := m_X12_told) (pc := 21) (ix := 188) (M' := m_X12_in) (As := [.int (iI k), .int (iI 0), .int (iI (σ.2.1 9 x))]) (rest := []) dX12_told_21 ok_X12_in stt_X12_in ml12_188 np_X12_in rfl (Nat.le_of_ble_eq_true rfl) (Nat.le_of_ble_eq_true rfl) rfl (c_X12_in (d + 4) (σ := (sS 0 0 σ)) (x := k) (lo := 0) (hi := σ.2.1 9 x) (by omega) (by omega) (by omega)) (fun r8 σ9 hp => ?_)
    obtain ⟨v10, rfl, rfl, f11, f12⟩ := hp
    show Tm _ _ 24 b (sS 0 0 σ) [(0, .ref b), (1, .int (iI x)), (2, .int (iI k)), (3, .int (iI f)), (4, .int (iI n)), (5, .int (iI w))] [.int (iI v10)] _
    refine tm_if_eq (tgt := 80) dX12_told_24 (by decide) ⟨by omega, by omega⟩ (fun h13 => ?_) (fun h13 => ?_)
    · refine tm_iconst dX12_told_80 ?_
      exact tm_iret rfl dX12_told_81 (⟨_, rfl, (Fr.rfl.S (by decide)), (hR.S (by omega)), hl, hbo, hbh, hss, hsc⟩)
    · refine tm_iload_n dX12_told_27 rfl 3 rfl ?_
      refine tm_iconst dX12_told_28 ?_
      refine tm_aload_n dX12_told_29 rfl 0 rfl ?_
      refine tm_get (k := 14) (v := .ref (b + 1 + 11)) lay_12 dX12_told_30 (by decide) fl12_44 rfl ?_
      refine tm_iload_n dX12_told_33 rfl 1 rfl ?_
      refine tm_iald (z := x) (v := σ.2.1 14 x) dX12_told_34 (show mT[11]? = some (14, 0, 6) from rfl) (by omega) (by omega) (by decide) (ra_S (rfl)) ?_
      have g14 := RG.a hR 14 (x)
      refine tm_iconst dX12_told_35 ?_
      refine tm_isub dX12_told_36 ?_
      refine tm_callS (M := m_X12_told) (pc := 37) (ix := 188) (M' := m_X12_in) (As := [.int (iI f), .int (iI 0), .int (iI ((σ.2.1 14 x) - 1))]) (rest := []) dX12_told_37 ok_X12_in stt_X12_in ml12_188 np_X12_in rfl (Nat.le_of_ble_eq_true rfl) (Nat.le_of_ble_eq_true rfl) rfl (c_X12_in (d + 4) (σ := (sS 0 0 σ)) (x := f) (lo := 0) (hi := (σ.2.1 14 x) - 1) (by omega) (by omega) (by omega)) (fun r15 σ16 hp => ?_)
      obtain ⟨v17, rfl, rfl, f18, f19⟩ := hp
      show Tm _ _ 40 b (sS 0 0 σ) [(0, .ref b), (1, .int (iI x)), (2, .int (iI k)), (3, .int (iI f)), (4, .int (iI n)), (5, .int (iI w))] [.int (iI v17)] _
      refine tm_if_eq (tgt := 80) dX12_told_40 (by decide) ⟨by omega, by omega⟩ (fun h20 => ?_) (fun h20 => ?_)
      · refine tm_iconst dX12_told_80 ?_
        exact tm_iret rfl dX12_told_81 (⟨_, rfl, (Fr.rfl.S (by decide)), (hR.S (by omega)), hl, hbo, hbh, hss, hsc⟩)
      · have q4 := (hof.2 f (by omega) (by omega)).1
        have q5 := hnam _ q4.1 q4.2
        refine tm_iload dX12_told_43 4 rfl ?_
        refine tm_iconst dX12_told_45 ?_
        refine tm_aload_n dX12_told_46 rfl 0 rfl ?_
        refine tm_get (k := 12) (v := .ref (b + 1 + 9)) lay_12 dX12_told_47 (by decide) fl12_38 rfl ?_
        refine tm_aload_n dX12_told_50 rfl 0 rfl ?_
        refine tm_get (k := 15) (v := .ref (b + 1 + 12)) lay_12 dX12_told_51 (by decide) fl12_47 rfl ?_
        refine tm_bipush dX12_told_54 (by decide) ?_
        refine tm_iload_n dX12_told_56 rfl 1 rfl ?_
        refine tm_imul dX12_told_57 ?_
        refine tm_iload_n dX12_told_58 rfl 3 rfl ?_
        refine tm_iadd dX12_told_59 ?_
        refine tm_iald (z := (12 * x) + f) (v := σ.2.1 15 ((12 * x) + f)) dX12_told_60 (show mT[12]? = some (15, 0, 72) from rfl) (by omega) (by omega) (by decide) (ra_S (rfl)) ?_
        have g21 := RG.a hR 15 ((12 * x) + f)
        refine tm_iald (z := σ.2.1 15 ((12 * x) + f)) (v := σ.2.1 12 (σ.2.1 15 ((12 * x) + f))) dX12_told_61 (show mT[9]? = some (12, 0, 6) from rfl) (by omega) (by omega) (by decide) (ra_S (rfl)) ?_
        have g22 := RG.a hR 12 (σ.2.1 15 ((12 * x) + f))
        refine tm_iconst dX12_told_62 ?_
        refine tm_isub dX12_told_63 ?_
        refine tm_callS (M := m_X12_told) (pc := 64) (ix := 188) (M' := m_X12_in) (As := [.int (iI n), .int (iI 0), .int (iI ((σ.2.1 12 (σ.2.1 15 ((12 * x) + f))) - 1))]) (rest := []) dX12_told_64 ok_X12_in stt_X12_in ml12_188 np_X12_in rfl (Nat.le_of_ble_eq_true rfl) (Nat.le_of_ble_eq_true rfl) rfl (c_X12_in (d + 4) (σ := (sS 0 0 σ)) (x := n) (lo := 0) (hi := (σ.2.1 12 (σ.2.1 15 ((12 * x) + f))) - 1) (by omega) (by omega) (by omega)) (fun r23 σ24 hp => ?_)
        obtain ⟨v25, rfl, rfl, f26, f27⟩ := hp
        show Tm _ _ 67 b (sS 0 0 σ) [(0, .ref b), (1, .int (iI x)), (2, .int (iI k)), (3, .int (iI f)), (4, .int (iI n)), (5, .int (iI w))] [.int (iI v25)] _
        refine tm_if_eq (tgt := 80) dX12_told_67 (by decide) ⟨by omega, by omega⟩ (fun h28 => ?_) (fun h28 => ?_)
        · refine tm_iconst dX12_told_80 ?_
          exact tm_iret rfl dX12_told_81 (⟨_, rfl, (Fr.rfl.S (by decide)), (hR.S (by omega)), hl, hbo, hbh, hss, hsc⟩)
        · refine tm_iload dX12_told_70 5 rfl ?_
          refine tm_iconst dX12_told_72 ?_
          refine tm_iconst dX12_told_73 ?_
          refine tm_callS (M := m_X12_told) (pc := 74) (ix := 188) (M' := m_X12_in) (As := [.int (iI w), .int (iI 0), .int (iI 4)]) (rest := []) dX12_told_74 ok_X12_in stt_X12_in ml12_188 np_X12_in rfl (Nat.le_of_ble_eq_true rfl) (Nat.le_of_ble_eq_true rfl) rfl (c_X12_in (d + 4) (σ := (sS 0 0 σ)) (x := w) (lo := 0) (hi := 4) (by omega) (by omega) (by omega)) (fun r29 σ30 hp => ?_)
          obtain ⟨v31, rfl, rfl, f32, f33⟩ := hp
          show Tm _ _ 77 b (sS 0 0 σ) [(0, .ref b), (1, .int (iI x)), (2, .int (iI k)), (3, .int (iI f)), (4, .int (iI n)), (5, .int (iI w))] [.int (iI v31)] _
          refine tm_if_ne (tgt := 82) dX12_told_77 (by decide) ⟨by omega, by omega⟩ (fun h34 => ?_) (fun h34 => ?_)
          · refine tm_aload_n dX12_told_82 rfl 0 rfl ?_
            refine tm_iload_n dX12_told_83 rfl 1 rfl ?_
            refine tm_callV (M := m_X12_told) (pc := 84) (ix := 430) (M' := m_X12_findStates) (As := [.int (iI x)]) (rest := []) dX12_told_84 ok_X12_findStates im_X12_findStates se_X12_findStates ml12_430 np_X12_findStates rfl rfl (Nat.le_of_ble_eq_true rfl) (Nat.le_of_ble_eq_true rfl) rfl (c_X12_findStates (d) (σ := (sS 0 0 σ)) (r := x) (F := σ.2.1 14 x) (by omega) (hR.S (by omega)) (hit.fr (show Fr [0] [] [] σ (sS 0 0 σ) from (Fr.rfl.S (by decide))) (by decide)) (hpar.fr (show Fr [0] [] [] σ (sS 0 0 σ) from (Fr.rfl.S (by decide))) (by decide)) (hnam.fr (show Fr [0] [] [] σ (sS 0 0 σ) from (Fr.rfl.S (by decide))) (by decide)) (hok.fr (show Fr [0] [] [] σ (sS 0 0 σ) from (Fr.rfl.S (by decide))) (by decide)) (by omega) (hof.fr (show Fr [0] [] [] σ (sS 0 0 σ) from (Fr.rfl.S (by decide))) (by decide)) hri.2.2.2.1 (hl.fr (show Fr [0] [] [] σ (sS 0 0 σ) from (Fr.rfl.S (by decide))) (by decide)) (hbo.fr (show Fr [0] [] [] σ (sS 0 0 σ) from (Fr.rfl.S (by decide))) (by decide)) (hbh.fr (show Fr [0] [] [] σ (sS 0 0 σ) from (Fr.rfl.S (by decide))) (by decide)) (hss.fr (show Fr [0] [] [] σ (sS 0 0 σ) from (Fr.rfl.S (by decide))) (by decide)) (hsc.fr (show Fr [0] [] [] σ (sS 0 0 σ) from (Fr.rfl.S (by decide))) (by decide)) (LEX.fr hri.2.2.2.2 (show Fr [0] [] [] σ (sS 0 0 σ) from (Fr.rfl.S (by decide))) (by decide))) (fun r35 σ36 hp => ?_)
            obtain ⟨rfl, f38, f39, f40, f41, f42, f43, f44⟩ := hp
            show Tm _ _ 87 b σ36 [(0, .ref b), (1, .int (iI x)), (2, .int (iI k)), (3, .int (iI f)), (4, .int (iI n)), (5, .int (iI w))] [] _
            have k2 := f40
            have k3 := f41
            have k4 := f42
            have k5 := f43
            have k6 := f44
            refine tm_sipush dX12_told_87 (by decide) ?_
            refine tm_iload_n dX12_told_90 rfl 1 rfl ?_
            refine tm_imul dX12_told_91 ?_
            refine tm_sipush dX12_told_92 (by decide) ?_
            refine tm_iload_n dX12_told_95 rfl 2 rfl ?_
            refine tm_imul dX12_told_96 ?_
            refine tm_iadd dX12_told_97 ?_
            refine tm_bipush dX12_told_98 (by decide) ?_
            refine tm_iload_n dX12_told_100 rfl 3 rfl ?_
            refine tm_imul dX12_told_101 ?_
            refine tm_iadd dX12_told_102 ?_
            refine tm_iload dX12_told_103 4 rfl ?_
            refine tm_iadd dX12_told_105 ?_
            refine tm_istore (L' := [(6, .int (iI ((((31824 * x) + (144 * k)) + (12 * f)) + n))), (0, .ref b), (1, .int (iI x)), (2, .int (iI k)), (3, .int (iI f)), (4, .int (iI n)), (5, .int (iI w))]) dX12_told_106 (by decide) rfl ?_
            refine tm_iload dX12_told_108 6 rfl ?_
            by_cases h45 : w < 0 ∨ 3 < w
            · refine tm_tableOut (tgt := 172) dX12_told_110 ⟨by omega, by omega⟩ h45 (by decide) ?_
              refine tm_aload_n dX12_told_172 rfl 1 rfl ?_
              refine tm_get (k := 53) (v := .ref (b + 1 + 31)) lay_12 dX12_told_173 (by decide) fl12_111 rfl ?_
              refine tm_iload dX12_told_176 0 rfl ?_
              refine tm_iald (z := (((31824 * x) + (144 * k)) + (12 * f)) + n) (v := σ36.2.1 53 ((((31824 * x) + (144 * k)) + (12 * f)) + n)) dX12_told_178 (show mT[31]? = some (53, 0, 190944) from rfl) (by omega) (by omega) (by decide) (rfl) ?_
              have g46 := RG.a f39 53 ((((31824 * x) + (144 * k)) + (12 * f)) + n)
              exact tm_iret rfl dX12_told_179 (⟨_, rfl, ((Fr.rfl.S (by decide)).trans (Fr.sub f38 (by decide) (by decide) (by decide))), f39, k2, k3, k4, k5, k6⟩)
            · have h45c : w = 0 ∨ w = 1 ∨ w = 2 ∨ w = 3 := by omega
              rcases h45c with h45v | h45v | h45v | h45v
              · refine tm_tableIn (tgt := 140) dX12_told_110 ⟨by omega, by omega⟩ (by omega) (by omega) (show _ = some (30) by rw [h45v]; rfl) (by decide) ?_
                refine tm_aload_n dX12_told_140 rfl 1 rfl ?_
                refine tm_get (k := 49) (v := .ref (b + 1 + 27)) lay_12 dX12_told_141 (by decide) fl12_99 rfl ?_
                refine tm_iload dX12_told_144 0 rfl ?_
                refine tm_iald (z := (((31824 * x) + (144 * k)) + (12 * f)) + n) (v := σ36.2.1 49 ((((31824 * x) + (144 * k)) + (12 * f)) + n)) dX12_told_146 (show mT[27]? = some (49, 0, 190944) from rfl) (by omega) (by omega) (by decide) (rfl) ?_
                have g47 := RG.a f39 49 ((((31824 * x) + (144 * k)) + (12 * f)) + n)
                exact tm_iret rfl dX12_told_147 (⟨_, rfl, ((Fr.rfl.S (by decide)).trans (Fr.sub f38 (by decide) (by decide) (by decide))), f39, k2, k3, k4, k5, k6⟩)
              · refine tm_tableIn (tgt := 148) dX12_told_110 ⟨by omega, by omega⟩ (by omega) (by omega) (show _ = some (38) by rw [h45v]; rfl) (by decide) ?_
                refine tm_aload_n dX12_told_148 rfl 1 rfl ?_
                refine tm_get (k := 50) (v := .ref (b + 1 + 28)) lay_12 dX12_told_149 (by decide) fl12_102 rfl ?_
                refine tm_iload dX12_told_152 0 rfl ?_
                refine tm_iald (z := (((31824 * x) + (144 * k)) + (12 * f)) + n) (v := σ36.2.1 50 ((((31824 * x) + (144 * k)) + (12 * f)) + n)) dX12_told_154 (show mT[28]? = some (50, 0, 190944) from rfl) (by omega) (by omega) (by decide) (rfl) ?_
                have g48 := RG.a f39 50 ((((31824 * x) + (144 * k)) + (12 * f)) + n)
                exact tm_iret rfl dX12_told_155 (⟨_, rfl, ((Fr.rfl.S (by decide)).trans (Fr.sub f38 (by decide) (by decide) (by decide))), f39, k2, k3, k4, k5, k6⟩)
              · refine tm_tableIn (tgt := 156) dX12_told_110 ⟨by omega, by omega⟩ (by omega) (by omega) (show _ = some (46) by rw [h45v]; rfl) (by decide) ?_
                refine tm_aload_n dX12_told_156 rfl 1 rfl ?_
                refine tm_get (k := 52) (v := .ref (b + 1 + 30)) lay_12 dX12_told_157 (by decide) fl12_108 rfl ?_
                refine tm_iload dX12_told_160 0 rfl ?_
                refine tm_iald (z := (((31824 * x) + (144 * k)) + (12 * f)) + n) (v := σ36.2.1 52 ((((31824 * x) + (144 * k)) + (12 * f)) + n)) dX12_told_162 (show mT[30]? = some (52, 0, 190944) from rfl) (by omega) (by omega) (by decide) (rfl) ?_
                have g49 := RG.a f39 52 ((((31824 * x) + (144 * k)) + (12 * f)) + n)
                exact tm_iret rfl dX12_told_163 (⟨_, rfl, ((Fr.rfl.S (by decide)).trans (Fr.sub f38 (by decide) (by decide) (by decide))), f39, k2, k3, k4, k5, k6⟩)
              · refine tm_tableIn (tgt := 164) dX12_told_110 ⟨by omega, by omega⟩ (by omega) (by omega) (show _ = some (54) by rw [h45v]; rfl) (by decide) ?_
                refine tm_aload_n dX12_told_164 rfl 1 rfl ?_
                refine tm_get (k := 51) (v := .ref (b + 1 + 29)) lay_12 dX12_told_165 (by decide) fl12_105 rfl ?_
                refine tm_iload dX12_told_168 0 rfl ?_
                refine tm_iald (z := (((31824 * x) + (144 * k)) + (12 * f)) + n) (v := σ36.2.1 51 ((((31824 * x) + (144 * k)) + (12 * f)) + n)) dX12_told_170 (show mT[29]? = some (51, 0, 190944) from rfl) (by omega) (by omega) (by decide) (rfl) ?_
                have g50 := RG.a f39 51 ((((31824 * x) + (144 * k)) + (12 * f)) + n)
                exact tm_iret rfl dX12_told_171 (⟨_, rfl, ((Fr.rfl.S (by decide)).trans (Fr.sub f38 (by decide) (by decide) (by decide))), f39, k2, k3, k4, k5, k6⟩)
          · refine tm_iconst dX12_told_80 ?_
            exact tm_iret rfl dX12_told_81 (⟨_, rfl, (Fr.rfl.S (by decide)), (hR.S (by omega)), hl, hbo, hbh, hss, hsc⟩)
end
section
def CLO (σ : MS) (r k : Int) : Prop := ∀ j, 0 ≤ j → j < k → σ.2.1 47 j = 1 → (¬ (σ.2.1 3 (220 * r + j) = 8 ∨ σ.2.1 3 (220 * r + j) = 7) → σ.2.1 47 (j + 1) = 1) ∧ ((σ.2.1 3 (220 * r + j) = 8 ∨ σ.2.1 3 (220 * r + j) = 9) → σ.2.1 47 (σ.2.1 46 (σ.2.1 4 (220 * r + j))) = 1)
def MNR (σ : MS) (r n : Int) : Prop := ∀ k, 0 < k → k ≤ n → σ.2.1 47 k = 1 → (k < n ∧ σ.2.1 3 (220 * r + k) = 13) ∨ (σ.2.1 47 (k - 1) = 1 ∧ ¬ (σ.2.1 3 (220 * r + (k - 1)) = 8 ∨ σ.2.1 3 (220 * r + (k - 1)) = 7))
theorem MNR.put {σ : MS} {r n t : Int} (h : MNR σ r n) (ht : (t < n ∧ σ.2.1 3 (220 * r + t) = 13) ∨ (σ.2.1 47 (t - 1) = 1 ∧ ¬ (σ.2.1 3 (220 * r + (t - 1)) = 8 ∨ σ.2.1 3 (220 * r + (t - 1)) = 7))) : MNR (sA 47 t 1 σ) r n := fun k a c e => by
  have e3 : (sA 47 t 1 σ).2.1 3 = σ.2.1 3 := rfl
  have up : ∀ j, σ.2.1 47 j = 1 → (sA 47 t 1 σ).2.1 47 j = 1 := fun j q => by
    by_cases z : j = t
    · subst z; exact ra_eq
    · exact ra_ne z q
  rw [e3]
  by_cases z : k = t
  · subst z
    rcases ht with q | q
    · exact Or.inl q
    · exact Or.inr ⟨up _ q.1, q.2⟩
  · rw [show (sA 47 t 1 σ).2.1 47 k = σ.2.1 47 k from ra_ne z rfl] at e
    rcases h k a c e with q | q
    · exact Or.inl q
    · exact Or.inr ⟨up _ q.1, q.2⟩

theorem dX12_findReached_55 : decode cX12_findReached 55 = .ok (.iload 4, 2) := by decide +kernel
theorem dX12_findReached_57 : decode cX12_findReached 57 = .ok (.iconst 2, 1) := by decide +kernel
theorem dX12_findReached_58 : decode cX12_findReached 58 = .ok (.if_icmp .ge 54, 3) := by decide +kernel
theorem dX12_findReached_61 : decode cX12_findReached 61 = .ok (.aload_n 0, 1) := by decide +kernel
theorem dX12_findReached_62 : decode cX12_findReached 62 = .ok (.getfield 91, 3) := by decide +kernel
theorem dX12_findReached_65 : decode cX12_findReached 65 = .ok (.iload_n 3, 1) := by decide +kernel
theorem dX12_findReached_66 : decode cX12_findReached 66 = .ok (.baload, 1) := by decide +kernel
theorem dX12_findReached_67 : decode cX12_findReached 67 = .ok (.ifCond .eq 45, 3) := by decide +kernel
theorem dX12_findReached_70 : decode cX12_findReached 70 = .ok (.aload_n 0, 1) := by decide +kernel
theorem dX12_findReached_71 : decode cX12_findReached 71 = .ok (.iload_n 1, 1) := by decide +kernel
theorem dX12_findReached_72 : decode cX12_findReached 72 = .ok (.iload_n 3, 1) := by decide +kernel
theorem dX12_findReached_73 : decode cX12_findReached 73 = .ok (.iload 4, 2) := by decide +kernel
theorem dX12_findReached_75 : decode cX12_findReached 75 = .ok (.invokevirtual 413, 3) := by decide +kernel
theorem dX12_findReached_78 : decode cX12_findReached 78 = .ok (.istore 5, 2) := by decide +kernel
theorem dX12_findReached_80 : decode cX12_findReached 80 = .ok (.iload 5, 2) := by decide +kernel
theorem dX12_findReached_82 : decode cX12_findReached 82 = .ok (.iconst (-1), 1) := by decide +kernel
theorem dX12_findReached_83 : decode cX12_findReached 83 = .ok (.if_icmp .eq 23, 3) := by decide +kernel
theorem dX12_findReached_106 : decode cX12_findReached 106 = .ok (.iinc 4 1, 3) := by decide +kernel
theorem dX12_findReached_109 : decode cX12_findReached 109 = .ok (.goto (-54), 3) := by decide +kernel
theorem dX12_findReached_86 : decode cX12_findReached 86 = .ok (.aload_n 0, 1) := by decide +kernel
theorem dX12_findReached_87 : decode cX12_findReached 87 = .ok (.getfield 91, 3) := by decide +kernel
theorem dX12_findReached_90 : decode cX12_findReached 90 = .ok (.iload 5, 2) := by decide +kernel
theorem dX12_findReached_92 : decode cX12_findReached 92 = .ok (.baload, 1) := by decide +kernel
theorem dX12_findReached_93 : decode cX12_findReached 93 = .ok (.ifCond .ne 13, 3) := by decide +kernel
theorem dX12_findReached_96 : decode cX12_findReached 96 = .ok (.aload_n 0, 1) := by decide +kernel
theorem dX12_findReached_97 : decode cX12_findReached 97 = .ok (.getfield 91, 3) := by decide +kernel
theorem dX12_findReached_100 : decode cX12_findReached 100 = .ok (.iload 5, 2) := by decide +kernel
theorem dX12_findReached_102 : decode cX12_findReached 102 = .ok (.iconst 1, 1) := by decide +kernel
theorem dX12_findReached_103 : decode cX12_findReached 103 = .ok (.bastore, 1) := by decide +kernel
theorem dX12_findReached_104 : decode cX12_findReached 104 = .ok (.iconst 1, 1) := by decide +kernel
theorem dX12_findReached_105 : decode cX12_findReached 105 = .ok (.istore_n 2, 1) := by decide +kernel
set_option maxHeartbeats 4000000 in
set_option maxRecDepth 20000 in
theorem l_rch4 (d : Nat) {b : Nat} {σ0 : MS} {r : Int} {m : Int} {k : Int} {C0 : Int} {post : Option Value → MS → Prop} (hr : 0 ≤ r ∧ r < 6) (hR0 : RG σ0) (hit : ITM σ0) (hjm : JMP σ0 r) (htg : TGT σ0 r) (hm : m = σ0.2.1 9 r) (hk : 0 ≤ k ∧ k < m) (hx_112 : ∀ (w : Int) (i : Int) (σ : MS) , (Fr [] [47] [] σ0 σ) → (RG σ) → (w = 0 ∨ w = 1) → (BO 47 σ) → (σ.2.1 47 0 = 1) → (MNR σ r m) → ((cz (σ.2.1 47) 221 : Int) + w ≤ C0) → (w = 0 → CLO σ r (k + 1)) → Tm (d + 3) m_X12_findReached 112 b σ [(4, .int (iI i)), (3, .int (iI k)), (2, .int (iI w)), (0, .ref b), (1, .int (iI r))] [] post) : ∀ (n : Nat) (w : Int) (i : Int) (σ : MS) , (Fr [] [47] [] σ0 σ) → (RG σ) → ((w = 0 ∨ w = 1) ∧ 0 ≤ i ∧ i ≤ 2) → (BO 47 σ) → (σ.2.1 47 0 = 1) → (MNR σ r m) → ((cz (σ.2.1 47) 221 : Int) + w ≤ C0) → (w = 0 → CLO σ r k) → (w = 0 → 1 ≤ i → σ.2.1 47 k = 1 → ¬ (σ.2.1 3 (220 * r + k) = 8 ∨ σ.2.1 3 (220 * r + k) = 7) → σ.2.1 47 (k + 1) = 1) → (w = 0 → 2 ≤ i → σ.2.1 47 k = 1 → (σ.2.1 3 (220 * r + k) = 8 ∨ σ.2.1 3 (220 * r + k) = 9) → σ.2.1 47 (σ.2.1 46 (σ.2.1 4 (220 * r + k))) = 1) → (2 - i).toNat = n → Tm (d + 3) m_X12_findReached 55 b σ [(4, .int (iI i)), (3, .int (iI k)), (2, .int (iI w)), (0, .ref b), (1, .int (iI r))] [] post := by
  intro n
  induction n using Nat.strongRecOn with
  | _ n ih =>
    intro w i σ hF hR h0 hbo hz hmn hcn hcl hp0 hp1 hm
    have hit1 := hit.fr hF (by decide)
    have hjm1 := hjm.fr hF (by decide)
    have htg1 := htg.fr hF (by decide)
    have q1 := hit r (by omega) (by omega)
    have q9 : σ.2.1 9 r = σ0.2.1 9 r := by rw [hF.2.1 9 (by decide)]
    have e3 : σ.2.1 3 = σ0.2.1 3 := hF.2.1 3 (by decide)
    have e4 : σ.2.1 4 = σ0.2.1 4 := hF.2.1 4 (by decide)
    have e46 : σ.2.1 46 = σ0.2.1 46 := hF.2.1 46 (by decide)
    have q5 := htg1 k (by omega) (by omega)
    have q3 := congrFun e3 (220 * r + k)
    refine tm_iload dX12_findReached_55 0 rfl ?_
    refine tm_iconst dX12_findReached_57 ?_
    refine tm_icmp_ge (tgt := 112) dX12_findReached_58 (by decide) ⟨by omega, by omega⟩ ⟨by decide, by decide⟩ (fun h1 => ?_) (fun h1 => ?_)
    · exact tm_sub [0, 1, 2, 3, 4] rfl (hx_112 (w) (i) σ (Fr.rfl.trans (Fr.sub hF (by decide) (by decide) (by decide))) hR (by omega) hbo hz hmn hcn (fun e j a c g => by
          by_cases z : j = k
          · subst z; exact ⟨fun q => hp0 e (by omega) g q, fun q => hp1 e (by omega) g q⟩
          · exact hcl e j a (by omega) g))
    · refine tm_aload_n dX12_findReached_61 rfl 3 rfl ?_
      refine tm_get (k := 47) (v := .ref (b + 1 + 25)) lay_12 dX12_findReached_62 (by decide) fl12_91 rfl ?_
      refine tm_iload_n dX12_findReached_65 rfl 1 rfl ?_
      refine tm_zald (z := k) (v := σ.2.1 47 k) dX12_findReached_66 (show mT[25]? = some (47, 2, 221) from rfl) (by omega) (by omega) (by decide) (rfl) ?_
      have g2 := RG.a hR 47 (k)
      have := hbo (k)
      refine tm_if_eq (tgt := 112) dX12_findReached_67 (by decide) ⟨by omega, by omega⟩ (fun h3 => ?_) (fun h3 => ?_)
      · exact tm_sub [0, 1, 2, 3, 4] rfl (hx_112 (w) (i) σ (Fr.rfl.trans (Fr.sub hF (by decide) (by decide) (by decide))) hR (by omega) hbo hz hmn hcn (fun e j a c g => by
          by_cases z : j = k
          · subst z; exact ⟨fun q => hp0 e (by omega) g q, fun q => hp1 e (by omega) g q⟩
          · exact hcl e j a (by omega) g))
      · refine tm_aload_n dX12_findReached_70 rfl 3 rfl ?_
        refine tm_iload_n dX12_findReached_71 rfl 4 rfl ?_
        refine tm_iload_n dX12_findReached_72 rfl 1 rfl ?_
        refine tm_iload dX12_findReached_73 0 rfl ?_
        refine tm_callV (M := m_X12_findReached) (pc := 75) (ix := 413) (M' := m_X12_goesOn) (As := [.int (iI r), .int (iI k), .int (iI i)]) (rest := []) dX12_findReached_75 ok_X12_goesOn im_X12_goesOn se_X12_goesOn ml12_413 np_X12_goesOn rfl rfl (Nat.le_of_ble_eq_true rfl) (Nat.le_of_ble_eq_true rfl) rfl (c_X12_goesOn (d) (σ := σ) (r := r) (k := k) (how := i) (by omega) hR (by omega) (fun q => hjm1 _ (by omega) (by omega) (by omega)) (by omega)) (fun r4 σ5 hp => ?_)
        obtain ⟨v6, rfl, rfl, f7, f8, f9, f10⟩ := hp
        show Tm _ _ 78 b σ [(4, .int (iI i)), (3, .int (iI k)), (2, .int (iI w)), (0, .ref b), (1, .int (iI r))] [.int (iI v6)] _
        refine tm_istore (L' := [(5, .int (iI v6)), (4, .int (iI i)), (3, .int (iI k)), (2, .int (iI w)), (0, .ref b), (1, .int (iI r))]) dX12_findReached_78 (by decide) rfl ?_
        refine tm_iload dX12_findReached_80 0 rfl ?_
        refine tm_iconst dX12_findReached_82 ?_
        refine tm_icmp_eq (tgt := 106) dX12_findReached_83 (by decide) ⟨by omega, by omega⟩ ⟨by decide, by decide⟩ (fun h11 => ?_) (fun h11 => ?_)
        · refine tm_iinc (q0 := 1) (L' := [(4, .int (iI (i + 1))), (5, .int (iI v6)), (3, .int (iI k)), (2, .int (iI w)), (0, .ref b), (1, .int (iI r))]) dX12_findReached_106 rfl (by decide) rfl ?_
          refine tm_goto (tgt := 55) dX12_findReached_109 (by decide) ?_
          exact tm_sub [0, 2, 3, 4, 5] rfl (ih _ (by omega) (w) (i + 1) σ (Fr.rfl.trans (Fr.sub hF (by decide) (by decide) (by decide))) hR (by omega) hbo hz hmn (by omega) hcl (fun e a g q => by
            by_cases z : i = 0
            · have hv : v6 = k + 1 := by omega
              rw [← hv]; omega
            · exact hp0 e (by omega) g q) (fun e a g q => by
            have hv : v6 = σ.2.1 46 (σ.2.1 4 (220 * r + k)) := by omega
            have := q5 q
            rw [← hv]; omega) rfl)
        · refine tm_aload_n dX12_findReached_86 rfl 4 rfl ?_
          refine tm_get (k := 47) (v := .ref (b + 1 + 25)) lay_12 dX12_findReached_87 (by decide) fl12_91 rfl ?_
          refine tm_iload dX12_findReached_90 0 rfl ?_
          refine tm_zald (z := v6) (v := σ.2.1 47 v6) dX12_findReached_92 (show mT[25]? = some (47, 2, 221) from rfl) (by omega) (by omega) (by decide) (rfl) ?_
          have g12 := RG.a hR 47 (v6)
          have := hbo (v6)
          refine tm_if_ne (tgt := 106) dX12_findReached_93 (by decide) ⟨by omega, by omega⟩ (fun h13 => ?_) (fun h13 => ?_)
          · refine tm_iinc (q0 := 1) (L' := [(4, .int (iI (i + 1))), (5, .int (iI v6)), (3, .int (iI k)), (2, .int (iI w)), (0, .ref b), (1, .int (iI r))]) dX12_findReached_106 rfl (by decide) rfl ?_
            refine tm_goto (tgt := 55) dX12_findReached_109 (by decide) ?_
            exact tm_sub [0, 2, 3, 4, 5] rfl (ih _ (by omega) (w) (i + 1) σ (Fr.rfl.trans (Fr.sub hF (by decide) (by decide) (by decide))) hR (by omega) hbo hz hmn (by omega) hcl (fun e a g q => by
            by_cases z : i = 0
            · have hv : v6 = k + 1 := by omega
              rw [← hv]; omega
            · exact hp0 e (by omega) g q) (fun e a g q => by
            have hv : v6 = σ.2.1 46 (σ.2.1 4 (220 * r + k)) := by omega
            have := q5 q
            rw [← hv]; omega) rfl)
          · refine tm_aload_n dX12_findReached_96 rfl 4 rfl ?_
            refine tm_get (k := 47) (v := .ref (b + 1 + 25)) lay_12 dX12_findReached_97 (by decide) fl12_91 rfl ?_
            refine tm_iload dX12_findReached_100 0 rfl ?_
            refine tm_iconst dX12_findReached_102 ?_
            refine tm_zast (z := v6) (v := 1) dX12_findReached_103 (show mT[25]? = some (47, 2, 221) from rfl) (by omega) (by omega) (by decide) (by omega) ?_
            refine tm_iconst dX12_findReached_104 ?_
            refine tm_istore_n (L' := [(2, .int (iI 1)), (5, .int (iI v6)), (4, .int (iI i)), (3, .int (iI k)), (0, .ref b), (1, .int (iI r))]) dX12_findReached_105 rfl (by decide) rfl ?_
            refine tm_iinc (q0 := 2) (L' := [(4, .int (iI (i + 1))), (2, .int (iI 1)), (5, .int (iI v6)), (3, .int (iI k)), (0, .ref b), (1, .int (iI r))]) dX12_findReached_106 rfl (by decide) rfl ?_
            refine tm_goto (tgt := 55) dX12_findReached_109 (by decide) ?_
            exact tm_sub [0, 3, 1, 4, 5] rfl (ih _ (by omega) (1) (i + 1) (sA 47 (v6) (1) σ) ((Fr.rfl.trans (Fr.sub hF (by decide) (by decide) (by decide))).A (by decide)) (hR.A (by omega)) (by omega) (hbo.A (by omega)) (by
            by_cases z : (0 : Int) = v6
            · rw [z]; exact ra_eq
            · exact ra_ne z hz) (hmn.put (by
            by_cases z : i = 1
            · left; have hv : v6 = σ.2.1 46 (σ.2.1 4 (220 * r + k)) := by omega
              rw [hv]; have := q5 (by omega); exact ⟨by omega, this.2.2⟩
            · right; have hv : v6 = k + 1 := by omega
              rw [hv, show k + 1 - 1 = k by omega]; exact ⟨by omega, by omega⟩)) (by have hcz := cz_sA (σ := σ) (k := 47) (n := 221) (z := v6) (v := 1) (by omega) (by omega) (by omega) (by decide); omega) (fun e => absurd e (by decide)) (fun e => absurd e (by decide)) (fun e => absurd e (by decide)) rfl)
theorem dX12_findReached_42 : decode cX12_findReached 42 = .ok (.iload_n 3, 1) := by decide +kernel
theorem dX12_findReached_43 : decode cX12_findReached 43 = .ok (.aload_n 0, 1) := by decide +kernel
theorem dX12_findReached_44 : decode cX12_findReached 44 = .ok (.getfield 32, 3) := by decide +kernel
theorem dX12_findReached_47 : decode cX12_findReached 47 = .ok (.iload_n 1, 1) := by decide +kernel
theorem dX12_findReached_48 : decode cX12_findReached 48 = .ok (.iaload, 1) := by decide +kernel
theorem dX12_findReached_49 : decode cX12_findReached 49 = .ok (.if_icmp .ge 69, 3) := by decide +kernel
theorem dX12_findReached_52 : decode cX12_findReached 52 = .ok (.iconst 0, 1) := by decide +kernel
theorem dX12_findReached_53 : decode cX12_findReached 53 = .ok (.istore 4, 2) := by decide +kernel
theorem dX12_findReached_112 : decode cX12_findReached 112 = .ok (.iinc 3 1, 3) := by decide +kernel
theorem dX12_findReached_115 : decode cX12_findReached 115 = .ok (.goto (-73), 3) := by decide +kernel
set_option maxHeartbeats 4000000 in
set_option maxRecDepth 20000 in
theorem l_rch3 (d : Nat) {b : Nat} {σ0 : MS} {r : Int} {m : Int} {C0 : Int} {post : Option Value → MS → Prop} (hr : 0 ≤ r ∧ r < 6) (hR0 : RG σ0) (hit : ITM σ0) (hjm : JMP σ0 r) (htg : TGT σ0 r) (hm : m = σ0.2.1 9 r) (hx_118 : ∀ (w : Int) (k : Int) (σ : MS) , (Fr [] [47] [] σ0 σ) → (RG σ) → (w = 0 ∨ w = 1) → (BO 47 σ) → (σ.2.1 47 0 = 1) → (MNR σ r m) → ((cz (σ.2.1 47) 221 : Int) + w ≤ C0) → (w = 0 → CLO σ r m) → Tm (d + 3) m_X12_findReached 118 b σ [(3, .int (iI k)), (2, .int (iI w)), (0, .ref b), (1, .int (iI r))] [] post) : ∀ (n : Nat) (w : Int) (k : Int) (σ : MS) , (Fr [] [47] [] σ0 σ) → (RG σ) → ((w = 0 ∨ w = 1) ∧ 0 ≤ k ∧ k ≤ m) → (BO 47 σ) → (σ.2.1 47 0 = 1) → (MNR σ r m) → ((cz (σ.2.1 47) 221 : Int) + w ≤ C0) → (w = 0 → CLO σ r k) → (m - k).toNat = n → Tm (d + 3) m_X12_findReached 42 b σ [(3, .int (iI k)), (2, .int (iI w)), (0, .ref b), (1, .int (iI r))] [] post := by
  intro n
  induction n using Nat.strongRecOn with
  | _ n ih =>
    intro w k σ hF hR h0 hbo hz hmn hcn hcl hm
    have hit1 := hit.fr hF (by decide)
    have hjm1 := hjm.fr hF (by decide)
    have htg1 := htg.fr hF (by decide)
    have q1 := hit r (by omega) (by omega)
    have q9 : σ.2.1 9 r = σ0.2.1 9 r := by rw [hF.2.1 9 (by decide)]
    have e3 : σ.2.1 3 = σ0.2.1 3 := hF.2.1 3 (by decide)
    have e4 : σ.2.1 4 = σ0.2.1 4 := hF.2.1 4 (by decide)
    have e46 : σ.2.1 46 = σ0.2.1 46 := hF.2.1 46 (by decide)
    refine tm_iload_n dX12_findReached_42 rfl 0 rfl ?_
    refine tm_aload_n dX12_findReached_43 rfl 2 rfl ?_
    refine tm_get (k := 9) (v := .ref (b + 1 + 7)) lay_12 dX12_findReached_44 (by decide) fl12_32 rfl ?_
    refine tm_iload_n dX12_findReached_47 rfl 3 rfl ?_
    refine tm_iald (z := r) (v := σ0.2.1 9 r) dX12_findReached_48 (show mT[7]? = some (9, 0, 13) from rfl) (by omega) (by omega) (by decide) (ra_F hF (by decide) (rfl)) ?_
    have g1 := RG.a hR0 9 (r)
    refine tm_icmp_ge (tgt := 118) dX12_findReached_49 (by decide) ⟨by omega, by omega⟩ ⟨by omega, by omega⟩ (fun h2 => ?_) (fun h2 => ?_)
    · exact tm_sub [0, 1, 2, 3] rfl (hx_118 (w) (k) σ (Fr.rfl.trans (Fr.sub hF (by decide) (by decide) (by decide))) hR (by omega) hbo hz hmn hcn (fun e j a c => hcl e j a (by omega)))
    · refine tm_iconst dX12_findReached_52 ?_
      refine tm_istore (L' := [(4, .int (iI 0)), (3, .int (iI k)), (2, .int (iI w)), (0, .ref b), (1, .int (iI r))]) dX12_findReached_53 (by decide) rfl ?_
      refine tm_sub [0, 1, 2, 3, 4] rfl (l_rch4 (d) (σ0 := σ) (r := r) (k := k) (m := m) (C0 := C0) hr hR hit1 hjm1 htg1 (by omega) (by omega) (fun w14 i15 σ16 F6 R7 f8 f9 f10 f11 f12 f13 => ?_) _ (w) (0) σ Fr.rfl hR (by omega) hbo hz hmn (by omega) hcl (fun e a => by omega) (fun e a => by omega) rfl)
      show Tm _ _ 112 b σ16 [(4, .int (iI i15)), (3, .int (iI k)), (2, .int (iI w14)), (0, .ref b), (1, .int (iI r))] [] _
      refine tm_iinc (q0 := 1) (L' := [(3, .int (iI (k + 1))), (4, .int (iI i15)), (2, .int (iI w14)), (0, .ref b), (1, .int (iI r))]) dX12_findReached_112 rfl (by decide) rfl ?_
      refine tm_goto (tgt := 42) dX12_findReached_115 (by decide) ?_
      exact tm_sub [0, 2, 3, 4] rfl (ih _ (by omega) (w14) (k + 1) σ16 ((Fr.rfl.trans (Fr.sub hF (by decide) (by decide) (by decide))).trans (Fr.sub F6 (by decide) (by decide) (by decide))) R7 (by omega) (by assumption) (by assumption) (by assumption) (by omega) (by assumption) rfl)
theorem dX12_findReached_34 : decode cX12_findReached 34 = .ok (.iload_n 2, 1) := by decide +kernel
theorem dX12_findReached_35 : decode cX12_findReached 35 = .ok (.ifCond .eq 86, 3) := by decide +kernel
theorem dX12_findReached_38 : decode cX12_findReached 38 = .ok (.iconst 0, 1) := by decide +kernel
theorem dX12_findReached_39 : decode cX12_findReached 39 = .ok (.istore_n 2, 1) := by decide +kernel
theorem dX12_findReached_40 : decode cX12_findReached 40 = .ok (.iconst 0, 1) := by decide +kernel
theorem dX12_findReached_41 : decode cX12_findReached 41 = .ok (.istore_n 3, 1) := by decide +kernel
theorem dX12_findReached_118 : decode cX12_findReached 118 = .ok (.goto (-84), 3) := by decide +kernel
set_option maxHeartbeats 4000000 in
set_option maxRecDepth 20000 in
theorem l_rch2 (d : Nat) {b : Nat} {σ0 : MS} {r : Int} {m : Int} {post : Option Value → MS → Prop} (hr : 0 ≤ r ∧ r < 6) (hR0 : RG σ0) (hit : ITM σ0) (hjm : JMP σ0 r) (htg : TGT σ0 r) (hm : m = σ0.2.1 9 r) (hx_121 : ∀ (w : Int) (σ : MS) , (Fr [] [47] [] σ0 σ) → (RG σ) → (BO 47 σ) → (σ.2.1 47 0 = 1) → (MNR σ r m) → (CLO σ r m) → Tm (d + 3) m_X12_findReached 121 b σ [(2, .int (iI w)), (0, .ref b), (1, .int (iI r))] [] post) : ∀ (n : Nat) (w : Int) (σ : MS) , (Fr [] [47] [] σ0 σ) → (RG σ) → (w = 0 ∨ w = 1) → (BO 47 σ) → (σ.2.1 47 0 = 1) → (MNR σ r m) → (w = 0 → CLO σ r m) → ((cz (σ.2.1 47) 221 : Int) + w).toNat = n → Tm (d + 3) m_X12_findReached 34 b σ [(2, .int (iI w)), (0, .ref b), (1, .int (iI r))] [] post := by
  intro n
  induction n using Nat.strongRecOn with
  | _ n ih =>
    intro w σ hF hR h0 hbo hz hmn hcl hm
    have hit1 := hit.fr hF (by decide)
    have hjm1 := hjm.fr hF (by decide)
    have htg1 := htg.fr hF (by decide)
    have q1 := hit r (by omega) (by omega)
    have q9 : σ.2.1 9 r = σ0.2.1 9 r := by rw [hF.2.1 9 (by decide)]
    have e3 : σ.2.1 3 = σ0.2.1 3 := hF.2.1 3 (by decide)
    have e4 : σ.2.1 4 = σ0.2.1 4 := hF.2.1 4 (by decide)
    have e46 : σ.2.1 46 = σ0.2.1 46 := hF.2.1 46 (by decide)
    refine tm_iload_n dX12_findReached_34 rfl 0 rfl ?_
    refine tm_if_eq (tgt := 121) dX12_findReached_35 (by decide) ⟨by omega, by omega⟩ (fun h1 => ?_) (fun h1 => ?_)
    · exact tm_sub [0, 1, 2] rfl (hx_121 (w) σ (Fr.rfl.trans (Fr.sub hF (by decide) (by decide) (by decide))) hR hbo hz hmn (hcl (by omega)))
    · refine tm_iconst dX12_findReached_38 ?_
      refine tm_istore_n (L' := [(2, .int (iI 0)), (0, .ref b), (1, .int (iI r))]) dX12_findReached_39 rfl (by decide) rfl ?_
      refine tm_iconst dX12_findReached_40 ?_
      refine tm_istore_n (L' := [(3, .int (iI 0)), (2, .int (iI 0)), (0, .ref b), (1, .int (iI r))]) dX12_findReached_41 rfl (by decide) rfl ?_
      refine tm_sub [0, 1, 2, 3] rfl (l_rch3 (d) (σ0 := σ) (r := r) (m := m) (C0 := (cz (σ.2.1 47) 221 : Int)) hr hR hit1 hjm1 htg1 (by omega) (fun w13 k14 σ15 F5 R6 f7 f8 f9 f10 f11 f12 => ?_) _ (0) (0) σ Fr.rfl hR (by omega) hbo hz hmn (by omega) (fun e j a c => by omega) rfl)
      show Tm _ _ 118 b σ15 [(3, .int (iI k14)), (2, .int (iI w13)), (0, .ref b), (1, .int (iI r))] [] _
      refine tm_goto (tgt := 34) dX12_findReached_118 (by decide) ?_
      exact tm_sub [1, 2, 3] rfl (ih _ (by omega) (w13) σ15 ((Fr.rfl.trans (Fr.sub hF (by decide) (by decide) (by decide))).trans (Fr.sub F5 (by decide) (by decide) (by decide))) R6 (by omega) (by assumption) (by assumption) (by assumption) (by assumption) rfl)
theorem dX12_findReached_2 : decode cX12_findReached 2 = .ok (.iload_n 2, 1) := by decide +kernel
theorem dX12_findReached_3 : decode cX12_findReached 3 = .ok (.aload_n 0, 1) := by decide +kernel
theorem dX12_findReached_4 : decode cX12_findReached 4 = .ok (.getfield 32, 3) := by decide +kernel
theorem dX12_findReached_7 : decode cX12_findReached 7 = .ok (.iload_n 1, 1) := by decide +kernel
theorem dX12_findReached_8 : decode cX12_findReached 8 = .ok (.iaload, 1) := by decide +kernel
theorem dX12_findReached_9 : decode cX12_findReached 9 = .ok (.if_icmp .gt 16, 3) := by decide +kernel
theorem dX12_findReached_12 : decode cX12_findReached 12 = .ok (.aload_n 0, 1) := by decide +kernel
theorem dX12_findReached_13 : decode cX12_findReached 13 = .ok (.getfield 91, 3) := by decide +kernel
theorem dX12_findReached_16 : decode cX12_findReached 16 = .ok (.iload_n 2, 1) := by decide +kernel
theorem dX12_findReached_17 : decode cX12_findReached 17 = .ok (.iconst 0, 1) := by decide +kernel
theorem dX12_findReached_18 : decode cX12_findReached 18 = .ok (.bastore, 1) := by decide +kernel
theorem dX12_findReached_19 : decode cX12_findReached 19 = .ok (.iinc 2 1, 3) := by decide +kernel
theorem dX12_findReached_22 : decode cX12_findReached 22 = .ok (.goto (-20), 3) := by decide +kernel
set_option maxHeartbeats 4000000 in
set_option maxRecDepth 20000 in
theorem l_rch1 (d : Nat) {b : Nat} {σ0 : MS} {r : Int} {post : Option Value → MS → Prop} (hr : 0 ≤ r ∧ r < 6) (hR0 : RG σ0) (hit : 0 ≤ σ0.2.1 9 r ∧ σ0.2.1 9 r ≤ 220) (hx_25 : ∀ (k : Int) (σ : MS) , (Fr [] [47] [] σ0 σ) → (RG σ) → (BO 47 σ) → (∀ j, 0 ≤ j → j ≤ σ0.2.1 9 r → σ.2.1 47 j = 0) → Tm (d + 1) m_X12_findReached 25 b σ [(2, .int (iI k)), (0, .ref b), (1, .int (iI r))] [] post) : ∀ (n : Nat) (k : Int) (σ : MS) , (Fr [] [47] [] σ0 σ) → (RG σ) → (0 ≤ k ∧ k ≤ 221) → (BO 47 σ) → (∀ j, 0 ≤ j → j < k → σ.2.1 47 j = 0) → (221 - k).toNat = n → Tm (d + 1) m_X12_findReached 2 b σ [(2, .int (iI k)), (0, .ref b), (1, .int (iI r))] [] post := by
  intro n
  induction n using Nat.strongRecOn with
  | _ n ih =>
    intro k σ hF hR h0 hbo hj hm
    refine tm_iload_n dX12_findReached_2 rfl 0 rfl ?_
    refine tm_aload_n dX12_findReached_3 rfl 1 rfl ?_
    refine tm_get (k := 9) (v := .ref (b + 1 + 7)) lay_12 dX12_findReached_4 (by decide) fl12_32 rfl ?_
    refine tm_iload_n dX12_findReached_7 rfl 2 rfl ?_
    refine tm_iald (z := r) (v := σ0.2.1 9 r) dX12_findReached_8 (show mT[7]? = some (9, 0, 13) from rfl) (by omega) (by omega) (by decide) (ra_F hF (by decide) (rfl)) ?_
    have g1 := RG.a hR0 9 (r)
    refine tm_icmp_gt (tgt := 25) dX12_findReached_9 (by decide) ⟨by omega, by omega⟩ ⟨by omega, by omega⟩ (fun h2 => ?_) (fun h2 => ?_)
    · exact tm_sub [0, 1, 2] rfl (hx_25 (k) σ (Fr.rfl.trans (Fr.sub hF (by decide) (by decide) (by decide))) hR hbo (fun j a c => hj j a (by omega)))
    · refine tm_aload_n dX12_findReached_12 rfl 1 rfl ?_
      refine tm_get (k := 47) (v := .ref (b + 1 + 25)) lay_12 dX12_findReached_13 (by decide) fl12_91 rfl ?_
      refine tm_iload_n dX12_findReached_16 rfl 0 rfl ?_
      refine tm_iconst dX12_findReached_17 ?_
      refine tm_zast (z := k) (v := 0) dX12_findReached_18 (show mT[25]? = some (47, 2, 221) from rfl) (by omega) (by omega) (by decide) (by omega) ?_
      refine tm_iinc (q0 := 0) (L' := [(2, .int (iI (k + 1))), (0, .ref b), (1, .int (iI r))]) dX12_findReached_19 rfl (by decide) rfl ?_
      refine tm_goto (tgt := 2) dX12_findReached_22 (by decide) ?_
      exact tm_sub [0, 1, 2] rfl (ih _ (by omega) (k + 1) (sA 47 (k) (0) σ) ((Fr.rfl.trans (Fr.sub hF (by decide) (by decide) (by decide))).A (by decide)) (hR.A (by omega)) (by omega) (hbo.A (by omega)) (fun j a c => by
          by_cases z : j = k
          · subst z; exact ra_eq
          · exact ra_ne z (hj j a (by omega))) rfl)
theorem dX12_findReached_0 : decode cX12_findReached 0 = .ok (.iconst 0, 1) := by decide +kernel
theorem dX12_findReached_1 : decode cX12_findReached 1 = .ok (.istore_n 2, 1) := by decide +kernel
theorem dX12_findReached_25 : decode cX12_findReached 25 = .ok (.aload_n 0, 1) := by decide +kernel
theorem dX12_findReached_26 : decode cX12_findReached 26 = .ok (.getfield 91, 3) := by decide +kernel
theorem dX12_findReached_29 : decode cX12_findReached 29 = .ok (.iconst 0, 1) := by decide +kernel
theorem dX12_findReached_30 : decode cX12_findReached 30 = .ok (.iconst 1, 1) := by decide +kernel
theorem dX12_findReached_31 : decode cX12_findReached 31 = .ok (.bastore, 1) := by decide +kernel
theorem dX12_findReached_32 : decode cX12_findReached 32 = .ok (.iconst 1, 1) := by decide +kernel
theorem dX12_findReached_33 : decode cX12_findReached 33 = .ok (.istore_n 2, 1) := by decide +kernel
theorem dX12_findReached_121 : decode cX12_findReached 121 = .ok (.return_, 1) := by decide +kernel
set_option maxHeartbeats 4000000 in
set_option maxRecDepth 20000 in
theorem c_X12_findReached (d : Nat) {b : Nat} {σ : MS} {r : Int} (hr : 0 ≤ r ∧ r < 6) (hR : RG σ) (hit : ITM σ) (hjm : JMP σ r) (htg : TGT σ r) (hbo : BO 47 σ) : Tm (d + 3) m_X12_findReached 0 b σ [(0, .ref b), (1, .int (iI r))] [] (fun ro σ2 => ro = none ∧ (Fr [] [47] [] σ σ2) ∧ (RG σ2) ∧ (BO 47 σ2) ∧ (σ2.2.1 47 0 = 1) ∧ (MNR σ2 r (σ.2.1 9 r)) ∧ (CLO σ2 r (σ.2.1 9 r))) := by
  have q1 := hit r (by omega) (by omega)
  refine tm_iconst dX12_findReached_0 ?_
  refine tm_istore_n (L' := [(2, .int (iI 0)), (0, .ref b), (1, .int (iI r))]) dX12_findReached_1 rfl (by decide) rfl ?_
  refine tm_sub [0, 1, 2] rfl (l_rch1 (d + 2) (σ0 := σ) (r := r) (by omega) hR q1 (fun k7 σ8 F3 R4 f5 f6 => ?_) _ (0) σ Fr.rfl hR (by omega) hbo (fun j a c => by omega) rfl)
  show Tm _ _ 25 b σ8 [(2, .int (iI k7)), (0, .ref b), (1, .int (iI r))] [] _
  have hb1 := f5
  have hj1 := f6
  refine tm_aload_n dX12_findReached_25 rfl 1 rfl ?_
  refine tm_get (k := 47) (v := .ref (b + 1 + 25)) lay_12 dX12_findReached_26 (by decide) fl12_91 rfl ?_
  refine tm_iconst dX12_findReached_29 ?_
  refine tm_iconst dX12_findReached_30 ?_
  refine tm_zast (z := 0) (v := 1) dX12_findReached_31 (show mT[25]? = some (47, 2, 221) from rfl) (by omega) (by omega) (by decide) (by omega) ?_
  refine tm_iconst dX12_findReached_32 ?_
  refine tm_istore_n (L' := [(2, .int (iI 1)), (0, .ref b), (1, .int (iI r))]) dX12_findReached_33 rfl (by decide) rfl ?_
  refine tm_sub [0, 1, 2] rfl (l_rch2 (d) (σ0 := (sA 47 (0) (1) σ8)) (r := r) (m := σ.2.1 9 r) hr (R4.A (by omega)) (hit.fr (show Fr [] [47] [] σ (sA 47 (0) (1) σ8) from ((Fr.rfl.trans (Fr.sub F3 (by decide) (by decide) (by decide))).A (by decide))) (by decide)) (hjm.fr (show Fr [] [47] [] σ (sA 47 (0) (1) σ8) from ((Fr.rfl.trans (Fr.sub F3 (by decide) (by decide) (by decide))).A (by decide))) (by decide)) (htg.fr (show Fr [] [47] [] σ (sA 47 (0) (1) σ8) from ((Fr.rfl.trans (Fr.sub F3 (by decide) (by decide) (by decide))).A (by decide))) (by decide)) (by rw [((show Fr [] [47] [] σ (sA 47 (0) (1) σ8) from ((Fr.rfl.trans (Fr.sub F3 (by decide) (by decide) (by decide))).A (by decide)))).2.1 9 (by decide)]) (fun w17 σ18 F11 R12 f13 f14 f15 f16 => ?_) _ (1) (sA 47 (0) (1) σ8) Fr.rfl (R4.A (by omega)) (by omega) (hb1.A (by omega)) ra_eq (fun k a c e => by rw [show _ = (0 : Int) from (ra_ne (by omega) (hj1 k (by omega) c))] at e; omega) (fun e => absurd e (by decide)) rfl)
  show Tm _ _ 121 b σ18 [(2, .int (iI w17)), (0, .ref b), (1, .int (iI r))] [] _
  exact tm_vret rfl dX12_findReached_121 (⟨rfl, (((Fr.rfl.trans (Fr.sub F3 (by decide) (by decide) (by decide))).A (by decide)).trans (Fr.sub F11 (by decide) (by decide) (by decide))), R12, f13, f14, f15, f16⟩)
end
