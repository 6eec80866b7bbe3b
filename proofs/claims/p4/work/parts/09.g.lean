theorem ml12_475 : Cond.methodLink RX12 475 yX12_findLives ∈ pWW := pw9 (List.mem_of_getElem? (i := 129) rfl) rfl
theorem ml12_527 : Cond.methodLink RX12 527 yX12_unbind ∈ pWW := pw9 (List.mem_of_getElem? (i := 221) rfl) rfl
theorem ml12_530 : Cond.methodLink RX12 530 yX12_renumber ∈ pWW := pw9 (List.mem_of_getElem? (i := 229) rfl) rfl
theorem ml12_410 : Cond.methodLink RX12 410 yX12_registers ∈ pWW := pw9 (List.mem_of_getElem? (i := 48) rfl) rfl
theorem dX12_share_0 : decode cX12_share 0 = .ok (.aload_n 0, 1) := by decide +kernel
theorem dX12_share_1 : decode cX12_share 1 = .ok (.iload_n 1, 1) := by decide +kernel
theorem dX12_share_2 : decode cX12_share 2 = .ok (.invokevirtual 475, 3) := by decide +kernel
theorem dX12_share_5 : decode cX12_share 5 = .ok (.iconst 0, 1) := by decide +kernel
theorem dX12_share_6 : decode cX12_share 6 = .ok (.istore_n 2, 1) := by decide +kernel
theorem dX12_share_26 : decode cX12_share 26 = .ok (.iconst 0, 1) := by decide +kernel
theorem dX12_share_27 : decode cX12_share 27 = .ok (.istore_n 2, 1) := by decide +kernel
theorem dX12_share_78 : decode cX12_share 78 = .ok (.iconst 0, 1) := by decide +kernel
theorem dX12_share_79 : decode cX12_share 79 = .ok (.istore_n 2, 1) := by decide +kernel
theorem dX12_share_155 : decode cX12_share 155 = .ok (.iconst 0, 1) := by decide +kernel
theorem dX12_share_156 : decode cX12_share 156 = .ok (.istore_n 2, 1) := by decide +kernel
theorem dX12_share_230 : decode cX12_share 230 = .ok (.aload_n 0, 1) := by decide +kernel
theorem dX12_share_231 : decode cX12_share 231 = .ok (.iload_n 1, 1) := by decide +kernel
theorem dX12_share_232 : decode cX12_share 232 = .ok (.invokevirtual 527, 3) := by decide +kernel
theorem dX12_share_235 : decode cX12_share 235 = .ok (.aload_n 0, 1) := by decide +kernel
theorem dX12_share_236 : decode cX12_share 236 = .ok (.iload_n 1, 1) := by decide +kernel
theorem dX12_share_237 : decode cX12_share 237 = .ok (.invokevirtual 530, 3) := by decide +kernel
theorem dX12_share_240 : decode cX12_share 240 = .ok (.aload_n 0, 1) := by decide +kernel
theorem dX12_share_241 : decode cX12_share 241 = .ok (.iload_n 1, 1) := by decide +kernel
theorem dX12_share_242 : decode cX12_share 242 = .ok (.invokevirtual 410, 3) := by decide +kernel
theorem dX12_share_245 : decode cX12_share 245 = .ok (.ireturn, 1) := by decide +kernel
set_option maxHeartbeats 4000000 in
set_option maxRecDepth 20000 in
theorem c_X12_share (d : Nat) {b : Nat} {σ : MS} {r : Int} {F : Int} (hr : 0 ≤ r ∧ r < 6) (hR : RG σ) (hit : ITM σ) (hpar : PAR σ) (hnam : NAM σ) (hok : OKS σ F r) (hof : OKF σ r) (hl : LAB σ) (hbo : BO 47 σ) (hbl : BO 59 σ) (hbd : BO 63 σ) (hnl : NUL σ) (hlex : LEX σ r) : Tm (d + 6) m_X12_share 0 b σ [(0, .ref b), (1, .int (iI r))] [] (fun ro σ2 => ∃ v : Int, ro = some (.int (iI v)) ∧ (Fr [] [4, 6, 7, 8, 18, 46, 47, 59, 63, 64, 65, 66] [] σ σ2) ∧ (RG σ2) ∧ (LAB σ2) ∧ (BO 47 σ2) ∧ (BO 59 σ2) ∧ (BO 63 σ2) ∧ (NUL σ2) ∧ (OKS σ2 F r) ∧ (OKF σ2 r) ∧ (XO r σ σ2) ∧ (XN r σ σ2) ∧ (DK σ σ2)) := by
  have q1 := hit r (by omega) (by omega)
  refine tm_aload_n dX12_share_0 rfl 0 rfl ?_
  refine tm_iload_n dX12_share_1 rfl 1 rfl ?_
  refine tm_callV (M := m_X12_share) (pc := 2) (ix := 475) (M' := m_X12_findLives) (As := [.int (iI r)]) (rest := []) dX12_share_2 ok_X12_findLives im_X12_findLives se_X12_findLives ml12_475 np_X12_findLives rfl rfl (Nat.le_of_ble_eq_true rfl) (Nat.le_of_ble_eq_true rfl) rfl (c_X12_findLives (d) (σ := σ) (r := r) (F := F) (by omega) hR hit hpar hok hl hbl) (fun r1 σ2 hp => ?_)
  obtain ⟨rfl, f4, f5, f6, f7⟩ := hp
  show Tm _ _ 5 b σ2 [(0, .ref b), (1, .int (iI r))] [] _
  have hlab1 := f6
  have hbl1 := f7
  refine tm_iconst dX12_share_5 ?_
  refine tm_istore_n (L' := [(2, .int (iI 0)), (0, .ref b), (1, .int (iI r))]) dX12_share_6 rfl (by decide) rfl ?_
  refine tm_sub [0, 1, 2] rfl (l_sh1 (d + 5) (σ0 := σ2) (r := r) (fun k13 σ14 F10 R11 f12 => ?_) _ (0) σ2 Fr.rfl f5 (by omega) (hbd.fr (show Fr [] [46, 59] [] σ σ2 from (Fr.rfl.trans (Fr.sub f4 (by decide) (by decide) (by decide)))) (by decide)) rfl)
  show Tm _ _ 26 b σ14 [(2, .int (iI k13)), (0, .ref b), (1, .int (iI r))] [] _
  have hbd1 := f12
  refine tm_iconst dX12_share_26 ?_
  refine tm_istore_n (L' := [(2, .int (iI 0)), (0, .ref b), (1, .int (iI r))]) dX12_share_27 rfl (by decide) rfl ?_
  refine tm_sub [0, 1, 2] rfl (l_sh2 (d + 3) (σ0 := σ14) (r := r) hr R11 (hpar.fr (show Fr [] [46, 59, 63] [] σ σ14 from ((Fr.rfl.trans (Fr.sub f4 (by decide) (by decide) (by decide))).trans (Fr.sub F10 (by decide) (by decide) (by decide)))) (by decide)) (hbl1.fr F10 (by decide)) (fun a120 σ21 F17 R18 f19 => ?_) _ (0) σ14 Fr.rfl R11 (by omega) hbd1 rfl)
  show Tm _ _ 78 b σ21 [(2, .int (iI a120)), (0, .ref b), (1, .int (iI r))] [] _
  have hbd2 := f19
  refine tm_iconst dX12_share_78 ?_
  refine tm_istore_n (L' := [(2, .int (iI 0)), (0, .ref b), (1, .int (iI r))]) dX12_share_79 rfl (by decide) rfl ?_
  refine tm_sub [0, 1, 2] rfl (l_sh4 (d + 2) (σ0 := σ21) (r := r) (F := F) hr R18 (hit.fr (show Fr [] [46, 59, 63] [] σ σ21 from (((Fr.rfl.trans (Fr.sub f4 (by decide) (by decide) (by decide))).trans (Fr.sub F10 (by decide) (by decide) (by decide))).trans (Fr.sub F17 (by decide) (by decide) (by decide)))) (by decide)) (hok.fr (show Fr [] [46, 59, 63] [] σ σ21 from (((Fr.rfl.trans (Fr.sub f4 (by decide) (by decide) (by decide))).trans (Fr.sub F10 (by decide) (by decide) (by decide))).trans (Fr.sub F17 (by decide) (by decide) (by decide)))) (by decide)) (BO.fr (BO.fr hbl1 F10 (by decide)) F17 (by decide)) (LAB.fr (LAB.fr hlab1 F10 (by decide)) F17 (by decide)) (fun k27 σ28 F24 R25 f26 => ?_) _ (0) σ21 Fr.rfl R18 (by rw [((show Fr [] [46, 59, 63] [] σ σ21 from (((Fr.rfl.trans (Fr.sub f4 (by decide) (by decide) (by decide))).trans (Fr.sub F10 (by decide) (by decide) (by decide))).trans (Fr.sub F17 (by decide) (by decide) (by decide))))).2.1 9 (by decide)]; omega) hbd2 rfl)
  show Tm _ _ 155 b σ28 [(2, .int (iI k27)), (0, .ref b), (1, .int (iI r))] [] _
  have hbd3 := f26
  have hlab4 := ((hlab1.fr F10 (by decide)).fr F17 (by decide)).fr F24 (by decide)
  have hbl4 := ((hbl1.fr F10 (by decide)).fr F17 (by decide)).fr F24 (by decide)
  refine tm_iconst dX12_share_155 ?_
  refine tm_istore_n (L' := [(2, .int (iI 0)), (0, .ref b), (1, .int (iI r))]) dX12_share_156 rfl (by decide) rfl ?_
  refine tm_sub [0, 1, 2] rfl (l_sh6 (d + 5) (σ0 := σ28) (r := r) R25 hbd3 (fun g34 σ35 F31 R32 f33 => ?_) _ (0) σ28 Fr.rfl R25 (by omega) (hnl.fr (show Fr [] [46, 59, 63] [] σ σ28 from ((((Fr.rfl.trans (Fr.sub f4 (by decide) (by decide) (by decide))).trans (Fr.sub F10 (by decide) (by decide) (by decide))).trans (Fr.sub F17 (by decide) (by decide) (by decide))).trans (Fr.sub F24 (by decide) (by decide) (by decide)))) (by decide)) rfl)
  show Tm _ _ 230 b σ35 [(2, .int (iI g34)), (0, .ref b), (1, .int (iI r))] [] _
  have hnl5 := f33
  have hlab5 := hlab4.fr F31 (by decide)
  have hbl5 := hbl4.fr F31 (by decide)
  refine tm_aload_n dX12_share_230 rfl 1 rfl ?_
  refine tm_iload_n dX12_share_231 rfl 2 rfl ?_
  refine tm_callV (M := m_X12_share) (pc := 232) (ix := 527) (M' := m_X12_unbind) (As := [.int (iI r)]) (rest := []) dX12_share_232 ok_X12_unbind im_X12_unbind se_X12_unbind ml12_527 np_X12_unbind rfl rfl (Nat.le_of_ble_eq_true rfl) (Nat.le_of_ble_eq_true rfl) rfl (c_X12_unbind (d + 1) (σ := σ35) (r := r) (F := F) (by omega) R32 (hit.fr (show Fr [] [46, 59, 63, 64] [] σ σ35 from (((((Fr.rfl.trans (Fr.sub f4 (by decide) (by decide) (by decide))).trans (Fr.sub F10 (by decide) (by decide) (by decide))).trans (Fr.sub F17 (by decide) (by decide) (by decide))).trans (Fr.sub F24 (by decide) (by decide) (by decide))).trans (Fr.sub F31 (by decide) (by decide) (by decide)))) (by decide)) (hpar.fr (show Fr [] [46, 59, 63, 64] [] σ σ35 from (((((Fr.rfl.trans (Fr.sub f4 (by decide) (by decide) (by decide))).trans (Fr.sub F10 (by decide) (by decide) (by decide))).trans (Fr.sub F17 (by decide) (by decide) (by decide))).trans (Fr.sub F24 (by decide) (by decide) (by decide))).trans (Fr.sub F31 (by decide) (by decide) (by decide)))) (by decide)) (hok.fr (show Fr [] [46, 59, 63, 64] [] σ σ35 from (((((Fr.rfl.trans (Fr.sub f4 (by decide) (by decide) (by decide))).trans (Fr.sub F10 (by decide) (by decide) (by decide))).trans (Fr.sub F17 (by decide) (by decide) (by decide))).trans (Fr.sub F24 (by decide) (by decide) (by decide))).trans (Fr.sub F31 (by decide) (by decide) (by decide)))) (by decide)) hlab5 (hbo.fr (show Fr [] [46, 59, 63, 64] [] σ σ35 from (((((Fr.rfl.trans (Fr.sub f4 (by decide) (by decide) (by decide))).trans (Fr.sub F10 (by decide) (by decide) (by decide))).trans (Fr.sub F17 (by decide) (by decide) (by decide))).trans (Fr.sub F24 (by decide) (by decide) (by decide))).trans (Fr.sub F31 (by decide) (by decide) (by decide)))) (by decide)) hbl5 hnl5.num (hlex.fr (show Fr [] [46, 59, 63, 64] [] σ σ35 from (((((Fr.rfl.trans (Fr.sub f4 (by decide) (by decide) (by decide))).trans (Fr.sub F10 (by decide) (by decide) (by decide))).trans (Fr.sub F17 (by decide) (by decide) (by decide))).trans (Fr.sub F24 (by decide) (by decide) (by decide))).trans (Fr.sub F31 (by decide) (by decide) (by decide)))) (by decide))) (fun r36 σ37 hp => ?_)
  obtain ⟨rfl, f39, f40, f41, f42, f43, f44⟩ := hp
  show Tm _ _ 235 b σ37 [(2, .int (iI g34)), (0, .ref b), (1, .int (iI r))] [] _
  have hlab6 := f41
  have hbo6 := f42
  have hok6 := f43
  have hxo6 := f44
  have hnl6 := hnl5.fr f39 (by decide)
  refine tm_aload_n dX12_share_235 rfl 1 rfl ?_
  refine tm_iload_n dX12_share_236 rfl 2 rfl ?_
  refine tm_callV (M := m_X12_share) (pc := 237) (ix := 530) (M' := m_X12_renumber) (As := [.int (iI r)]) (rest := []) dX12_share_237 ok_X12_renumber im_X12_renumber se_X12_renumber ml12_530 np_X12_renumber rfl rfl (Nat.le_of_ble_eq_true rfl) (Nat.le_of_ble_eq_true rfl) rfl (c_X12_renumber (d + 1) (σ := σ37) (r := r) (F := F) (by omega) f40 (hit.fr (show Fr [] [6, 7, 8, 46, 47, 59, 63, 64, 65, 66] [] σ σ37 from ((((((Fr.rfl.trans (Fr.sub f4 (by decide) (by decide) (by decide))).trans (Fr.sub F10 (by decide) (by decide) (by decide))).trans (Fr.sub F17 (by decide) (by decide) (by decide))).trans (Fr.sub F24 (by decide) (by decide) (by decide))).trans (Fr.sub F31 (by decide) (by decide) (by decide))).trans (Fr.sub f39 (by decide) (by decide) (by decide)))) (by decide)) (hpar.fr (show Fr [] [6, 7, 8, 46, 47, 59, 63, 64, 65, 66] [] σ σ37 from ((((((Fr.rfl.trans (Fr.sub f4 (by decide) (by decide) (by decide))).trans (Fr.sub F10 (by decide) (by decide) (by decide))).trans (Fr.sub F17 (by decide) (by decide) (by decide))).trans (Fr.sub F24 (by decide) (by decide) (by decide))).trans (Fr.sub F31 (by decide) (by decide) (by decide))).trans (Fr.sub f39 (by decide) (by decide) (by decide)))) (by decide)) (hnam.fr (show Fr [] [6, 7, 8, 46, 47, 59, 63, 64, 65, 66] [] σ σ37 from ((((((Fr.rfl.trans (Fr.sub f4 (by decide) (by decide) (by decide))).trans (Fr.sub F10 (by decide) (by decide) (by decide))).trans (Fr.sub F17 (by decide) (by decide) (by decide))).trans (Fr.sub F24 (by decide) (by decide) (by decide))).trans (Fr.sub F31 (by decide) (by decide) (by decide))).trans (Fr.sub f39 (by decide) (by decide) (by decide)))) (by decide)) hnl6.num hok6 (hof.fr (show Fr [] [6, 7, 8, 46, 47, 59, 63, 64, 65, 66] [] σ σ37 from ((((((Fr.rfl.trans (Fr.sub f4 (by decide) (by decide) (by decide))).trans (Fr.sub F10 (by decide) (by decide) (by decide))).trans (Fr.sub F17 (by decide) (by decide) (by decide))).trans (Fr.sub F24 (by decide) (by decide) (by decide))).trans (Fr.sub F31 (by decide) (by decide) (by decide))).trans (Fr.sub f39 (by decide) (by decide) (by decide)))) (by decide))) (fun r45 σ46 hp => ?_)
  obtain ⟨rfl, f48, f49, f50, f51, f52, f53, f54⟩ := hp
  show Tm _ _ 240 b σ46 [(2, .int (iI g34)), (0, .ref b), (1, .int (iI r))] [] _
  have hok7 := f50
  have hof7 := f51
  have hxo7 := f52
  have hxn7 := f53
  have hdk7 := f54
  refine tm_aload_n dX12_share_240 rfl 1 rfl ?_
  refine tm_iload_n dX12_share_241 rfl 2 rfl ?_
  refine tm_callV (M := m_X12_share) (pc := 242) (ix := 410) (M' := m_X12_registers) (As := [.int (iI r)]) (rest := []) dX12_share_242 ok_X12_registers im_X12_registers se_X12_registers ml12_410 np_X12_registers rfl rfl (Nat.le_of_ble_eq_true rfl) (Nat.le_of_ble_eq_true rfl) rfl (c_X12_registers (d + 1) (σ := σ46) (r := r) (F := F) (by omega) f49 hof7 (hnam.fr (show Fr [] [4, 6, 7, 8, 18, 46, 47, 59, 63, 64, 65, 66] [] σ σ46 from (((((((Fr.rfl.trans (Fr.sub f4 (by decide) (by decide) (by decide))).trans (Fr.sub F10 (by decide) (by decide) (by decide))).trans (Fr.sub F17 (by decide) (by decide) (by decide))).trans (Fr.sub F24 (by decide) (by decide) (by decide))).trans (Fr.sub F31 (by decide) (by decide) (by decide))).trans (Fr.sub f39 (by decide) (by decide) (by decide))).trans (Fr.sub f48 (by decide) (by decide) (by decide)))) (by decide)) (hit.fr (show Fr [] [4, 6, 7, 8, 18, 46, 47, 59, 63, 64, 65, 66] [] σ σ46 from (((((((Fr.rfl.trans (Fr.sub f4 (by decide) (by decide) (by decide))).trans (Fr.sub F10 (by decide) (by decide) (by decide))).trans (Fr.sub F17 (by decide) (by decide) (by decide))).trans (Fr.sub F24 (by decide) (by decide) (by decide))).trans (Fr.sub F31 (by decide) (by decide) (by decide))).trans (Fr.sub f39 (by decide) (by decide) (by decide))).trans (Fr.sub f48 (by decide) (by decide) (by decide)))) (by decide)) (hpar.fr (show Fr [] [4, 6, 7, 8, 18, 46, 47, 59, 63, 64, 65, 66] [] σ σ46 from (((((((Fr.rfl.trans (Fr.sub f4 (by decide) (by decide) (by decide))).trans (Fr.sub F10 (by decide) (by decide) (by decide))).trans (Fr.sub F17 (by decide) (by decide) (by decide))).trans (Fr.sub F24 (by decide) (by decide) (by decide))).trans (Fr.sub F31 (by decide) (by decide) (by decide))).trans (Fr.sub f39 (by decide) (by decide) (by decide))).trans (Fr.sub f48 (by decide) (by decide) (by decide)))) (by decide)) hok7) (fun r55 σ56 hp => ?_)
  obtain ⟨v57, rfl, rfl, f58, f59, f60⟩ := hp
  show Tm _ _ 245 b σ46 [(2, .int (iI g34)), (0, .ref b), (1, .int (iI r))] [.int (iI v57)] _
  exact tm_iret rfl dX12_share_245 (⟨_, rfl, (((((((Fr.rfl.trans (Fr.sub f4 (by decide) (by decide) (by decide))).trans (Fr.sub F10 (by decide) (by decide) (by decide))).trans (Fr.sub F17 (by decide) (by decide) (by decide))).trans (Fr.sub F24 (by decide) (by decide) (by decide))).trans (Fr.sub F31 (by decide) (by decide) (by decide))).trans (Fr.sub f39 (by decide) (by decide) (by decide))).trans (Fr.sub f48 (by decide) (by decide) (by decide))), f49, hlab6.fr f48 (by decide), hbo6.fr f48 (by decide), (hbl5.fr f39 (by decide)).fr f48 (by decide), ((hbd3.fr F31 (by decide)).fr f39 (by decide)).fr f48 (by decide), hnl6.fr f48 (by decide), hok7, hof7, ((XO.fr (show Fr [] [46, 59, 63, 64] [] σ σ35 from (((((Fr.rfl.trans (Fr.sub f4 (by decide) (by decide) (by decide))).trans (Fr.sub F10 (by decide) (by decide) (by decide))).trans (Fr.sub F17 (by decide) (by decide) (by decide))).trans (Fr.sub F24 (by decide) (by decide) (by decide))).trans (Fr.sub F31 (by decide) (by decide) (by decide)))) (by decide)).trans hxo6).trans hxo7, fun z hz => (hxn7 z hz).trans (by rw [((show Fr [] [6, 7, 8, 46, 47, 59, 63, 64, 65, 66] [] σ σ37 from ((((((Fr.rfl.trans (Fr.sub f4 (by decide) (by decide) (by decide))).trans (Fr.sub F10 (by decide) (by decide) (by decide))).trans (Fr.sub F17 (by decide) (by decide) (by decide))).trans (Fr.sub F24 (by decide) (by decide) (by decide))).trans (Fr.sub F31 (by decide) (by decide) (by decide))).trans (Fr.sub f39 (by decide) (by decide) (by decide))))).2.1 18 (by decide)]), hdk7.s (show Fr [] [6, 7, 8, 46, 47, 59, 63, 64, 65, 66] [] σ σ37 from ((((((Fr.rfl.trans (Fr.sub f4 (by decide) (by decide) (by decide))).trans (Fr.sub F10 (by decide) (by decide) (by decide))).trans (Fr.sub F17 (by decide) (by decide) (by decide))).trans (Fr.sub F24 (by decide) (by decide) (by decide))).trans (Fr.sub F31 (by decide) (by decide) (by decide))).trans (Fr.sub f39 (by decide) (by decide) (by decide)))) (by decide) (by decide)⟩)
