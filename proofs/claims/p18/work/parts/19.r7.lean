section
set_option maxHeartbeats 1000000 in
set_option maxRecDepth 20000 in
theorem f_X12_share (d : Nat) {b : Nat} {σ : MS} {r : Int} {F : Int} (hr : 0 ≤ r ∧ r < 6) (hR : RG σ) (hit : ITM σ) (hpar : PAR σ) (hnam : NAM σ) (hok : OKS σ F r) (hof : OKF σ r) (hl : LAB σ) (hbo : BO 47 σ) (hbl : BO 59 σ) (hbd : BO 63 σ) (hnl : NUL σ) (hlex : LEX σ r) (hu : UNQ (rV σ r) (σ.2.1 9 r)) : Tm (d + 6) m_X12_share 0 b σ [(0, .ref b), (1, .int (iI r))] [] (fun ro σ2 => ∃ v : Int, ro = some (.int (iI v)) ∧ (Fr [] [4, 6, 7, 8, 18, 46, 47, 59, 63, 64, 65, 66] [] σ σ2) ∧ (RG σ2) ∧ (LAB σ2) ∧ (BO 47 σ2) ∧ (BO 59 σ2) ∧ (BO 63 σ2) ∧ (NUL σ2) ∧ (OKS σ2 F r) ∧ (OKF σ2 r) ∧ (XO r σ σ2) ∧ (XN r σ σ2) ∧ (DK σ σ2) ∧ (SHX σ σ2 r v)) := by
  have q1 := hit r (by omega) (by omega)
  refine tm_aload_n dX12_share_0 rfl 0 rfl ?_
  refine tm_iload_n dX12_share_1 rfl 1 rfl ?_
  refine tm_callV (M := m_X12_share) (pc := 2) (ix := 475) (M' := m_X12_findLives) (As := [.int (iI r)]) (rest := []) dX12_share_2 ok_X12_findLives im_X12_findLives se_X12_findLives ml12_475 np_X12_findLives rfl rfl (Nat.le_of_ble_eq_true rfl) (Nat.le_of_ble_eq_true rfl) rfl (f_X12_findLives (d) (σ := σ) (r := r) (F := F) (by omega) hR hit hpar hok hl hbl hlex hu) (fun r1 σ2 hp => ?_)
  obtain ⟨rfl, f4, f5, f6, f7, f8, f9, f10, f11⟩ := hp
  show Tm _ _ 5 b σ2 [(0, .ref b), (1, .int (iI r))] [] _
  have hlab1 := f6
  have hbl1 := f7
  have htd1 := f10
  have hld1 := f11
  refine tm_iconst dX12_share_5 ?_
  refine tm_istore_n (L' := [(2, .int (iI 0)), (0, .ref b), (1, .int (iI r))]) dX12_share_6 rfl (by decide) rfl ?_
  refine tm_sub [0, 1, 2] rfl (f_sh1 (d + 5) (σ0 := σ2) (r := r) (fun k18 σ19 F14 R15 f16 f17 => ?_) _ (0) σ2 Fr.rfl f5 (by omega) (hbd.fr (show Fr [] [46, 59] [] σ σ2 from (Fr.rfl.trans (Fr.sub f4 (by decide) (by decide) (by decide)))) (by decide)) (fun y a b => by omega) rfl)
  show Tm _ _ 26 b σ19 [(2, .int (iI k18)), (0, .ref b), (1, .int (iI r))] [] _
  have hbd1 := f16
  have hox1 := f17
  refine tm_iconst dX12_share_26 ?_
  refine tm_istore_n (L' := [(2, .int (iI 0)), (0, .ref b), (1, .int (iI r))]) dX12_share_27 rfl (by decide) rfl ?_
  refine tm_sub [0, 1, 2] rfl (f_sh2 (d + 3) (σ0 := σ19) (r := r) (BG := (bgR σ r)) hr R15 (hpar.fr (show Fr [] [46, 59, 63] [] σ σ19 from ((Fr.rfl.trans (Fr.sub f4 (by decide) (by decide) (by decide))).trans (Fr.sub F14 (by decide) (by decide) (by decide)))) (by decide)) (hbl1.fr F14 (by decide)) (bg_of hld1 (by omega) (((show Fr [] [46, 59, 63] [] σ σ19 from ((Fr.rfl.trans (Fr.sub f4 (by decide) (by decide) (by decide))).trans (Fr.sub F14 (by decide) (by decide) (by decide))))).2.1 11 (by decide)) (((show Fr [] [46, 59, 63] [] σ σ19 from ((Fr.rfl.trans (Fr.sub f4 (by decide) (by decide) (by decide))).trans (Fr.sub F14 (by decide) (by decide) (by decide))))).2.1 18 (by decide)) (by rw [F14.2.1 59 (by decide)])) (fun a126 σ27 F22 R23 f24 f25 => ?_) _ (0) σ19 Fr.rfl R15 (by omega) hbd1 (hox1.c (fun x y a b c d => ⟨fun z => z.elim, fun z => by have := z.2.2.2; omega⟩)) rfl)
  show Tm _ _ 78 b σ27 [(2, .int (iI a126)), (0, .ref b), (1, .int (iI r))] [] _
  have hbd2 := f24
  have hox2 := f25
  refine tm_iconst dX12_share_78 ?_
  refine tm_istore_n (L' := [(2, .int (iI 0)), (0, .ref b), (1, .int (iI r))]) dX12_share_79 rfl (by decide) rfl ?_
  refine tm_sub [0, 1, 2] rfl (f_sh4 (d + 2) (σ0 := σ27) (r := r) (F := F) (V := (rV σ r)) (N := (σ.2.1 9 r)) (BG := (bgR σ r)) hr R23 (hit.fr (show Fr [] [46, 59, 63] [] σ σ27 from (((Fr.rfl.trans (Fr.sub f4 (by decide) (by decide) (by decide))).trans (Fr.sub F14 (by decide) (by decide) (by decide))).trans (Fr.sub F22 (by decide) (by decide) (by decide)))) (by decide)) (hok.fr (show Fr [] [46, 59, 63] [] σ σ27 from (((Fr.rfl.trans (Fr.sub f4 (by decide) (by decide) (by decide))).trans (Fr.sub F14 (by decide) (by decide) (by decide))).trans (Fr.sub F22 (by decide) (by decide) (by decide)))) (by decide)) (BO.fr (BO.fr hbl1 F14 (by decide)) F22 (by decide)) (LAB.fr (LAB.fr hlab1 F14 (by decide)) F22 (by decide)) (htd1.fr (show Fr [] [63] [] σ2 σ27 from ((Fr.rfl.trans (Fr.sub F14 (by decide) (by decide) (by decide))).trans (Fr.sub F22 (by decide) (by decide) (by decide)))) (by decide)) (rv_fr (show Fr [] [46, 59, 63] [] σ σ27 from (((Fr.rfl.trans (Fr.sub f4 (by decide) (by decide) (by decide))).trans (Fr.sub F14 (by decide) (by decide) (by decide))).trans (Fr.sub F22 (by decide) (by decide) (by decide)))) (by decide)).symm (by rw [((show Fr [] [46, 59, 63] [] σ σ27 from (((Fr.rfl.trans (Fr.sub f4 (by decide) (by decide) (by decide))).trans (Fr.sub F14 (by decide) (by decide) (by decide))).trans (Fr.sub F22 (by decide) (by decide) (by decide))))).2.1 9 (by decide)]) (fun k g a b c d => by rw [show σ27.2.1 59 = σ2.2.1 59 by rw [F22.2.1 59 (by decide), F14.2.1 59 (by decide)]]; exact hld1 k g a b c d) (fun k34 σ35 F30 R31 f32 f33 => ?_) _ (0) σ27 Fr.rfl R23 (by rw [((show Fr [] [46, 59, 63] [] σ σ27 from (((Fr.rfl.trans (Fr.sub f4 (by decide) (by decide) (by decide))).trans (Fr.sub F14 (by decide) (by decide) (by decide))).trans (Fr.sub F22 (by decide) (by decide) (by decide))))).2.1 9 (by decide)]; omega) hbd2 (hox2.c (fun x y a b c d => OWq.z a c)) rfl)
  show Tm _ _ 155 b σ35 [(2, .int (iI k34)), (0, .ref b), (1, .int (iI r))] [] _
  have hbd3 := f32
  have hlab4 := ((hlab1.fr F14 (by decide)).fr F22 (by decide)).fr F30 (by decide)
  have hbl4 := ((hbl1.fr F14 (by decide)).fr F22 (by decide)).fr F30 (by decide)
  have hox4 := f33
  refine tm_iconst dX12_share_155 ?_
  refine tm_istore_n (L' := [(2, .int (iI 0)), (0, .ref b), (1, .int (iI r))]) dX12_share_156 rfl (by decide) rfl ?_
  refine tm_sub [0, 1, 2] rfl (f_sh6 (d + 5) (σ0 := σ35) (r := r) R31 hbd3 (fun g42 σ43 F38 R39 f40 f41 => ?_) _ (0) σ35 Fr.rfl R31 (by omega) (hnl.fr (show Fr [] [46, 59, 63] [] σ σ35 from ((((Fr.rfl.trans (Fr.sub f4 (by decide) (by decide) (by decide))).trans (Fr.sub F14 (by decide) (by decide) (by decide))).trans (Fr.sub F22 (by decide) (by decide) (by decide))).trans (Fr.sub F30 (by decide) (by decide) (by decide)))) (by decide)) (fun g a b => by omega) rfl)
  show Tm _ _ 230 b σ43 [(2, .int (iI g42)), (0, .ref b), (1, .int (iI r))] [] _
  have hnl5 := f40
  have hlab5 := hlab4.fr F38 (by decide)
  have hbl5 := hbl4.fr F38 (by decide)
  have hnb5 : nbV (odV (rV σ r) (σ.2.1 9 r) (PMQ σ r)) 192 (σ43.2.1 64) := nbV.c f41 (fun x y a b c d => (hox4 x y a b c d).trans (OWq.all (fun g _ _ => Iff.rfl) a b c d))
  have hdi5 : ∀ x y, 0 ≤ x → x < 192 → 0 ≤ y → y < 192 → bgR σ r x → bgR σ r y → x ≠ y → σ43.2.1 64 x ≠ σ43.2.1 64 y := fun x y a b c d e f g => hnb5.ne (fun _ _ z => z.sym) a b c d ⟨g, Or.inl ⟨e, f⟩⟩ g
  have hu5 : UNQ (rV σ43 r) (σ43.2.1 9 r) := by rw [rv_fr (show Fr [] [46, 59, 63, 64] [] σ σ43 from (((((Fr.rfl.trans (Fr.sub f4 (by decide) (by decide) (by decide))).trans (Fr.sub F14 (by decide) (by decide) (by decide))).trans (Fr.sub F22 (by decide) (by decide) (by decide))).trans (Fr.sub F30 (by decide) (by decide) (by decide))).trans (Fr.sub F38 (by decide) (by decide) (by decide)))) (by decide), ((show Fr [] [46, 59, 63, 64] [] σ σ43 from (((((Fr.rfl.trans (Fr.sub f4 (by decide) (by decide) (by decide))).trans (Fr.sub F14 (by decide) (by decide) (by decide))).trans (Fr.sub F22 (by decide) (by decide) (by decide))).trans (Fr.sub F30 (by decide) (by decide) (by decide))).trans (Fr.sub F38 (by decide) (by decide) (by decide))))).2.1 9 (by decide)]; exact hu
  have hBG5 := (bg_of hld1 (by omega) (((show Fr [] [46, 59, 63, 64] [] σ σ43 from (((((Fr.rfl.trans (Fr.sub f4 (by decide) (by decide) (by decide))).trans (Fr.sub F14 (by decide) (by decide) (by decide))).trans (Fr.sub F22 (by decide) (by decide) (by decide))).trans (Fr.sub F30 (by decide) (by decide) (by decide))).trans (Fr.sub F38 (by decide) (by decide) (by decide))))).2.1 11 (by decide)) (((show Fr [] [46, 59, 63, 64] [] σ σ43 from (((((Fr.rfl.trans (Fr.sub f4 (by decide) (by decide) (by decide))).trans (Fr.sub F14 (by decide) (by decide) (by decide))).trans (Fr.sub F22 (by decide) (by decide) (by decide))).trans (Fr.sub F30 (by decide) (by decide) (by decide))).trans (Fr.sub F38 (by decide) (by decide) (by decide))))).2.1 18 (by decide)) (by rw [F38.2.1 59 (by decide), F30.2.1 59 (by decide), F22.2.1 59 (by decide), F14.2.1 59 (by decide)]))
  refine tm_aload_n dX12_share_230 rfl 1 rfl ?_
  refine tm_iload_n dX12_share_231 rfl 2 rfl ?_
  refine tm_callV (M := m_X12_share) (pc := 232) (ix := 527) (M' := m_X12_unbind) (As := [.int (iI r)]) (rest := []) dX12_share_232 ok_X12_unbind im_X12_unbind se_X12_unbind ml12_527 np_X12_unbind rfl rfl (Nat.le_of_ble_eq_true rfl) (Nat.le_of_ble_eq_true rfl) rfl (f_X12_unbind (d + 1) (σ := σ43) (r := r) (F := F) (BG := (bgR σ r)) (by omega) R39 (hit.fr (show Fr [] [46, 59, 63, 64] [] σ σ43 from (((((Fr.rfl.trans (Fr.sub f4 (by decide) (by decide) (by decide))).trans (Fr.sub F14 (by decide) (by decide) (by decide))).trans (Fr.sub F22 (by decide) (by decide) (by decide))).trans (Fr.sub F30 (by decide) (by decide) (by decide))).trans (Fr.sub F38 (by decide) (by decide) (by decide)))) (by decide)) (hpar.fr (show Fr [] [46, 59, 63, 64] [] σ σ43 from (((((Fr.rfl.trans (Fr.sub f4 (by decide) (by decide) (by decide))).trans (Fr.sub F14 (by decide) (by decide) (by decide))).trans (Fr.sub F22 (by decide) (by decide) (by decide))).trans (Fr.sub F30 (by decide) (by decide) (by decide))).trans (Fr.sub F38 (by decide) (by decide) (by decide)))) (by decide)) (hok.fr (show Fr [] [46, 59, 63, 64] [] σ σ43 from (((((Fr.rfl.trans (Fr.sub f4 (by decide) (by decide) (by decide))).trans (Fr.sub F14 (by decide) (by decide) (by decide))).trans (Fr.sub F22 (by decide) (by decide) (by decide))).trans (Fr.sub F30 (by decide) (by decide) (by decide))).trans (Fr.sub F38 (by decide) (by decide) (by decide)))) (by decide)) hlab5 (hbo.fr (show Fr [] [46, 59, 63, 64] [] σ σ43 from (((((Fr.rfl.trans (Fr.sub f4 (by decide) (by decide) (by decide))).trans (Fr.sub F14 (by decide) (by decide) (by decide))).trans (Fr.sub F22 (by decide) (by decide) (by decide))).trans (Fr.sub F30 (by decide) (by decide) (by decide))).trans (Fr.sub F38 (by decide) (by decide) (by decide)))) (by decide)) hbl5 hnl5.num (hlex.fr (show Fr [] [46, 59, 63, 64] [] σ σ43 from (((((Fr.rfl.trans (Fr.sub f4 (by decide) (by decide) (by decide))).trans (Fr.sub F14 (by decide) (by decide) (by decide))).trans (Fr.sub F22 (by decide) (by decide) (by decide))).trans (Fr.sub F30 (by decide) (by decide) (by decide))).trans (Fr.sub F38 (by decide) (by decide) (by decide)))) (by decide)) hu5 hBG5 hdi5) (fun r44 σ45 hp => ?_)
  obtain ⟨rfl, f47, f48, f49, f50, f51, f52, f53⟩ := hp
  show Tm _ _ 235 b σ45 [(2, .int (iI g42)), (0, .ref b), (1, .int (iI r))] [] _
  have hlab6 := f49
  have hbo6 := f50
  have hok6 := f51
  have hxo6 := f52
  have hnl6 := hnl5.fr f47 (by decide)
  have hub6 : rV σ45 r = ubV (rV σ r) (σ.2.1 9 r) (σ43.2.1 64) (bgR σ r) := by have e9 := f53; rw [rv_fr (show Fr [] [46, 59, 63, 64] [] σ σ43 from (((((Fr.rfl.trans (Fr.sub f4 (by decide) (by decide) (by decide))).trans (Fr.sub F14 (by decide) (by decide) (by decide))).trans (Fr.sub F22 (by decide) (by decide) (by decide))).trans (Fr.sub F30 (by decide) (by decide) (by decide))).trans (Fr.sub F38 (by decide) (by decide) (by decide)))) (by decide), ((show Fr [] [46, 59, 63, 64] [] σ σ43 from (((((Fr.rfl.trans (Fr.sub f4 (by decide) (by decide) (by decide))).trans (Fr.sub F14 (by decide) (by decide) (by decide))).trans (Fr.sub F22 (by decide) (by decide) (by decide))).trans (Fr.sub F30 (by decide) (by decide) (by decide))).trans (Fr.sub F38 (by decide) (by decide) (by decide))))).2.1 9 (by decide)] at e9; exact e9
  refine tm_aload_n dX12_share_235 rfl 1 rfl ?_
  refine tm_iload_n dX12_share_236 rfl 2 rfl ?_
  refine tm_callV (M := m_X12_share) (pc := 237) (ix := 530) (M' := m_X12_renumber) (As := [.int (iI r)]) (rest := []) dX12_share_237 ok_X12_renumber im_X12_renumber se_X12_renumber ml12_530 np_X12_renumber rfl rfl (Nat.le_of_ble_eq_true rfl) (Nat.le_of_ble_eq_true rfl) rfl (f_X12_renumber (d + 1) (σ := σ45) (r := r) (F := F) (by omega) f48 (hit.fr (show Fr [] [6, 7, 8, 46, 47, 59, 63, 64, 65, 66] [] σ σ45 from ((((((Fr.rfl.trans (Fr.sub f4 (by decide) (by decide) (by decide))).trans (Fr.sub F14 (by decide) (by decide) (by decide))).trans (Fr.sub F22 (by decide) (by decide) (by decide))).trans (Fr.sub F30 (by decide) (by decide) (by decide))).trans (Fr.sub F38 (by decide) (by decide) (by decide))).trans (Fr.sub f47 (by decide) (by decide) (by decide)))) (by decide)) (hpar.fr (show Fr [] [6, 7, 8, 46, 47, 59, 63, 64, 65, 66] [] σ σ45 from ((((((Fr.rfl.trans (Fr.sub f4 (by decide) (by decide) (by decide))).trans (Fr.sub F14 (by decide) (by decide) (by decide))).trans (Fr.sub F22 (by decide) (by decide) (by decide))).trans (Fr.sub F30 (by decide) (by decide) (by decide))).trans (Fr.sub F38 (by decide) (by decide) (by decide))).trans (Fr.sub f47 (by decide) (by decide) (by decide)))) (by decide)) (hnam.fr (show Fr [] [6, 7, 8, 46, 47, 59, 63, 64, 65, 66] [] σ σ45 from ((((((Fr.rfl.trans (Fr.sub f4 (by decide) (by decide) (by decide))).trans (Fr.sub F14 (by decide) (by decide) (by decide))).trans (Fr.sub F22 (by decide) (by decide) (by decide))).trans (Fr.sub F30 (by decide) (by decide) (by decide))).trans (Fr.sub F38 (by decide) (by decide) (by decide))).trans (Fr.sub f47 (by decide) (by decide) (by decide)))) (by decide)) hnl6.num hok6 (hof.fr (show Fr [] [6, 7, 8, 46, 47, 59, 63, 64, 65, 66] [] σ σ45 from ((((((Fr.rfl.trans (Fr.sub f4 (by decide) (by decide) (by decide))).trans (Fr.sub F14 (by decide) (by decide) (by decide))).trans (Fr.sub F22 (by decide) (by decide) (by decide))).trans (Fr.sub F30 (by decide) (by decide) (by decide))).trans (Fr.sub F38 (by decide) (by decide) (by decide))).trans (Fr.sub f47 (by decide) (by decide) (by decide)))) (by decide))) (fun r54 σ55 hp => ?_)
  obtain ⟨rfl, f57, f58, f59, f60, f61, f62, f63, f64, f65⟩ := hp
  show Tm _ _ 240 b σ55 [(2, .int (iI g42)), (0, .ref b), (1, .int (iI r))] [] _
  have hok7 := f59
  have hof7 := f60
  have hxo7 := f61
  have hxn7 := f62
  have hdk7 := f63
  have hrv7 := f64
  have hnm7 := f65
  refine tm_aload_n dX12_share_240 rfl 1 rfl ?_
  refine tm_iload_n dX12_share_241 rfl 2 rfl ?_
  refine tm_callV (M := m_X12_share) (pc := 242) (ix := 410) (M' := m_X12_registers) (As := [.int (iI r)]) (rest := []) dX12_share_242 ok_X12_registers im_X12_registers se_X12_registers ml12_410 np_X12_registers rfl rfl (Nat.le_of_ble_eq_true rfl) (Nat.le_of_ble_eq_true rfl) rfl (f_X12_registers (d + 1) (σ := σ55) (r := r) (F := F) (by omega) f58 hof7 (hnam.fr (show Fr [] [4, 6, 7, 8, 18, 46, 47, 59, 63, 64, 65, 66] [] σ σ55 from (((((((Fr.rfl.trans (Fr.sub f4 (by decide) (by decide) (by decide))).trans (Fr.sub F14 (by decide) (by decide) (by decide))).trans (Fr.sub F22 (by decide) (by decide) (by decide))).trans (Fr.sub F30 (by decide) (by decide) (by decide))).trans (Fr.sub F38 (by decide) (by decide) (by decide))).trans (Fr.sub f47 (by decide) (by decide) (by decide))).trans (Fr.sub f57 (by decide) (by decide) (by decide)))) (by decide)) (hit.fr (show Fr [] [4, 6, 7, 8, 18, 46, 47, 59, 63, 64, 65, 66] [] σ σ55 from (((((((Fr.rfl.trans (Fr.sub f4 (by decide) (by decide) (by decide))).trans (Fr.sub F14 (by decide) (by decide) (by decide))).trans (Fr.sub F22 (by decide) (by decide) (by decide))).trans (Fr.sub F30 (by decide) (by decide) (by decide))).trans (Fr.sub F38 (by decide) (by decide) (by decide))).trans (Fr.sub f47 (by decide) (by decide) (by decide))).trans (Fr.sub f57 (by decide) (by decide) (by decide)))) (by decide)) (hpar.fr (show Fr [] [4, 6, 7, 8, 18, 46, 47, 59, 63, 64, 65, 66] [] σ σ55 from (((((((Fr.rfl.trans (Fr.sub f4 (by decide) (by decide) (by decide))).trans (Fr.sub F14 (by decide) (by decide) (by decide))).trans (Fr.sub F22 (by decide) (by decide) (by decide))).trans (Fr.sub F30 (by decide) (by decide) (by decide))).trans (Fr.sub F38 (by decide) (by decide) (by decide))).trans (Fr.sub f47 (by decide) (by decide) (by decide))).trans (Fr.sub f57 (by decide) (by decide) (by decide)))) (by decide)) hok7) (fun r66 σ67 hp => ?_)
  obtain ⟨v68, rfl, rfl, f69, f70, f71, f72⟩ := hp
  show Tm _ _ 245 b σ55 [(2, .int (iI g42)), (0, .ref b), (1, .int (iI r))] [.int (iI v68)] _
  exact tm_iret rfl dX12_share_245 (⟨_, rfl, (((((((Fr.rfl.trans (Fr.sub f4 (by decide) (by decide) (by decide))).trans (Fr.sub F14 (by decide) (by decide) (by decide))).trans (Fr.sub F22 (by decide) (by decide) (by decide))).trans (Fr.sub F30 (by decide) (by decide) (by decide))).trans (Fr.sub F38 (by decide) (by decide) (by decide))).trans (Fr.sub f47 (by decide) (by decide) (by decide))).trans (Fr.sub f57 (by decide) (by decide) (by decide))), f58, hlab6.fr f57 (by decide), hbo6.fr f57 (by decide), (hbl5.fr f47 (by decide)).fr f57 (by decide), ((hbd3.fr F38 (by decide)).fr f47 (by decide)).fr f57 (by decide), hnl6.fr f57 (by decide), hok7, hof7, ((XO.fr (show Fr [] [46, 59, 63, 64] [] σ σ43 from (((((Fr.rfl.trans (Fr.sub f4 (by decide) (by decide) (by decide))).trans (Fr.sub F14 (by decide) (by decide) (by decide))).trans (Fr.sub F22 (by decide) (by decide) (by decide))).trans (Fr.sub F30 (by decide) (by decide) (by decide))).trans (Fr.sub F38 (by decide) (by decide) (by decide)))) (by decide)).trans hxo6).trans hxo7, fun z hz => (hxn7 z hz).trans (by rw [((show Fr [] [6, 7, 8, 46, 47, 59, 63, 64, 65, 66] [] σ σ45 from ((((((Fr.rfl.trans (Fr.sub f4 (by decide) (by decide) (by decide))).trans (Fr.sub F14 (by decide) (by decide) (by decide))).trans (Fr.sub F22 (by decide) (by decide) (by decide))).trans (Fr.sub F30 (by decide) (by decide) (by decide))).trans (Fr.sub F38 (by decide) (by decide) (by decide))).trans (Fr.sub f47 (by decide) (by decide) (by decide))))).2.1 18 (by decide)]), hdk7.s (show Fr [] [6, 7, 8, 46, 47, 59, 63, 64, 65, 66] [] σ σ45 from ((((((Fr.rfl.trans (Fr.sub f4 (by decide) (by decide) (by decide))).trans (Fr.sub F14 (by decide) (by decide) (by decide))).trans (Fr.sub F22 (by decide) (by decide) (by decide))).trans (Fr.sub F30 (by decide) (by decide) (by decide))).trans (Fr.sub F38 (by decide) (by decide) (by decide))).trans (Fr.sub f47 (by decide) (by decide) (by decide)))) (by decide) (by decide), sh_fin (σ5 := σ43) (σ6 := σ45) hnb5 hnl5.num (by rw [((show Fr [] [6, 7, 8, 46, 47, 59, 63, 64, 65, 66] [] σ σ45 from ((((((Fr.rfl.trans (Fr.sub f4 (by decide) (by decide) (by decide))).trans (Fr.sub F14 (by decide) (by decide) (by decide))).trans (Fr.sub F22 (by decide) (by decide) (by decide))).trans (Fr.sub F30 (by decide) (by decide) (by decide))).trans (Fr.sub F38 (by decide) (by decide) (by decide))).trans (Fr.sub f47 (by decide) (by decide) (by decide))))).2.1 9 (by decide)]) (by rw [((show Fr [] [4, 6, 7, 8, 18, 46, 47, 59, 63, 64, 65, 66] [] σ σ55 from (((((((Fr.rfl.trans (Fr.sub f4 (by decide) (by decide) (by decide))).trans (Fr.sub F14 (by decide) (by decide) (by decide))).trans (Fr.sub F22 (by decide) (by decide) (by decide))).trans (Fr.sub F30 (by decide) (by decide) (by decide))).trans (Fr.sub F38 (by decide) (by decide) (by decide))).trans (Fr.sub f47 (by decide) (by decide) (by decide))).trans (Fr.sub f57 (by decide) (by decide) (by decide))))).2.1 9 (by decide)]) hub6 (f47.2.1 64 (by decide)) hrv7 (fun u w a b c d => by have e9 := hnm7 u w a (by rw [((show Fr [] [6, 7, 8, 46, 47, 59, 63, 64, 65, 66] [] σ σ45 from ((((((Fr.rfl.trans (Fr.sub f4 (by decide) (by decide) (by decide))).trans (Fr.sub F14 (by decide) (by decide) (by decide))).trans (Fr.sub F22 (by decide) (by decide) (by decide))).trans (Fr.sub F30 (by decide) (by decide) (by decide))).trans (Fr.sub F38 (by decide) (by decide) (by decide))).trans (Fr.sub f47 (by decide) (by decide) (by decide))))).2.1 14 (by decide)]; exact b) c (by rw [((show Fr [] [6, 7, 8, 46, 47, 59, 63, 64, 65, 66] [] σ σ45 from ((((((Fr.rfl.trans (Fr.sub f4 (by decide) (by decide) (by decide))).trans (Fr.sub F14 (by decide) (by decide) (by decide))).trans (Fr.sub F22 (by decide) (by decide) (by decide))).trans (Fr.sub F30 (by decide) (by decide) (by decide))).trans (Fr.sub F38 (by decide) (by decide) (by decide))).trans (Fr.sub f47 (by decide) (by decide) (by decide))))).2.1 12 (by decide), ((show Fr [] [6, 7, 8, 46, 47, 59, 63, 64, 65, 66] [] σ σ45 from ((((((Fr.rfl.trans (Fr.sub f4 (by decide) (by decide) (by decide))).trans (Fr.sub F14 (by decide) (by decide) (by decide))).trans (Fr.sub F22 (by decide) (by decide) (by decide))).trans (Fr.sub F30 (by decide) (by decide) (by decide))).trans (Fr.sub F38 (by decide) (by decide) (by decide))).trans (Fr.sub f47 (by decide) (by decide) (by decide))))).2.1 15 (by decide)]; exact d); rw [f47.2.1 64 (by decide), ((show Fr [] [6, 7, 8, 46, 47, 59, 63, 64, 65, 66] [] σ σ45 from ((((((Fr.rfl.trans (Fr.sub f4 (by decide) (by decide) (by decide))).trans (Fr.sub F14 (by decide) (by decide) (by decide))).trans (Fr.sub F22 (by decide) (by decide) (by decide))).trans (Fr.sub F30 (by decide) (by decide) (by decide))).trans (Fr.sub F38 (by decide) (by decide) (by decide))).trans (Fr.sub f47 (by decide) (by decide) (by decide))))).2.1 18 (by decide)] at e9; exact e9) ⟨by omega, ⟨f70, f71⟩, f72⟩⟩)
end
section
abbrev BB : Type := Int × (Int → It)
def bA (s : BB) (i : It) : BB := (s.1 + 1, uZ s.2 s.1 i)
def nmS (f base P : Int) (na : Int → Int) (x : It) (m : Int) (s : BB) : BB :=
  if m < P then bA (bA s (mkI 0 (base + na m) 0 (x (3 + 2 * m)) (x (4 + 2 * m)) 0)) (mkI 12 m f 2 (base + na m) 2)
  else bA s (mkI 12 m f 1 0 1)
def mb1 (f base P : Int) (na : Int → Int) (x : It) (s : BB) : Nat → BB
  | 0 => s
  | m + 1 => nmS f base P na x m (mb1 f base P na x s m)
noncomputable def mb2 (base : Int) (lv : Int → Prop) (s : BB) : Nat → BB
  | 0 => s
  | g + 1 => dI (lv g) (bA (mb2 base lv s g) (mkI 0 (base + g) 0 1 0 0)) (mb2 base lv s g)
def shO (base : Int) (i : It) : It := fun c => if (c = 4 ∨ c = 6 ∨ c = 8 ∨ c = 10) ∧ i (c - 1) = 2 then i c + base else i c
def mlI (f base lb : Int) (i : It) : It :=
  if i 0 = 8 ∨ i 0 = 9 ∨ i 0 = 13 then uZ (shO base i) 1 (i 1 + lb)
  else if i 0 = 11 ∨ i 0 = 12 then uZ (shO base i) 2 (i 2 + f)
  else if i 0 = 14 ∨ i 0 = 15 then uZ (shO base i) 1 (i 1 + f)
  else if i 0 = 6 then shO base i
  else uZ (shO base i) 1 (i 1 + base)
def mb3 (f base lb to out : Int) (V : Int → It) (s : BB) : Nat → BB
  | 0 => s
  | k + 1 => if V k 0 = 7 then bA (bA (mb3 f base lb to out V s k) (uZ (uZ (shO base (V k)) 0 0) 1 to)) (mkI 8 out 0 0 0 0) else bA (mb3 f base lb to out V s k) (mlI f base lb (V k))
def bS (σ : MS) : BB := (σ.1 62, fun j => if 0 ≤ j ∧ j < σ.1 62 then rI σ (2640 + j) else zI)
section MB
variable {σ τ : MS} {k d o ak a w : Int}
theorem bS_one (i : It) (h0 : 0 ≤ σ.1 62) (hn : τ.1 62 = σ.1 62 + 1) (ho : OFF (2640 + σ.1 62) σ τ) (hi : rI τ (2640 + σ.1 62) = i) : bS τ = bA (bS σ) i := by
  unfold bS bA
  rw [hn]
  refine Prod.ext rfl ?_
  funext j
  show (if 0 ≤ j ∧ j < σ.1 62 + 1 then rI τ (2640 + j) else zI) = uZ (fun j => if 0 ≤ j ∧ j < σ.1 62 then rI σ (2640 + j) else zI) (σ.1 62) i j
  by_cases e : j = σ.1 62
  · rw [e, uZ_eq, if_pos ⟨h0, by omega⟩, hi]
  · rw [uZ_ne e]
    by_cases q : 0 ≤ j ∧ j < σ.1 62
    · rw [if_pos q, if_pos ⟨q.1, by omega⟩, ho.ri (by omega)]
    · rw [if_neg q, if_neg (by omega)]
theorem add_ri : rI (fAdd k d o ak a σ) (2640 + σ.1 62) = mkI k d o ak a 0 := by
  have e : rI (fAdd k d o ak a σ) = rI (fArg (2640 + σ.1 62) 0 ak a (fItem (2640 + σ.1 62) k d o σ)) := Fr.ri (ss := [62]) (ks := []) (js := []) (Fr.rfl.S (by decide)) (by decide)
  rw [e, ri_arg0, item_ri]
  funext c
  by_cases h4 : c = 4
  · rw [h4, uZ_eq]; rfl
  · rw [uZ_ne h4]
    by_cases h3 : c = 3
    · rw [h3, uZ_eq]; rfl
    · rw [uZ_ne h3]
      simp [mkI, h3, h4]
theorem bS_add (h0 : 0 ≤ σ.1 62) : bS (fAdd k d o ak a σ) = bA (bS σ) (mkI k d o ak a 0) := bS_one _ h0 fAdd_n fAdd_off add_ri
theorem bS_addB {n f v : Int} (h0 : 0 ≤ σ.1 62) : bS (fAddB n f w v σ) = bA (bS σ) (mkI 12 n f w v w) := by
  refine bS_one _ h0 (show (fAddB n f w v σ).1 62 = σ.1 62 + 1 from fAdd_n (k := 12) (d := n) (o := f) (ak := w) (a := v) (σ := σ)) fAddB_off ?_
  unfold fAddB
  rw [ri_A6, add_ri]
  funext c
  by_cases h : c = 11
  · rw [h, uZ_eq]; rfl
  · rw [uZ_ne h]
    simp [mkI, h]
theorem bS_bind {n f v z : Int} (h0 : 0 ≤ σ.1 62) (hz : z = 2640 + σ.1 62) : bS (sA 6 z w (fAdd 12 n f w v σ)) = bA (bS σ) (mkI 12 n f w v w) := by
  rw [hz]
  exact bS_addB h0
theorem mb1_s {f base P m : Int} {na : Int → Int} {x : It} {s : BB} (h : 0 ≤ m) : mb1 f base P na x s (m + 1).toNat = nmS f base P na x m (mb1 f base P na x s m.toNat) := by
  rw [show (m + 1).toNat = m.toNat + 1 by omega]
  show nmS f base P na x ((m.toNat : Nat) : Int) (mb1 f base P na x s m.toNat) = _
  rw [show ((m.toNat : Nat) : Int) = m by omega]
theorem mb2_s {base g : Int} {lv : Int → Prop} {s : BB} (h : 0 ≤ g) : mb2 base lv s (g + 1).toNat = dI (lv g) (bA (mb2 base lv s g.toNat) (mkI 0 (base + g) 0 1 0 0)) (mb2 base lv s g.toNat) := by
  rw [show (g + 1).toNat = g.toNat + 1 by omega]
  show dI (lv ((g.toNat : Nat) : Int)) (bA (mb2 base lv s g.toNat) (mkI 0 (base + ((g.toNat : Nat) : Int)) 0 1 0 0)) (mb2 base lv s g.toNat) = _
  rw [show ((g.toNat : Nat) : Int) = g by omega]
theorem mb3_s {f base lb to out k : Int} {V : Int → It} {s : BB} (h : 0 ≤ k) : mb3 f base lb to out V s (k + 1).toNat = if V k 0 = 7 then bA (bA (mb3 f base lb to out V s k.toNat) (uZ (uZ (shO base (V k)) 0 0) 1 to)) (mkI 8 out 0 0 0 0) else bA (mb3 f base lb to out V s k.toNat) (mlI f base lb (V k)) := by
  rw [show (k + 1).toNat = k.toNat + 1 by omega]
  show (if V ((k.toNat : Nat) : Int) 0 = 7 then bA (bA (mb3 f base lb to out V s k.toNat) (uZ (uZ (shO base (V ((k.toNat : Nat) : Int))) 0 0) 1 to)) (mkI 8 out 0 0 0 0) else bA (mb3 f base lb to out V s k.toNat) (mlI f base lb (V ((k.toNat : Nat) : Int)))) = _
  rw [show ((k.toNat : Nat) : Int) = k by omega]
end MB
def naR (ρ : MS) (q : Int) : Int → Int := fun m => ρ.2.1 18 (144 * q + m)
def LPQ (ρ : MS) (q : Int) : Int → Prop := fun g => ρ.2.1 59 g = 1 ∧ ¬ PMQ ρ q g
section ML
variable {f base lb : Int} {i : It}
theorem ml_lab (h : i 0 = 8 ∨ i 0 = 9 ∨ i 0 = 13) : mlI f base lb i = uZ (shO base i) 1 (i 1 + lb) := if_pos h
theorem ml_of (h : i 0 = 11 ∨ i 0 = 12) : mlI f base lb i = uZ (shO base i) 2 (i 2 + f) := by
  unfold mlI; rw [if_neg (by omega), if_pos h]
theorem ml_frm (h : i 0 = 14 ∨ i 0 = 15) : mlI f base lb i = uZ (shO base i) 1 (i 1 + f) := by
  unfold mlI; rw [if_neg (by omega), if_neg (by omega), if_pos h]
theorem ml_out (h : i 0 = 6) : mlI f base lb i = shO base i := by
  unfold mlI; rw [if_neg (by omega), if_neg (by omega), if_neg (by omega), if_pos h]
theorem ml_reg (h : i 0 ≤ 5) : mlI f base lb i = uZ (shO base i) 1 (i 1 + base) := by
  unfold mlI; rw [if_neg (by omega), if_neg (by omega), if_neg (by omega), if_neg (by omega)]
end ML
theorem MIC.ri {ρ σ L : MS} {x a base : Int} (h : MIC ρ σ L x a base) : rI L (2640 + a) = shO base (rI ρ x) := by
  obtain ⟨_, h3, h4, h5, ⟨h6, h7⟩, _⟩ := h
  have a0 := h7 0 (by decide) (by decide)
  have a1 := h7 1 (by decide) (by decide)
  have a2 := h7 2 (by decide) (by decide)
  have a3 := h7 3 (by decide) (by decide)
  have hN : ∀ j, 0 ≤ j → j < 4 → L.2.1 8 (4 * (2640 + a) + j) = (if ρ.2.1 7 (4 * x + j) = 2 then ρ.2.1 8 (4 * x + j) + base else ρ.2.1 8 (4 * x + j)) := fun j p q => by
    rw [(h7 j p q).2]
    by_cases e : ρ.2.1 7 (4 * x + j) = 2
    · rw [if_pos e, if_pos e]
    · rw [if_neg e, if_neg e]; omega
  funext c
  by_cases ev : c = 4 ∨ c = 6 ∨ c = 8 ∨ c = 10
  · have e : c = 4 + 2 * ((c - 4) / 2) := by omega
    have p : 0 ≤ (c - 4) / 2 := by omega
    have q : (c - 4) / 2 < 4 := by omega
    generalize (c - 4) / 2 = j at e p q
    subst e
    unfold shO
    rw [riN p q, hN j p q, show 4 + 2 * j - 1 = 3 + 2 * j by omega, riK p q, riN p q]
    by_cases z : ρ.2.1 7 (4 * x + j) = 2
    · rw [if_pos z, if_pos ⟨by omega, z⟩]
    · rw [if_neg z, if_neg (fun w => z w.2)]
  · unfold shO
    rw [if_neg (fun w => ev w.1)]
    simp only [rI, h3, h4, h5, h6, a0.1, a1.1, a2.1, a3.1, if_neg (show ¬ c = 4 by omega), if_neg (show ¬ c = 6 by omega), if_neg (show ¬ c = 8 by omega), if_neg (show ¬ c = 10 by omega)]
theorem mi_bS {ρ σ L : MS} {x base : Int} {i : It} (h : MIC ρ σ L x (σ.1 62) base) (h0 : 0 ≤ σ.1 62) {c : MS} (hn : c.1 62 = σ.1 62 + 1) (ho : OFF (2640 + σ.1 62) L c) (hi : rI c (2640 + σ.1 62) = i) : bS c = bA (bS σ) i := bS_one i h0 hn (h.1.trans ho) hi
end
section
set_option maxHeartbeats 1000000 in
set_option maxRecDepth 20000 in
theorem f_X12_meltItem (d : Nat) {b : Nat} {σ : MS} {x : Int} {f : Int} {base : Int} {lb : Int} {to : Int} {out : Int} {ρ : MS} {FI : Int → Int} {lf : Int → Int} {frq : Int → Int} {lfq : Int → Int} {q : Int} {i : Int} {g0 : Int} {m : Int} (hR : RG σ) (hx : x = 220 * q + i) (hq : 0 ≤ q ∧ q < 6 ∧ i < 220) (hn : σ.1 62 ≤ 217) (hmi : MIH ρ σ q f base lb to out g0 (σ.1 62) i m FI lf frq lfq) (hf2 : f + ρ.2.1 14 q ≤ 12 ∧ 0 ≤ ρ.2.1 14 q ∧ 0 ≤ m) : Tm (d + 3) m_X12_meltItem 0 b σ [(0, .ref b), (1, .int (iI x)), (2, .int (iI f)), (3, .int (iI base)), (4, .int (iI lb)), (5, .int (iI to)), (6, .int (iI out))] [] (fun ro σ2 => ro = none ∧ (Fr [62] [3, 4, 5, 6, 7, 8] [] σ σ2) ∧ (RG σ2) ∧ (σ2.1 62 = σ.1 62 + (if ρ.2.1 3 (220 * q + i) = 7 then 2 else 1)) ∧ (MSG ρ σ2 FI lf q (f + ρ.2.1 14 q) lb out g0 (σ2.1 62) (i + 1) (Gq ρ q f frq (i + 1))) ∧ (bS σ2 = (if ρ.2.1 3 (220 * q + i) = 7 then bA (bA (bS σ) (uZ (uZ (shO base (rI ρ (220 * q + i))) 0 0) 1 to)) (mkI 8 out 0 0 0 0) else bA (bS σ) (mlI f base lb (rI ρ (220 * q + i)))))) := by
  have hix : IEQ ρ x σ x := by rw [hx]; exact hmi.ms.2.2.2.2.2.1 _ (by omega)
  have hokx : OKI ρ (ρ.2.1 14 q) x := by rw [hx]; exact hmi.ok
  have ha := hmi.ha
  have hi := hmi.hi
  have hb := hmi.hb
  have ht := hmi.ht
  have hl := hmi.hl
  have hf := hmi.hf
  refine tm_sipush dX12_meltItem_0 (by decide) ?_
  refine tm_aload_n dX12_meltItem_3 rfl 0 rfl ?_
  refine tm_getS (k := 62) (t := σ.1 62) dX12_meltItem_4 (by decide) fl12_509 rfl (rfl) ?_
  have g1 := RG.s hR 62
  refine tm_iadd dX12_meltItem_7 ?_
  refine tm_istore (L' := [(7, .int (iI (2640 + (σ.1 62)))), (0, .ref b), (1, .int (iI x)), (2, .int (iI f)), (3, .int (iI base)), (4, .int (iI lb)), (5, .int (iI to)), (6, .int (iI out))]) dX12_meltItem_8 (by decide) rfl ?_
  refine tm_aload_n dX12_meltItem_10 rfl 1 rfl ?_
  refine tm_iload_n dX12_meltItem_11 rfl 2 rfl ?_
  refine tm_iload dX12_meltItem_12 0 rfl ?_
  refine tm_callV (M := m_X12_meltItem) (pc := 14) (ix := 394) (M' := m_X12_copyItem) (As := [.int (iI x), .int (iI (2640 + (σ.1 62)))]) (rest := []) dX12_meltItem_14 ok_X12_copyItem im_X12_copyItem se_X12_copyItem ml12_394 np_X12_copyItem rfl rfl (Nat.le_of_ble_eq_true rfl) (Nat.le_of_ble_eq_true rfl) rfl (c_X12_copyItem (d + 1) (σ := σ) (f := x) (t := 2640 + (σ.1 62)) (by omega) (by omega)) (fun r2 σ3 hp => ?_)
  obtain ⟨rfl, f5⟩ := hp
  subst f5
  show Tm _ _ 17 b (fCopy (x) (2640 + (σ.1 62)) σ) [(7, .int (iI (2640 + (σ.1 62)))), (0, .ref b), (1, .int (iI x)), (2, .int (iI f)), (3, .int (iI base)), (4, .int (iI lb)), (5, .int (iI to)), (6, .int (iI out))] [] _
  refine tm_aload_n dX12_meltItem_17 rfl 1 rfl ?_
  refine tm_dup dX12_meltItem_18 rfl ?_
  refine tm_getS (k := 62) (t := σ.1 62) dX12_meltItem_19 (by decide) fl12_509 rfl (rs_F fCopy_fr (by decide) (rfl)) ?_
  have g6 := RG.s hR 62
  refine tm_iconst dX12_meltItem_22 ?_
  refine tm_iadd dX12_meltItem_23 ?_
  refine tm_putS (k := 62) (v := (σ.1 62) + 1) lay_12 dX12_meltItem_24 (by decide) fl12_509 rfl (tyX12_ok 62 (by decide)) rfl rfl rfl ?_
  refine tm_iconst dX12_meltItem_27 ?_
  refine tm_istore (L' := [(8, .int (iI 0)), (7, .int (iI (2640 + (σ.1 62)))), (0, .ref b), (1, .int (iI x)), (2, .int (iI f)), (3, .int (iI base)), (4, .int (iI lb)), (5, .int (iI to)), (6, .int (iI out))]) dX12_meltItem_28 (by decide) rfl ?_
  refine tm_sub [0, 1, 2, 3, 4, 5, 6, 7, 8] rfl (l_mi (d + 2) (σ0 := (sS 62 ((σ.1 62) + 1) (fCopy (x) (2640 + (σ.1 62)) σ))) (y := 2640 + (σ.1 62)) (x := x) (f := f) (base := base) (lb := lb) (to := to) (out := out) ((hR.copy).S (by omega)) (by omega) (fun u a c e => by
   have i1 := fCopy_ieq (f := x) (t := 2640 + σ.1 62) (σ := σ)
   have i2 := hix.trans i1
   have o8 := hokx.2.2.2.2.2.2.2.1 u a c
   rw [← (i2.2.2.2.2 u a c).1, ← (i2.2.2.2.2 u a c).2] at o8
   exact (o8.2 e).1) (by omega) (fun j13 σ14 F9 R10 f11 f12 => ?_) _ (0) (sS 62 ((σ.1 62) + 1) (fCopy (x) (2640 + (σ.1 62)) σ)) Fr.rfl ((hR.copy).S (by omega)) (by omega) OFF.rfl (fun u a c => ⟨fun w => absurd w (by omega), fun _ => rfl⟩) rfl)
  show Tm _ _ 78 b σ14 [(7, .int (iI (2640 + (σ.1 62)))), (0, .ref b), (1, .int (iI x)), (2, .int (iI f)), (3, .int (iI base)), (4, .int (iI lb)), (5, .int (iI to)), (6, .int (iI out))] [] _
  have n62 : σ14.1 62 = σ.1 62 + 1 := by rw [F9.1 62 (by decide)]; exact rs_eq
  have hmc0 : MIC ρ σ σ14 x (σ.1 62) base := MIC.mk (by omega) hix hmi.ms.2.2.2.2.2.2 f11 F9 f12
  have hmc : MIC ρ σ σ14 (220 * q + i) (σ.1 62) base := by rw [← hx]; exact hmc0
  have e3x : (fCopy (x) (2640 + (σ.1 62)) σ).2.1 3 x = ρ.2.1 3 (220 * q + i) := by rw [← hx]; exact (hix.trans (fCopy_off.ieq (by omega))).1
  have k0 := hmi.ok.1
  have k10 := hmi.h10
  have c3 := hmc.2.1
  have c4 := hmc.2.2.1
  have c5 := hmc.2.2.2.1
  have c4f : (fCopy (x) (2640 + (σ.1 62)) σ).2.1 4 (2640 + σ.1 62) = ρ.2.1 4 (220 * q + i) := by rw [← hx]; exact (hix.trans fCopy_ieq).2.1
  have c5f : (fCopy (x) (2640 + (σ.1 62)) σ).2.1 5 (2640 + σ.1 62) = ρ.2.1 5 (220 * q + i) := by rw [← hx]; exact (hix.trans fCopy_ieq).2.2.1
  have ok4 := hmi.ok.2.2.1
  have ok5 := hmi.ok.2.2.2.1
  have ok6 := hmi.ok.2.1
  have ok7 := hmi.ok.2.2.2.2.2.1
  refine tm_aload_n dX12_meltItem_78 rfl 1 rfl ?_
  refine tm_get (k := 3) (v := .ref (b + 1 + 1)) lay_12 dX12_meltItem_79 (by decide) fl12_13 rfl ?_
  refine tm_iload_n dX12_meltItem_82 rfl 2 rfl ?_
  refine tm_iald (z := x) (v := (fCopy (x) (2640 + (σ.1 62)) σ).2.1 3 x) dX12_meltItem_83 (show mT[1]? = some (3, 0, 2860) from rfl) (by omega) (by omega) (by decide) (ra_F F9 (by decide) (ra_S (rfl))) ?_
  by_cases h15 : (fCopy (x) (2640 + (σ.1 62)) σ).2.1 3 x < 6 ∨ 15 < (fCopy (x) (2640 + (σ.1 62)) σ).2.1 3 x
  · refine tm_tableOut (tgt := 217) dX12_meltItem_84 ⟨by omega, by omega⟩ h15 (by decide) ?_
    refine tm_aload_n dX12_meltItem_217 rfl 1 rfl ?_
    refine tm_get (k := 4) (v := .ref (b + 1 + 2)) lay_12 dX12_meltItem_218 (by decide) fl12_17 rfl ?_
    refine tm_iload dX12_meltItem_221 0 rfl ?_
    refine tm_dup2 dX12_meltItem_223 rfl rfl ?_
    refine tm_iald (z := 2640 + (σ.1 62)) (v := (fCopy (x) (2640 + (σ.1 62)) σ).2.1 4 (2640 + (σ.1 62))) dX12_meltItem_224 (show mT[2]? = some (4, 0, 2860) from rfl) (by omega) (by omega) (by decide) (ra_F F9 (by decide) (ra_S (rfl))) ?_
    refine tm_iload_n dX12_meltItem_225 rfl 4 rfl ?_
    refine tm_iadd dX12_meltItem_226 ?_
    refine tm_iast (z := 2640 + (σ.1 62)) (v := ((fCopy (x) (2640 + (σ.1 62)) σ).2.1 4 (2640 + (σ.1 62))) + base) dX12_meltItem_227 (show mT[2]? = some (4, 0, 2860) from rfl) (by omega) (by omega) (by decide) ?_
    exact tm_vret rfl dX12_meltItem_228 (⟨rfl, ((((Fr.rfl.trans (Fr.sub fCopy_fr (by decide) (by decide) (by decide))).S (by decide)).trans (Fr.sub F9 (by decide) (by decide) (by decide))).A (by decide)), (R10.A (by omega)), by rw [show (sA 4 (2640 + (σ.1 62)) (((fCopy (x) (2640 + (σ.1 62)) σ).2.1 4 (2640 + (σ.1 62))) + base) σ14).1 62 = σ.1 62 + 1 from n62, if_neg (by omega)], by rw [show (sA 4 (2640 + (σ.1 62)) (((fCopy (x) (2640 + (σ.1 62)) σ).2.1 4 (2640 + (σ.1 62))) + base) σ14).1 62 = σ.1 62 + 1 from n62]; exact mi_reg hmi hmc (by omega) (by omega), by rw [if_neg (by omega)]; exact mi_bS hmc (by omega) n62 (OFF.A (by decide)) (by rw [ri_A4, hmc.ri, ml_reg (by show ρ.2.1 3 (220 * q + i) ≤ 5; omega), ri1, c4f])⟩)
  · have h15c : (fCopy (x) (2640 + (σ.1 62)) σ).2.1 3 x = 6 ∨ (fCopy (x) (2640 + (σ.1 62)) σ).2.1 3 x = 7 ∨ (fCopy (x) (2640 + (σ.1 62)) σ).2.1 3 x = 8 ∨ (fCopy (x) (2640 + (σ.1 62)) σ).2.1 3 x = 9 ∨ (fCopy (x) (2640 + (σ.1 62)) σ).2.1 3 x = 10 ∨ (fCopy (x) (2640 + (σ.1 62)) σ).2.1 3 x = 11 ∨ (fCopy (x) (2640 + (σ.1 62)) σ).2.1 3 x = 12 ∨ (fCopy (x) (2640 + (σ.1 62)) σ).2.1 3 x = 13 ∨ (fCopy (x) (2640 + (σ.1 62)) σ).2.1 3 x = 14 ∨ (fCopy (x) (2640 + (σ.1 62)) σ).2.1 3 x = 15 := by omega
    rcases h15c with h15v | h15v | h15v | h15v | h15v | h15v | h15v | h15v | h15v | h15v
    · refine tm_tableIn (tgt := 214) dX12_meltItem_84 ⟨by omega, by omega⟩ (by omega) (by omega) (show _ = some (130) by rw [h15v]; rfl) (by decide) ?_
      refine tm_goto (tgt := 228) dX12_meltItem_214 (by decide) ?_
      exact tm_vret rfl dX12_meltItem_228 (⟨rfl, (((Fr.rfl.trans (Fr.sub fCopy_fr (by decide) (by decide) (by decide))).S (by decide)).trans (Fr.sub F9 (by decide) (by decide) (by decide))), R10, by rw [show σ14.1 62 = σ.1 62 + 1 from n62, if_neg (by omega)], by rw [show σ14.1 62 = σ.1 62 + 1 from n62]; exact mi_out hmi hmc (by omega), by rw [if_neg (by omega)]; exact mi_bS hmc (by omega) n62 OFF.rfl (by rw [hmc.ri, ml_out (by show ρ.2.1 3 (220 * q + i) = 6; omega)])⟩)
    · refine tm_tableIn (tgt := 140) dX12_meltItem_84 ⟨by omega, by omega⟩ (by omega) (by omega) (show _ = some (56) by rw [h15v]; rfl) (by decide) ?_
      refine tm_aload_n dX12_meltItem_140 rfl 1 rfl ?_
      refine tm_get (k := 3) (v := .ref (b + 1 + 1)) lay_12 dX12_meltItem_141 (by decide) fl12_13 rfl ?_
      refine tm_iload dX12_meltItem_144 0 rfl ?_
      refine tm_iconst dX12_meltItem_146 ?_
      refine tm_iast (z := 2640 + (σ.1 62)) (v := 0) dX12_meltItem_147 (show mT[1]? = some (3, 0, 2860) from rfl) (by omega) (by omega) (by decide) ?_
      refine tm_aload_n dX12_meltItem_148 rfl 1 rfl ?_
      refine tm_get (k := 4) (v := .ref (b + 1 + 2)) lay_12 dX12_meltItem_149 (by decide) fl12_17 rfl ?_
      refine tm_iload dX12_meltItem_152 0 rfl ?_
      refine tm_iload dX12_meltItem_154 6 rfl ?_
      refine tm_iast (z := 2640 + (σ.1 62)) (v := to) dX12_meltItem_156 (show mT[2]? = some (4, 0, 2860) from rfl) (by omega) (by omega) (by decide) ?_
      refine tm_aload_n dX12_meltItem_157 rfl 1 rfl ?_
      refine tm_bipush dX12_meltItem_158 (by decide) ?_
      refine tm_iload dX12_meltItem_160 7 rfl ?_
      refine tm_iconst dX12_meltItem_162 ?_
      refine tm_iconst dX12_meltItem_163 ?_
      refine tm_iconst dX12_meltItem_164 ?_
      have n62' : (sA 4 (2640 + (σ.1 62)) (to) (sA 3 (2640 + (σ.1 62)) (0) σ14)).1 62 = σ.1 62 + 1 := n62
      refine tm_callV (M := m_X12_meltItem) (pc := 165) (ix := 515) (M' := m_X12_add) (As := [.int (iI 8), .int (iI out), .int (iI 0), .int (iI 0), .int (iI 0)]) (rest := []) dX12_meltItem_165 ok_X12_add im_X12_add se_X12_add ml12_515 np_X12_add rfl rfl (Nat.le_of_ble_eq_true rfl) (Nat.le_of_ble_eq_true rfl) rfl (c_X12_add (d) (σ := (sA 4 (2640 + (σ.1 62)) (to) (sA 3 (2640 + (σ.1 62)) (0) σ14))) (k := 8) (e := out) (o := 0) (ak := 0) (a := 0) ((R10.A (by omega)).A (by omega)) (by rw [n62']; omega)) (fun r16 σ17 hp => ?_)
      obtain ⟨rfl, f19⟩ := hp
      subst f19
      show Tm _ _ 168 b (fAdd (8) (out) (0) (0) (0) (sA 4 (2640 + (σ.1 62)) (to) (sA 3 (2640 + (σ.1 62)) (0) σ14))) [(7, .int (iI (2640 + (σ.1 62)))), (0, .ref b), (1, .int (iI x)), (2, .int (iI f)), (3, .int (iI base)), (4, .int (iI lb)), (5, .int (iI to)), (6, .int (iI out))] [] _
      refine tm_goto (tgt := 228) dX12_meltItem_168 (by decide) ?_
      exact tm_vret rfl dX12_meltItem_228 (⟨rfl, ((((((Fr.rfl.trans (Fr.sub fCopy_fr (by decide) (by decide) (by decide))).S (by decide)).trans (Fr.sub F9 (by decide) (by decide) (by decide))).A (by decide)).A (by decide)).trans (Fr.sub fAdd_fr (by decide) (by decide) (by decide))), (((R10.A (by omega)).A (by omega)).add (by rw [n62']; omega) (by decide) (by omega) (by decide) (by decide) (by decide)), by rw [show (fAdd (8) (out) (0) (0) (0) (sA 4 (2640 + (σ.1 62)) (to) (sA 3 (2640 + (σ.1 62)) (0) σ14))).1 62 = σ14.1 62 + 1 from fAdd_n, n62, if_pos (by omega)]; omega, by rw [show (fAdd (8) (out) (0) (0) (0) (sA 4 (2640 + (σ.1 62)) (to) (sA 3 (2640 + (σ.1 62)) (0) σ14))).1 62 = σ14.1 62 + 1 from fAdd_n, n62]; exact mi_ret hmi hmc (by omega) n62, by rw [if_pos (by omega), bS_add (by rw [n62']; omega), mi_bS (c := (sA 4 (2640 + (σ.1 62)) (to) (sA 3 (2640 + (σ.1 62)) (0) σ14))) hmc (by omega) n62 ((OFF.A (by decide)).trans (OFF.A (by decide))) (by rw [ri_A4, ri_A3, hmc.ri])]⟩)
    · refine tm_tableIn (tgt := 171) dX12_meltItem_84 ⟨by omega, by omega⟩ (by omega) (by omega) (show _ = some (87) by rw [h15v]; rfl) (by decide) ?_
      refine tm_aload_n dX12_meltItem_171 rfl 1 rfl ?_
      refine tm_get (k := 4) (v := .ref (b + 1 + 2)) lay_12 dX12_meltItem_172 (by decide) fl12_17 rfl ?_
      refine tm_iload dX12_meltItem_175 0 rfl ?_
      refine tm_dup2 dX12_meltItem_177 rfl rfl ?_
      refine tm_iald (z := 2640 + (σ.1 62)) (v := (fCopy (x) (2640 + (σ.1 62)) σ).2.1 4 (2640 + (σ.1 62))) dX12_meltItem_178 (show mT[2]? = some (4, 0, 2860) from rfl) (by omega) (by omega) (by decide) (ra_F F9 (by decide) (ra_S (rfl))) ?_
      refine tm_iload dX12_meltItem_179 5 rfl ?_
      refine tm_iadd dX12_meltItem_181 ?_
      refine tm_iast (z := 2640 + (σ.1 62)) (v := ((fCopy (x) (2640 + (σ.1 62)) σ).2.1 4 (2640 + (σ.1 62))) + lb) dX12_meltItem_182 (show mT[2]? = some (4, 0, 2860) from rfl) (by omega) (by omega) (by decide) ?_
      refine tm_goto (tgt := 228) dX12_meltItem_183 (by decide) ?_
      exact tm_vret rfl dX12_meltItem_228 (⟨rfl, ((((Fr.rfl.trans (Fr.sub fCopy_fr (by decide) (by decide) (by decide))).S (by decide)).trans (Fr.sub F9 (by decide) (by decide) (by decide))).A (by decide)), (R10.A (by omega)), by rw [show (sA 4 (2640 + (σ.1 62)) (((fCopy (x) (2640 + (σ.1 62)) σ).2.1 4 (2640 + (σ.1 62))) + lb) σ14).1 62 = σ.1 62 + 1 from n62, if_neg (by omega)], by rw [show (sA 4 (2640 + (σ.1 62)) (((fCopy (x) (2640 + (σ.1 62)) σ).2.1 4 (2640 + (σ.1 62))) + lb) σ14).1 62 = σ.1 62 + 1 from n62]; exact mi_lab hmi hmc (by omega) (by omega), by rw [if_neg (by omega)]; exact mi_bS hmc (by omega) n62 (OFF.A (by decide)) (by rw [ri_A4, hmc.ri, ml_lab (by show ρ.2.1 3 (220 * q + i) = 8 ∨ ρ.2.1 3 (220 * q + i) = 9 ∨ ρ.2.1 3 (220 * q + i) = 13; omega), ri1, c4f])⟩)
    · refine tm_tableIn (tgt := 171) dX12_meltItem_84 ⟨by omega, by omega⟩ (by omega) (by omega) (show _ = some (87) by rw [h15v]; rfl) (by decide) ?_
      refine tm_aload_n dX12_meltItem_171 rfl 1 rfl ?_
      refine tm_get (k := 4) (v := .ref (b + 1 + 2)) lay_12 dX12_meltItem_172 (by decide) fl12_17 rfl ?_
      refine tm_iload dX12_meltItem_175 0 rfl ?_
      refine tm_dup2 dX12_meltItem_177 rfl rfl ?_
      refine tm_iald (z := 2640 + (σ.1 62)) (v := (fCopy (x) (2640 + (σ.1 62)) σ).2.1 4 (2640 + (σ.1 62))) dX12_meltItem_178 (show mT[2]? = some (4, 0, 2860) from rfl) (by omega) (by omega) (by decide) (ra_F F9 (by decide) (ra_S (rfl))) ?_
      refine tm_iload dX12_meltItem_179 5 rfl ?_
      refine tm_iadd dX12_meltItem_181 ?_
      refine tm_iast (z := 2640 + (σ.1 62)) (v := ((fCopy (x) (2640 + (σ.1 62)) σ).2.1 4 (2640 + (σ.1 62))) + lb) dX12_meltItem_182 (show mT[2]? = some (4, 0, 2860) from rfl) (by omega) (by omega) (by decide) ?_
      refine tm_goto (tgt := 228) dX12_meltItem_183 (by decide) ?_
      exact tm_vret rfl dX12_meltItem_228 (⟨rfl, ((((Fr.rfl.trans (Fr.sub fCopy_fr (by decide) (by decide) (by decide))).S (by decide)).trans (Fr.sub F9 (by decide) (by decide) (by decide))).A (by decide)), (R10.A (by omega)), by rw [show (sA 4 (2640 + (σ.1 62)) (((fCopy (x) (2640 + (σ.1 62)) σ).2.1 4 (2640 + (σ.1 62))) + lb) σ14).1 62 = σ.1 62 + 1 from n62, if_neg (by omega)], by rw [show (sA 4 (2640 + (σ.1 62)) (((fCopy (x) (2640 + (σ.1 62)) σ).2.1 4 (2640 + (σ.1 62))) + lb) σ14).1 62 = σ.1 62 + 1 from n62]; exact mi_lab hmi hmc (by omega) (by omega), by rw [if_neg (by omega)]; exact mi_bS hmc (by omega) n62 (OFF.A (by decide)) (by rw [ri_A4, hmc.ri, ml_lab (by show ρ.2.1 3 (220 * q + i) = 8 ∨ ρ.2.1 3 (220 * q + i) = 9 ∨ ρ.2.1 3 (220 * q + i) = 13; omega), ri1, c4f])⟩)
    · refine tm_tableIn (tgt := 217) dX12_meltItem_84 ⟨by omega, by omega⟩ (by omega) (by omega) (show _ = some (133) by rw [h15v]; rfl) (by decide) ?_
      refine tm_aload_n dX12_meltItem_217 rfl 1 rfl ?_
      refine tm_get (k := 4) (v := .ref (b + 1 + 2)) lay_12 dX12_meltItem_218 (by decide) fl12_17 rfl ?_
      refine tm_iload dX12_meltItem_221 0 rfl ?_
      refine tm_dup2 dX12_meltItem_223 rfl rfl ?_
      refine tm_iald (z := 2640 + (σ.1 62)) (v := (fCopy (x) (2640 + (σ.1 62)) σ).2.1 4 (2640 + (σ.1 62))) dX12_meltItem_224 (show mT[2]? = some (4, 0, 2860) from rfl) (by omega) (by omega) (by decide) (ra_F F9 (by decide) (ra_S (rfl))) ?_
      refine tm_iload_n dX12_meltItem_225 rfl 4 rfl ?_
      refine tm_iadd dX12_meltItem_226 ?_
      refine tm_iast (z := 2640 + (σ.1 62)) (v := ((fCopy (x) (2640 + (σ.1 62)) σ).2.1 4 (2640 + (σ.1 62))) + base) dX12_meltItem_227 (show mT[2]? = some (4, 0, 2860) from rfl) (by omega) (by omega) (by decide) ?_
      exact tm_vret rfl dX12_meltItem_228 (⟨rfl, ((((Fr.rfl.trans (Fr.sub fCopy_fr (by decide) (by decide) (by decide))).S (by decide)).trans (Fr.sub F9 (by decide) (by decide) (by decide))).A (by decide)), (R10.A (by omega)), by rw [show (sA 4 (2640 + (σ.1 62)) (((fCopy (x) (2640 + (σ.1 62)) σ).2.1 4 (2640 + (σ.1 62))) + base) σ14).1 62 = σ.1 62 + 1 from n62, if_neg (by omega)], by rw [show (sA 4 (2640 + (σ.1 62)) (((fCopy (x) (2640 + (σ.1 62)) σ).2.1 4 (2640 + (σ.1 62))) + base) σ14).1 62 = σ.1 62 + 1 from n62]; exact mi_reg hmi hmc (by omega) (by omega), by rw [if_neg (by omega)]; exact mi_bS hmc (by omega) n62 (OFF.A (by decide)) (by rw [ri_A4, hmc.ri, ml_reg (by show ρ.2.1 3 (220 * q + i) ≤ 5; omega), ri1, c4f])⟩)
    · refine tm_tableIn (tgt := 186) dX12_meltItem_84 ⟨by omega, by omega⟩ (by omega) (by omega) (show _ = some (102) by rw [h15v]; rfl) (by decide) ?_
      refine tm_aload_n dX12_meltItem_186 rfl 1 rfl ?_
      refine tm_get (k := 5) (v := .ref (b + 1 + 3)) lay_12 dX12_meltItem_187 (by decide) fl12_20 rfl ?_
      refine tm_iload dX12_meltItem_190 0 rfl ?_
      refine tm_dup2 dX12_meltItem_192 rfl rfl ?_
      refine tm_iald (z := 2640 + (σ.1 62)) (v := (fCopy (x) (2640 + (σ.1 62)) σ).2.1 5 (2640 + (σ.1 62))) dX12_meltItem_193 (show mT[3]? = some (5, 0, 2860) from rfl) (by omega) (by omega) (by decide) (ra_F F9 (by decide) (ra_S (rfl))) ?_
      refine tm_iload_n dX12_meltItem_194 rfl 3 rfl ?_
      refine tm_iadd dX12_meltItem_195 ?_
      refine tm_iast (z := 2640 + (σ.1 62)) (v := ((fCopy (x) (2640 + (σ.1 62)) σ).2.1 5 (2640 + (σ.1 62))) + f) dX12_meltItem_196 (show mT[3]? = some (5, 0, 2860) from rfl) (by omega) (by omega) (by decide) ?_
      refine tm_goto (tgt := 228) dX12_meltItem_197 (by decide) ?_
      exact tm_vret rfl dX12_meltItem_228 (⟨rfl, ((((Fr.rfl.trans (Fr.sub fCopy_fr (by decide) (by decide) (by decide))).S (by decide)).trans (Fr.sub F9 (by decide) (by decide) (by decide))).A (by decide)), (R10.A (by omega)), by rw [show (sA 5 (2640 + (σ.1 62)) (((fCopy (x) (2640 + (σ.1 62)) σ).2.1 5 (2640 + (σ.1 62))) + f) σ14).1 62 = σ.1 62 + 1 from n62, if_neg (by omega)], by rw [show (sA 5 (2640 + (σ.1 62)) (((fCopy (x) (2640 + (σ.1 62)) σ).2.1 5 (2640 + (σ.1 62))) + f) σ14).1 62 = σ.1 62 + 1 from n62]; exact mi_of hmi hmc (by omega) (by omega), by rw [if_neg (by omega)]; exact mi_bS hmc (by omega) n62 (OFF.A (by decide)) (by rw [ri_A5, hmc.ri, ml_of (by show ρ.2.1 3 (220 * q + i) = 11 ∨ ρ.2.1 3 (220 * q + i) = 12; omega), ri2, c5f])⟩)
    · refine tm_tableIn (tgt := 186) dX12_meltItem_84 ⟨by omega, by omega⟩ (by omega) (by omega) (show _ = some (102) by rw [h15v]; rfl) (by decide) ?_
      refine tm_aload_n dX12_meltItem_186 rfl 1 rfl ?_
      refine tm_get (k := 5) (v := .ref (b + 1 + 3)) lay_12 dX12_meltItem_187 (by decide) fl12_20 rfl ?_
      refine tm_iload dX12_meltItem_190 0 rfl ?_
      refine tm_dup2 dX12_meltItem_192 rfl rfl ?_
      refine tm_iald (z := 2640 + (σ.1 62)) (v := (fCopy (x) (2640 + (σ.1 62)) σ).2.1 5 (2640 + (σ.1 62))) dX12_meltItem_193 (show mT[3]? = some (5, 0, 2860) from rfl) (by omega) (by omega) (by decide) (ra_F F9 (by decide) (ra_S (rfl))) ?_
      refine tm_iload_n dX12_meltItem_194 rfl 3 rfl ?_
      refine tm_iadd dX12_meltItem_195 ?_
      refine tm_iast (z := 2640 + (σ.1 62)) (v := ((fCopy (x) (2640 + (σ.1 62)) σ).2.1 5 (2640 + (σ.1 62))) + f) dX12_meltItem_196 (show mT[3]? = some (5, 0, 2860) from rfl) (by omega) (by omega) (by decide) ?_
      refine tm_goto (tgt := 228) dX12_meltItem_197 (by decide) ?_
      exact tm_vret rfl dX12_meltItem_228 (⟨rfl, ((((Fr.rfl.trans (Fr.sub fCopy_fr (by decide) (by decide) (by decide))).S (by decide)).trans (Fr.sub F9 (by decide) (by decide) (by decide))).A (by decide)), (R10.A (by omega)), by rw [show (sA 5 (2640 + (σ.1 62)) (((fCopy (x) (2640 + (σ.1 62)) σ).2.1 5 (2640 + (σ.1 62))) + f) σ14).1 62 = σ.1 62 + 1 from n62, if_neg (by omega)], by rw [show (sA 5 (2640 + (σ.1 62)) (((fCopy (x) (2640 + (σ.1 62)) σ).2.1 5 (2640 + (σ.1 62))) + f) σ14).1 62 = σ.1 62 + 1 from n62]; exact mi_of hmi hmc (by omega) (by omega), by rw [if_neg (by omega)]; exact mi_bS hmc (by omega) n62 (OFF.A (by decide)) (by rw [ri_A5, hmc.ri, ml_of (by show ρ.2.1 3 (220 * q + i) = 11 ∨ ρ.2.1 3 (220 * q + i) = 12; omega), ri2, c5f])⟩)
    · refine tm_tableIn (tgt := 171) dX12_meltItem_84 ⟨by omega, by omega⟩ (by omega) (by omega) (show _ = some (87) by rw [h15v]; rfl) (by decide) ?_
      refine tm_aload_n dX12_meltItem_171 rfl 1 rfl ?_
      refine tm_get (k := 4) (v := .ref (b + 1 + 2)) lay_12 dX12_meltItem_172 (by decide) fl12_17 rfl ?_
      refine tm_iload dX12_meltItem_175 0 rfl ?_
      refine tm_dup2 dX12_meltItem_177 rfl rfl ?_
      refine tm_iald (z := 2640 + (σ.1 62)) (v := (fCopy (x) (2640 + (σ.1 62)) σ).2.1 4 (2640 + (σ.1 62))) dX12_meltItem_178 (show mT[2]? = some (4, 0, 2860) from rfl) (by omega) (by omega) (by decide) (ra_F F9 (by decide) (ra_S (rfl))) ?_
      refine tm_iload dX12_meltItem_179 5 rfl ?_
      refine tm_iadd dX12_meltItem_181 ?_
      refine tm_iast (z := 2640 + (σ.1 62)) (v := ((fCopy (x) (2640 + (σ.1 62)) σ).2.1 4 (2640 + (σ.1 62))) + lb) dX12_meltItem_182 (show mT[2]? = some (4, 0, 2860) from rfl) (by omega) (by omega) (by decide) ?_
      refine tm_goto (tgt := 228) dX12_meltItem_183 (by decide) ?_
      exact tm_vret rfl dX12_meltItem_228 (⟨rfl, ((((Fr.rfl.trans (Fr.sub fCopy_fr (by decide) (by decide) (by decide))).S (by decide)).trans (Fr.sub F9 (by decide) (by decide) (by decide))).A (by decide)), (R10.A (by omega)), by rw [show (sA 4 (2640 + (σ.1 62)) (((fCopy (x) (2640 + (σ.1 62)) σ).2.1 4 (2640 + (σ.1 62))) + lb) σ14).1 62 = σ.1 62 + 1 from n62, if_neg (by omega)], by rw [show (sA 4 (2640 + (σ.1 62)) (((fCopy (x) (2640 + (σ.1 62)) σ).2.1 4 (2640 + (σ.1 62))) + lb) σ14).1 62 = σ.1 62 + 1 from n62]; exact mi_lab hmi hmc (by omega) (by omega), by rw [if_neg (by omega)]; exact mi_bS hmc (by omega) n62 (OFF.A (by decide)) (by rw [ri_A4, hmc.ri, ml_lab (by show ρ.2.1 3 (220 * q + i) = 8 ∨ ρ.2.1 3 (220 * q + i) = 9 ∨ ρ.2.1 3 (220 * q + i) = 13; omega), ri1, c4f])⟩)
    · refine tm_tableIn (tgt := 200) dX12_meltItem_84 ⟨by omega, by omega⟩ (by omega) (by omega) (show _ = some (116) by rw [h15v]; rfl) (by decide) ?_
      refine tm_aload_n dX12_meltItem_200 rfl 1 rfl ?_
      refine tm_get (k := 4) (v := .ref (b + 1 + 2)) lay_12 dX12_meltItem_201 (by decide) fl12_17 rfl ?_
      refine tm_iload dX12_meltItem_204 0 rfl ?_
      refine tm_dup2 dX12_meltItem_206 rfl rfl ?_
      refine tm_iald (z := 2640 + (σ.1 62)) (v := (fCopy (x) (2640 + (σ.1 62)) σ).2.1 4 (2640 + (σ.1 62))) dX12_meltItem_207 (show mT[2]? = some (4, 0, 2860) from rfl) (by omega) (by omega) (by decide) (ra_F F9 (by decide) (ra_S (rfl))) ?_
      refine tm_iload_n dX12_meltItem_208 rfl 3 rfl ?_
      refine tm_iadd dX12_meltItem_209 ?_
      refine tm_iast (z := 2640 + (σ.1 62)) (v := ((fCopy (x) (2640 + (σ.1 62)) σ).2.1 4 (2640 + (σ.1 62))) + f) dX12_meltItem_210 (show mT[2]? = some (4, 0, 2860) from rfl) (by omega) (by omega) (by decide) ?_
      refine tm_goto (tgt := 228) dX12_meltItem_211 (by decide) ?_
      exact tm_vret rfl dX12_meltItem_228 (⟨rfl, ((((Fr.rfl.trans (Fr.sub fCopy_fr (by decide) (by decide) (by decide))).S (by decide)).trans (Fr.sub F9 (by decide) (by decide) (by decide))).A (by decide)), (R10.A (by omega)), by rw [show (sA 4 (2640 + (σ.1 62)) (((fCopy (x) (2640 + (σ.1 62)) σ).2.1 4 (2640 + (σ.1 62))) + f) σ14).1 62 = σ.1 62 + 1 from n62, if_neg (by omega)], by rw [show (sA 4 (2640 + (σ.1 62)) (((fCopy (x) (2640 + (σ.1 62)) σ).2.1 4 (2640 + (σ.1 62))) + f) σ14).1 62 = σ.1 62 + 1 from n62]; exact mi_frm hmi hmc (by omega) (by omega), by rw [if_neg (by omega)]; exact mi_bS hmc (by omega) n62 (OFF.A (by decide)) (by rw [ri_A4, hmc.ri, ml_frm (by show ρ.2.1 3 (220 * q + i) = 14 ∨ ρ.2.1 3 (220 * q + i) = 15; omega), ri1, c4f])⟩)
    · refine tm_tableIn (tgt := 200) dX12_meltItem_84 ⟨by omega, by omega⟩ (by omega) (by omega) (show _ = some (116) by rw [h15v]; rfl) (by decide) ?_
      refine tm_aload_n dX12_meltItem_200 rfl 1 rfl ?_
      refine tm_get (k := 4) (v := .ref (b + 1 + 2)) lay_12 dX12_meltItem_201 (by decide) fl12_17 rfl ?_
      refine tm_iload dX12_meltItem_204 0 rfl ?_
      refine tm_dup2 dX12_meltItem_206 rfl rfl ?_
      refine tm_iald (z := 2640 + (σ.1 62)) (v := (fCopy (x) (2640 + (σ.1 62)) σ).2.1 4 (2640 + (σ.1 62))) dX12_meltItem_207 (show mT[2]? = some (4, 0, 2860) from rfl) (by omega) (by omega) (by decide) (ra_F F9 (by decide) (ra_S (rfl))) ?_
      refine tm_iload_n dX12_meltItem_208 rfl 3 rfl ?_
      refine tm_iadd dX12_meltItem_209 ?_
      refine tm_iast (z := 2640 + (σ.1 62)) (v := ((fCopy (x) (2640 + (σ.1 62)) σ).2.1 4 (2640 + (σ.1 62))) + f) dX12_meltItem_210 (show mT[2]? = some (4, 0, 2860) from rfl) (by omega) (by omega) (by decide) ?_
      refine tm_goto (tgt := 228) dX12_meltItem_211 (by decide) ?_
      exact tm_vret rfl dX12_meltItem_228 (⟨rfl, ((((Fr.rfl.trans (Fr.sub fCopy_fr (by decide) (by decide) (by decide))).S (by decide)).trans (Fr.sub F9 (by decide) (by decide) (by decide))).A (by decide)), (R10.A (by omega)), by rw [show (sA 4 (2640 + (σ.1 62)) (((fCopy (x) (2640 + (σ.1 62)) σ).2.1 4 (2640 + (σ.1 62))) + f) σ14).1 62 = σ.1 62 + 1 from n62, if_neg (by omega)], by rw [show (sA 4 (2640 + (σ.1 62)) (((fCopy (x) (2640 + (σ.1 62)) σ).2.1 4 (2640 + (σ.1 62))) + f) σ14).1 62 = σ.1 62 + 1 from n62]; exact mi_frm hmi hmc (by omega) (by omega), by rw [if_neg (by omega)]; exact mi_bS hmc (by omega) n62 (OFF.A (by decide)) (by rw [ri_A4, hmc.ri, ml_frm (by show ρ.2.1 3 (220 * q + i) = 14 ∨ ρ.2.1 3 (220 * q + i) = 15; omega), ri1, c4f])⟩)
end
section
set_option maxHeartbeats 1000000 in
set_option maxRecDepth 20000 in
theorem f_mo2 (d : Nat) {b : Nat} {σ0 : MS} {r : Int} {k : Int} {q : Int} {f : Int} {base : Int} {lb : Int} {out : Int} {to : Int} {ρ : MS} {FI : Int → Int} {lf : Int → Int} {frq : Int → Int} {lfq : Int → Int} {g0 : Int} {m : Int} {mk : Int} {S0 : BB} {post : Option Value → MS → Prop} (hmo : MOH ρ r k q f base lb out to g0 m FI lf frq lfq) (hR0 : RG σ0) (hρ : Fr [62] [3, 4, 5, 6, 7, 8] [] ρ σ0) (hx_251 : ∀ (n1 : Int) (σ : MS) , (Fr [62] [3, 4, 5, 6, 7, 8] [] σ0 σ) → (RG σ) → (1 ≤ σ.1 62 ∧ σ.1 62 ≤ 1 + ρ.2.1 12 q + ρ.2.1 11 q) → (MSG ρ σ FI lf q (f + ρ.2.1 14 q) lb out g0 (σ.1 62) 0 (f)) → (bS σ = mb1 f base (ρ.2.1 11 q) (naR ρ q) (rI ρ (220 * r + k)) S0 (ρ.2.1 12 q).toNat) → Tm (d + 3) m_X12_meltOne 251 b σ [(10, .int (iI mk)), (9, .int (iI to)), (8, .int (iI out)), (7, .int (iI lb)), (6, .int (iI base)), (5, .int (iI f)), (4, .int (iI (220 * r + k))), (0, .ref b), (1, .int (iI r)), (2, .int (iI k)), (3, .int (iI q))] [] post) : ∀ (n : Nat) (n1 : Int) (σ : MS) , (Fr [62] [3, 4, 5, 6, 7, 8] [] σ0 σ) → (RG σ) → (0 ≤ n1 ∧ n1 ≤ σ0.2.1 12 q) → ((n1 ≤ σ0.2.1 11 q → σ.1 62 = 1 + 2 * n1) ∧ (σ0.2.1 11 q < n1 → σ.1 62 = 1 + n1 + σ0.2.1 11 q)) → (MSG ρ σ FI lf q (f + ρ.2.1 14 q) lb out g0 (σ.1 62) 0 (f)) → (bS σ = mb1 f base (ρ.2.1 11 q) (naR ρ q) (rI ρ (220 * r + k)) S0 n1.toNat) → (12 - n1).toNat = n → Tm (d + 3) m_X12_meltOne 99 b σ [(11, .int (iI n1)), (10, .int (iI mk)), (9, .int (iI to)), (8, .int (iI out)), (7, .int (iI lb)), (6, .int (iI base)), (5, .int (iI f)), (4, .int (iI (220 * r + k))), (0, .ref b), (1, .int (iI r)), (2, .int (iI k)), (3, .int (iI q))] [] post := by
  intro n
  induction n using Nat.strongRecOn with
  | _ n ih =>
    intro n1 σ hF hR h0 hc hms hbk hm
    have mn := hmo.n
    have mpa := hmo.2.2.2.2.2.2.2.2.2.1 q (by omega) (by omega)
    have e11 : σ0.2.1 11 q = ρ.2.1 11 q := by rw [hρ.2.1 11 (by decide)]
    have e12 : σ0.2.1 12 q = ρ.2.1 12 q := by rw [hρ.2.1 12 (by decide)]
    have e18 : σ0.2.1 18 (144 * q + n1) = ρ.2.1 18 (144 * q + n1) := by rw [hρ.2.1 18 (by decide)]
    have mna := hmo.2.2.2.2.2.2.2.2.2.2 q (by omega) (by omega)
    refine tm_iload dX12_meltOne_99 0 rfl ?_
    refine tm_aload_n dX12_meltOne_101 rfl 8 rfl ?_
    refine tm_get (k := 12) (v := .ref (b + 1 + 9)) lay_12 dX12_meltOne_102 (by decide) fl12_38 rfl ?_
    refine tm_iload_n dX12_meltOne_105 rfl 11 rfl ?_
    refine tm_iald (z := q) (v := σ0.2.1 12 q) dX12_meltOne_106 (show mT[9]? = some (12, 0, 6) from rfl) (by omega) (by omega) (by decide) (ra_F hF (by decide) (rfl)) ?_
    have g1 := RG.a hR0 12 (q)
    refine tm_icmp_ge (tgt := 251) dX12_meltOne_107 (by decide) ⟨by omega, by omega⟩ ⟨by omega, by omega⟩ (fun h2 => ?_) (fun h2 => ?_)
    · exact tm_sub [1, 2, 3, 4, 5, 6, 7, 8, 9, 10, 11] rfl (hx_251 (0) σ (Fr.rfl.trans (Fr.sub hF (by decide) (by decide) (by decide))) hR (by omega) hms (by have e9 := hbk; rw [show n1 = ρ.2.1 12 q by omega] at e9; exact e9))
    · have hnm := hmo.nm (n := n1) (by omega) (by omega)
      refine tm_iload dX12_meltOne_110 5 rfl ?_
      refine tm_aload_n dX12_meltOne_112 rfl 8 rfl ?_
      refine tm_get (k := 18) (v := .ref (b + 1 + 15)) lay_12 dX12_meltOne_113 (by decide) fl12_56 rfl ?_
      refine tm_sipush dX12_meltOne_116 (by decide) ?_
      refine tm_iload_n dX12_meltOne_119 rfl 11 rfl ?_
      refine tm_imul dX12_meltOne_120 ?_
      refine tm_iload dX12_meltOne_121 0 rfl ?_
      refine tm_iadd dX12_meltOne_123 ?_
      refine tm_iald (z := (144 * q) + n1) (v := σ0.2.1 18 ((144 * q) + n1)) dX12_meltOne_124 (show mT[15]? = some (18, 0, 864) from rfl) (by omega) (by omega) (by decide) (ra_F hF (by decide) (rfl)) ?_
      have g3 := RG.a hR0 18 ((144 * q) + n1)
      refine tm_iadd dX12_meltOne_125 ?_
      refine tm_istore (L' := [(12, .int (iI (base + (σ0.2.1 18 ((144 * q) + n1))))), (11, .int (iI n1)), (10, .int (iI mk)), (9, .int (iI to)), (8, .int (iI out)), (7, .int (iI lb)), (6, .int (iI base)), (5, .int (iI f)), (4, .int (iI (220 * r + k))), (0, .ref b), (1, .int (iI r)), (2, .int (iI k)), (3, .int (iI q))]) dX12_meltOne_126 (by decide) rfl ?_
      refine tm_iload dX12_meltOne_128 1 rfl ?_
      refine tm_aload_n dX12_meltOne_130 rfl 9 rfl ?_
      refine tm_get (k := 11) (v := .ref (b + 1 + 8)) lay_12 dX12_meltOne_131 (by decide) fl12_35 rfl ?_
      refine tm_iload_n dX12_meltOne_134 rfl 12 rfl ?_
      refine tm_iald (z := q) (v := σ0.2.1 11 q) dX12_meltOne_135 (show mT[8]? = some (11, 0, 6) from rfl) (by omega) (by omega) (by decide) (ra_F hF (by decide) (rfl)) ?_
      have g4 := RG.a hR0 11 (q)
      refine tm_icmp_ge (tgt := 171) dX12_meltOne_136 (by decide) ⟨by omega, by omega⟩ ⟨by omega, by omega⟩ (fun h5 => ?_) (fun h5 => ?_)
      · refine tm_aload_n dX12_meltOne_171 rfl 9 rfl ?_
        refine tm_bipush dX12_meltOne_172 (by decide) ?_
        refine tm_iload dX12_meltOne_174 1 rfl ?_
        refine tm_iload dX12_meltOne_176 7 rfl ?_
        refine tm_iload dX12_meltOne_178 1 rfl ?_
        refine tm_aload_n dX12_meltOne_180 rfl 9 rfl ?_
        refine tm_get (k := 11) (v := .ref (b + 1 + 8)) lay_12 dX12_meltOne_181 (by decide) fl12_35 rfl ?_
        refine tm_iload_n dX12_meltOne_184 rfl 12 rfl ?_
        refine tm_iald (z := q) (v := σ0.2.1 11 q) dX12_meltOne_185 (show mT[8]? = some (11, 0, 6) from rfl) (by omega) (by omega) (by decide) (ra_F hF (by decide) (rfl)) ?_
        have g6 := RG.a hR0 11 (q)
        refine tm_icmp_ge (tgt := 193) dX12_meltOne_186 (by decide) ⟨by omega, by omega⟩ ⟨by omega, by omega⟩ (fun h7 => ?_) (fun h7 => ?_)
        · refine tm_iconst dX12_meltOne_193 ?_
          refine tm_iload dX12_meltOne_194 1 rfl ?_
          refine tm_aload_n dX12_meltOne_196 rfl 9 rfl ?_
          refine tm_get (k := 11) (v := .ref (b + 1 + 8)) lay_12 dX12_meltOne_197 (by decide) fl12_35 rfl ?_
          refine tm_iload_n dX12_meltOne_200 rfl 12 rfl ?_
          refine tm_iald (z := q) (v := σ0.2.1 11 q) dX12_meltOne_201 (show mT[8]? = some (11, 0, 6) from rfl) (by omega) (by omega) (by decide) (ra_F hF (by decide) (rfl)) ?_
          have g8 := RG.a hR0 11 (q)
          refine tm_icmp_ge (tgt := 210) dX12_meltOne_202 (by decide) ⟨by omega, by omega⟩ ⟨by omega, by omega⟩ (fun h10 => ?_) (fun h10 => ?_)
          · refine tm_iconst dX12_meltOne_210 ?_
            refine tm_callV (M := m_X12_meltOne) (pc := 211) (ix := 515) (M' := m_X12_add) (As := [.int (iI 12), .int (iI n1), .int (iI f), .int (iI 1), .int (iI 0)]) (rest := []) dX12_meltOne_211 ok_X12_add im_X12_add se_X12_add ml12_515 np_X12_add rfl rfl (Nat.le_of_ble_eq_true rfl) (Nat.le_of_ble_eq_true rfl) rfl (c_X12_add (d) (σ := σ) (k := 12) (e := n1) (o := f) (ak := 1) (a := 0) hR (by omega)) (fun r11 σ12 hp => ?_)
            obtain ⟨rfl, f14⟩ := hp
            subst f14
            show Tm _ _ 214 b (fAdd (12) (n1) (f) (1) (0) σ) [(12, .int (iI (base + (σ0.2.1 18 ((144 * q) + n1))))), (11, .int (iI n1)), (10, .int (iI mk)), (9, .int (iI to)), (8, .int (iI out)), (7, .int (iI lb)), (6, .int (iI base)), (5, .int (iI f)), (4, .int (iI (220 * r + k))), (0, .ref b), (1, .int (iI r)), (2, .int (iI k)), (3, .int (iI q))] [] _
            have n62b : (fAdd (12) (n1) (f) (1) (0) σ).1 62 = σ.1 62 + 1 := fAdd_n
            refine tm_aload_n dX12_meltOne_214 rfl 9 rfl ?_
            refine tm_get (k := 6) (v := .ref (b + 1 + 4)) lay_12 dX12_meltOne_215 (by decide) fl12_23 rfl ?_
            refine tm_sipush dX12_meltOne_218 (by decide) ?_
            refine tm_aload_n dX12_meltOne_221 rfl 9 rfl ?_
            refine tm_getS (k := 62) (t := (fAdd (12) (n1) (f) (1) (0) σ).1 62) dX12_meltOne_222 (by decide) fl12_509 rfl (rfl) ?_
            refine tm_iadd dX12_meltOne_225 ?_
            refine tm_iconst dX12_meltOne_226 ?_
            refine tm_isub dX12_meltOne_227 ?_
            refine tm_iload dX12_meltOne_228 1 rfl ?_
            refine tm_aload_n dX12_meltOne_230 rfl 9 rfl ?_
            refine tm_get (k := 11) (v := .ref (b + 1 + 8)) lay_12 dX12_meltOne_231 (by decide) fl12_35 rfl ?_
            refine tm_iload_n dX12_meltOne_234 rfl 12 rfl ?_
            refine tm_iald (z := q) (v := σ0.2.1 11 q) dX12_meltOne_235 (show mT[8]? = some (11, 0, 6) from rfl) (by omega) (by omega) (by decide) (ra_F fAdd_fr (by decide) (ra_F hF (by decide) (rfl))) ?_
            have g15 := RG.a hR0 11 (q)
            refine tm_icmp_ge (tgt := 243) dX12_meltOne_236 (by decide) ⟨by omega, by omega⟩ ⟨by omega, by omega⟩ (fun h16 => ?_) (fun h16 => ?_)
            · refine tm_iconst dX12_meltOne_243 ?_
              refine tm_iast (z := (2640 + ((fAdd (12) (n1) (f) (1) (0) σ).1 62)) - 1) (v := 1) dX12_meltOne_244 (show mT[4]? = some (6, 0, 2860) from rfl) (by omega) (by omega) (by decide) ?_
              refine tm_iinc (q0 := 1) (L' := [(11, .int (iI (n1 + 1))), (12, .int (iI (base + (σ0.2.1 18 ((144 * q) + n1))))), (10, .int (iI mk)), (9, .int (iI to)), (8, .int (iI out)), (7, .int (iI lb)), (6, .int (iI base)), (5, .int (iI f)), (4, .int (iI (220 * r + k))), (0, .ref b), (1, .int (iI r)), (2, .int (iI k)), (3, .int (iI q))]) dX12_meltOne_245 rfl (by decide) rfl ?_
              refine tm_goto (tgt := 99) dX12_meltOne_248 (by decide) ?_
              exact tm_sub [0, 2, 3, 4, 5, 6, 7, 8, 9, 10, 11, 12] rfl (ih _ (by omega) (n1 + 1) (sA 6 ((2640 + ((fAdd (12) (n1) (f) (1) (0) σ).1 62)) - 1) (1) (fAdd (12) (n1) (f) (1) (0) σ)) (((Fr.rfl.trans (Fr.sub hF (by decide) (by decide) (by decide))).trans (Fr.sub fAdd_fr (by decide) (by decide) (by decide))).A (by decide)) ((hR.add (by omega) (by omega) (by omega) (by omega) (by omega) (by omega)).A (by omega)) (by omega) (by have e : (sA 6 ((2640 + ((fAdd (12) (n1) (f) (1) (0) σ).1 62)) - 1) (1) (fAdd (12) (n1) (f) (1) (0) σ)).1 62 = (fAdd (12) (n1) (f) (1) (0) σ).1 62 := rfl; omega) (msg_bind hms (by omega) (by omega) (by omega) (by omega) (by omega) (by omega)) (by rw [mb1_s (by omega), ← hbk]; unfold nmS; rw [if_neg (by omega), bS_bind (by omega) (by omega)]) rfl)
            · exact absurd h16 (by omega)
          · exact absurd h10 (by omega)
        · exact absurd h7 (by omega)
      · have hie := (hms.2.2.2.2.2.1 (220 * r + k) (by omega)).2.2.2.2 n1 (by omega) (by omega)
        have har := hmo.ar (n := n1) (hms.2.2.2.2.2.1 (220 * r + k) (by omega)) (by omega) (by omega)
        refine tm_aload_n dX12_meltOne_139 rfl 9 rfl ?_
        refine tm_iconst dX12_meltOne_140 ?_
        refine tm_iload dX12_meltOne_141 0 rfl ?_
        refine tm_iconst dX12_meltOne_143 ?_
        refine tm_aload_n dX12_meltOne_144 rfl 9 rfl ?_
        refine tm_get (k := 7) (v := .ref (b + 1 + 5)) lay_12 dX12_meltOne_145 (by decide) fl12_26 rfl ?_
        refine tm_iconst dX12_meltOne_148 ?_
        refine tm_iload dX12_meltOne_149 8 rfl ?_
        refine tm_imul dX12_meltOne_151 ?_
        refine tm_iload dX12_meltOne_152 1 rfl ?_
        refine tm_iadd dX12_meltOne_154 ?_
        refine tm_iald (z := (4 * (220 * r + k)) + n1) (v := σ.2.1 7 ((4 * (220 * r + k)) + n1)) dX12_meltOne_155 (show mT[5]? = some (7, 0, 11440) from rfl) (by omega) (by omega) (by decide) (rfl) ?_
        have g17 := RG.a hR 7 ((4 * (220 * r + k)) + n1)
        refine tm_aload_n dX12_meltOne_156 rfl 9 rfl ?_
        refine tm_get (k := 8) (v := .ref (b + 1 + 6)) lay_12 dX12_meltOne_157 (by decide) fl12_29 rfl ?_
        refine tm_iconst dX12_meltOne_160 ?_
        refine tm_iload dX12_meltOne_161 8 rfl ?_
        refine tm_imul dX12_meltOne_163 ?_
        refine tm_iload dX12_meltOne_164 1 rfl ?_
        refine tm_iadd dX12_meltOne_166 ?_
        refine tm_iald (z := (4 * (220 * r + k)) + n1) (v := σ.2.1 8 ((4 * (220 * r + k)) + n1)) dX12_meltOne_167 (show mT[6]? = some (8, 0, 11440) from rfl) (by omega) (by omega) (by decide) (rfl) ?_
        have g18 := RG.a hR 8 ((4 * (220 * r + k)) + n1)
        refine tm_callV (M := m_X12_meltOne) (pc := 168) (ix := 515) (M' := m_X12_add) (As := [.int (iI 0), .int (iI (base + (σ0.2.1 18 ((144 * q) + n1)))), .int (iI 0), .int (iI (σ.2.1 7 ((4 * (220 * r + k)) + n1))), .int (iI (σ.2.1 8 ((4 * (220 * r + k)) + n1)))]) (rest := []) dX12_meltOne_168 ok_X12_add im_X12_add se_X12_add ml12_515 np_X12_add rfl rfl (Nat.le_of_ble_eq_true rfl) (Nat.le_of_ble_eq_true rfl) rfl (c_X12_add (d) (σ := σ) (k := 0) (e := base + (σ0.2.1 18 ((144 * q) + n1))) (o := 0) (ak := σ.2.1 7 ((4 * (220 * r + k)) + n1)) (a := σ.2.1 8 ((4 * (220 * r + k)) + n1)) hR (by omega)) (fun r19 σ20 hp => ?_)
        obtain ⟨rfl, f22⟩ := hp
        subst f22
        show Tm _ _ 171 b (fAdd (0) (base + (σ0.2.1 18 ((144 * q) + n1))) (0) (σ.2.1 7 ((4 * (220 * r + k)) + n1)) (σ.2.1 8 ((4 * (220 * r + k)) + n1)) σ) [(12, .int (iI (base + (σ0.2.1 18 ((144 * q) + n1))))), (11, .int (iI n1)), (10, .int (iI mk)), (9, .int (iI to)), (8, .int (iI out)), (7, .int (iI lb)), (6, .int (iI base)), (5, .int (iI f)), (4, .int (iI (220 * r + k))), (0, .ref b), (1, .int (iI r)), (2, .int (iI k)), (3, .int (iI q))] [] _
        have n62a : (fAdd (0) (base + (σ0.2.1 18 ((144 * q) + n1))) (0) (σ.2.1 7 ((4 * (220 * r + k)) + n1)) (σ.2.1 8 ((4 * (220 * r + k)) + n1)) σ).1 62 = σ.1 62 + 1 := fAdd_n
        refine tm_aload_n dX12_meltOne_171 rfl 9 rfl ?_
        refine tm_bipush dX12_meltOne_172 (by decide) ?_
        refine tm_iload dX12_meltOne_174 1 rfl ?_
        refine tm_iload dX12_meltOne_176 7 rfl ?_
        refine tm_iload dX12_meltOne_178 1 rfl ?_
        refine tm_aload_n dX12_meltOne_180 rfl 9 rfl ?_
        refine tm_get (k := 11) (v := .ref (b + 1 + 8)) lay_12 dX12_meltOne_181 (by decide) fl12_35 rfl ?_
        refine tm_iload_n dX12_meltOne_184 rfl 12 rfl ?_
        refine tm_iald (z := q) (v := σ0.2.1 11 q) dX12_meltOne_185 (show mT[8]? = some (11, 0, 6) from rfl) (by omega) (by omega) (by decide) (ra_F fAdd_fr (by decide) (ra_F hF (by decide) (rfl))) ?_
        have g23 := RG.a hR0 11 (q)
        refine tm_icmp_ge (tgt := 193) dX12_meltOne_186 (by decide) ⟨by omega, by omega⟩ ⟨by omega, by omega⟩ (fun h24 => ?_) (fun h24 => ?_)
        · exact absurd h24 (by omega)
        · refine tm_iconst dX12_meltOne_189 ?_
          refine tm_goto (tgt := 194) dX12_meltOne_190 (by decide) ?_
          refine tm_iload dX12_meltOne_194 1 rfl ?_
          refine tm_aload_n dX12_meltOne_196 rfl 9 rfl ?_
          refine tm_get (k := 11) (v := .ref (b + 1 + 8)) lay_12 dX12_meltOne_197 (by decide) fl12_35 rfl ?_
          refine tm_iload_n dX12_meltOne_200 rfl 12 rfl ?_
          refine tm_iald (z := q) (v := σ0.2.1 11 q) dX12_meltOne_201 (show mT[8]? = some (11, 0, 6) from rfl) (by omega) (by omega) (by decide) (ra_F fAdd_fr (by decide) (ra_F hF (by decide) (rfl))) ?_
          have g25 := RG.a hR0 11 (q)
          refine tm_icmp_ge (tgt := 210) dX12_meltOne_202 (by decide) ⟨by omega, by omega⟩ ⟨by omega, by omega⟩ (fun h32 => ?_) (fun h32 => ?_)
          · exact absurd h32 (by omega)
          · refine tm_iload dX12_meltOne_205 0 rfl ?_
            refine tm_goto (tgt := 211) dX12_meltOne_207 (by decide) ?_
            refine tm_callV (M := m_X12_meltOne) (pc := 211) (ix := 515) (M' := m_X12_add) (As := [.int (iI 12), .int (iI n1), .int (iI f), .int (iI 2), .int (iI (base + (σ0.2.1 18 ((144 * q) + n1))))]) (rest := []) dX12_meltOne_211 ok_X12_add im_X12_add se_X12_add ml12_515 np_X12_add rfl rfl (Nat.le_of_ble_eq_true rfl) (Nat.le_of_ble_eq_true rfl) rfl (c_X12_add (d) (σ := (fAdd (0) (base + (σ0.2.1 18 ((144 * q) + n1))) (0) (σ.2.1 7 ((4 * (220 * r + k)) + n1)) (σ.2.1 8 ((4 * (220 * r + k)) + n1)) σ)) (k := 12) (e := n1) (o := f) (ak := 2) (a := base + (σ0.2.1 18 ((144 * q) + n1))) (hR.add (by omega) (by omega) (by omega) (by omega) (by omega) (by omega)) (by omega)) (fun r33 σ34 hp => ?_)
            obtain ⟨rfl, f36⟩ := hp
            subst f36
            show Tm _ _ 214 b (fAdd (12) (n1) (f) (2) (base + (σ0.2.1 18 ((144 * q) + n1))) (fAdd (0) (base + (σ0.2.1 18 ((144 * q) + n1))) (0) (σ.2.1 7 ((4 * (220 * r + k)) + n1)) (σ.2.1 8 ((4 * (220 * r + k)) + n1)) σ)) [(12, .int (iI (base + (σ0.2.1 18 ((144 * q) + n1))))), (11, .int (iI n1)), (10, .int (iI mk)), (9, .int (iI to)), (8, .int (iI out)), (7, .int (iI lb)), (6, .int (iI base)), (5, .int (iI f)), (4, .int (iI (220 * r + k))), (0, .ref b), (1, .int (iI r)), (2, .int (iI k)), (3, .int (iI q))] [] _
            have n62b : (fAdd (12) (n1) (f) (2) (base + (σ0.2.1 18 ((144 * q) + n1))) (fAdd (0) (base + (σ0.2.1 18 ((144 * q) + n1))) (0) (σ.2.1 7 ((4 * (220 * r + k)) + n1)) (σ.2.1 8 ((4 * (220 * r + k)) + n1)) σ)).1 62 = (fAdd (0) (base + (σ0.2.1 18 ((144 * q) + n1))) (0) (σ.2.1 7 ((4 * (220 * r + k)) + n1)) (σ.2.1 8 ((4 * (220 * r + k)) + n1)) σ).1 62 + 1 := fAdd_n
            refine tm_aload_n dX12_meltOne_214 rfl 9 rfl ?_
            refine tm_get (k := 6) (v := .ref (b + 1 + 4)) lay_12 dX12_meltOne_215 (by decide) fl12_23 rfl ?_
            refine tm_sipush dX12_meltOne_218 (by decide) ?_
            refine tm_aload_n dX12_meltOne_221 rfl 9 rfl ?_
            refine tm_getS (k := 62) (t := (fAdd (12) (n1) (f) (2) (base + (σ0.2.1 18 ((144 * q) + n1))) (fAdd (0) (base + (σ0.2.1 18 ((144 * q) + n1))) (0) (σ.2.1 7 ((4 * (220 * r + k)) + n1)) (σ.2.1 8 ((4 * (220 * r + k)) + n1)) σ)).1 62) dX12_meltOne_222 (by decide) fl12_509 rfl (rfl) ?_
            refine tm_iadd dX12_meltOne_225 ?_
            refine tm_iconst dX12_meltOne_226 ?_
            refine tm_isub dX12_meltOne_227 ?_
            refine tm_iload dX12_meltOne_228 1 rfl ?_
            refine tm_aload_n dX12_meltOne_230 rfl 9 rfl ?_
            refine tm_get (k := 11) (v := .ref (b + 1 + 8)) lay_12 dX12_meltOne_231 (by decide) fl12_35 rfl ?_
            refine tm_iload_n dX12_meltOne_234 rfl 12 rfl ?_
            refine tm_iald (z := q) (v := σ0.2.1 11 q) dX12_meltOne_235 (show mT[8]? = some (11, 0, 6) from rfl) (by omega) (by omega) (by decide) (ra_F fAdd_fr (by decide) (ra_F fAdd_fr (by decide) (ra_F hF (by decide) (rfl)))) ?_
            have g37 := RG.a hR0 11 (q)
            refine tm_icmp_ge (tgt := 243) dX12_meltOne_236 (by decide) ⟨by omega, by omega⟩ ⟨by omega, by omega⟩ (fun h38 => ?_) (fun h38 => ?_)
            · exact absurd h38 (by omega)
            · refine tm_iconst dX12_meltOne_239 ?_
              refine tm_goto (tgt := 244) dX12_meltOne_240 (by decide) ?_
              refine tm_iast (z := (2640 + ((fAdd (12) (n1) (f) (2) (base + (σ0.2.1 18 ((144 * q) + n1))) (fAdd (0) (base + (σ0.2.1 18 ((144 * q) + n1))) (0) (σ.2.1 7 ((4 * (220 * r + k)) + n1)) (σ.2.1 8 ((4 * (220 * r + k)) + n1)) σ)).1 62)) - 1) (v := 2) dX12_meltOne_244 (show mT[4]? = some (6, 0, 2860) from rfl) (by omega) (by omega) (by decide) ?_
              refine tm_iinc (q0 := 1) (L' := [(11, .int (iI (n1 + 1))), (12, .int (iI (base + (σ0.2.1 18 ((144 * q) + n1))))), (10, .int (iI mk)), (9, .int (iI to)), (8, .int (iI out)), (7, .int (iI lb)), (6, .int (iI base)), (5, .int (iI f)), (4, .int (iI (220 * r + k))), (0, .ref b), (1, .int (iI r)), (2, .int (iI k)), (3, .int (iI q))]) dX12_meltOne_245 rfl (by decide) rfl ?_
              refine tm_goto (tgt := 99) dX12_meltOne_248 (by decide) ?_
              exact tm_sub [0, 2, 3, 4, 5, 6, 7, 8, 9, 10, 11, 12] rfl (ih _ (by omega) (n1 + 1) (sA 6 ((2640 + ((fAdd (12) (n1) (f) (2) (base + (σ0.2.1 18 ((144 * q) + n1))) (fAdd (0) (base + (σ0.2.1 18 ((144 * q) + n1))) (0) (σ.2.1 7 ((4 * (220 * r + k)) + n1)) (σ.2.1 8 ((4 * (220 * r + k)) + n1)) σ)).1 62)) - 1) (2) (fAdd (12) (n1) (f) (2) (base + (σ0.2.1 18 ((144 * q) + n1))) (fAdd (0) (base + (σ0.2.1 18 ((144 * q) + n1))) (0) (σ.2.1 7 ((4 * (220 * r + k)) + n1)) (σ.2.1 8 ((4 * (220 * r + k)) + n1)) σ))) ((((Fr.rfl.trans (Fr.sub hF (by decide) (by decide) (by decide))).trans (Fr.sub fAdd_fr (by decide) (by decide) (by decide))).trans (Fr.sub fAdd_fr (by decide) (by decide) (by decide))).A (by decide)) (((hR.add (by omega) (by omega) (by omega) (by omega) (by omega) (by omega)).add (by omega) (by omega) (by omega) (by omega) (by omega) (by omega)).A (by omega)) (by omega) (by have e : (sA 6 ((2640 + ((fAdd (12) (n1) (f) (2) (base + (σ0.2.1 18 ((144 * q) + n1))) (fAdd (0) (base + (σ0.2.1 18 ((144 * q) + n1))) (0) (σ.2.1 7 ((4 * (220 * r + k)) + n1)) (σ.2.1 8 ((4 * (220 * r + k)) + n1)) σ)).1 62)) - 1) (2) (fAdd (12) (n1) (f) (2) (base + (σ0.2.1 18 ((144 * q) + n1))) (fAdd (0) (base + (σ0.2.1 18 ((144 * q) + n1))) (0) (σ.2.1 7 ((4 * (220 * r + k)) + n1)) (σ.2.1 8 ((4 * (220 * r + k)) + n1)) σ))).1 62 = (fAdd (12) (n1) (f) (2) (base + (σ0.2.1 18 ((144 * q) + n1))) (fAdd (0) (base + (σ0.2.1 18 ((144 * q) + n1))) (0) (σ.2.1 7 ((4 * (220 * r + k)) + n1)) (σ.2.1 8 ((4 * (220 * r + k)) + n1)) σ)).1 62 := rfl; omega) (msg_bind (msg_copy hms (by omega) (by omega) (by omega) (by omega)) (by omega) (by omega) (by omega) (by omega) (by omega) (by omega)) (by rw [mb1_s (by omega), ← hbk]; unfold nmS; rw [if_pos (by omega), bS_bind (by omega) (by omega), bS_add (by omega), riK (by omega) (by omega), riN (by omega) (by omega), hie.1, hie.2, e18]; rfl) rfl)
set_option maxHeartbeats 1000000 in
set_option maxRecDepth 20000 in
theorem f_mo3 (d : Nat) {b : Nat} {σ0 : MS} {r : Int} {k : Int} {q : Int} {f : Int} {base : Int} {lb : Int} {out : Int} {to : Int} {ρ : MS} {FI : Int → Int} {lf : Int → Int} {frq : Int → Int} {lfq : Int → Int} {g0 : Int} {m : Int} {mk : Int} {A1 : Int} {S0 : BB} {post : Option Value → MS → Prop} (hmo : MOH ρ r k q f base lb out to g0 m FI lf frq lfq) (hR0 : RG σ0) (hρ : Fr [62] [3, 4, 5, 6, 7, 8] [] ρ σ0) (hbl : BO 59 ρ) (hlv : ∀ g, 0 ≤ g → g < 192 → ρ.2.1 59 g = 1 → g < m) (hA : 1 ≤ A1 ∧ A1 + cnt (lcf ρ q) 192 ≤ 217) (hx_301 : ∀ (g : Int) (σ : MS) , (Fr [62] [3, 4, 5, 6, 7, 8] [] σ0 σ) → (RG σ) → (σ.1 62 = A1 + cnt (lcf ρ q) 192) → (MSG ρ σ FI lf q (f + ρ.2.1 14 q) lb out g0 (σ.1 62) 0 (f)) → (bS σ = mb2 base (LPQ ρ q) S0 192) → Tm (d + 3) m_X12_meltOne 301 b σ [(10, .int (iI mk)), (9, .int (iI to)), (8, .int (iI out)), (7, .int (iI lb)), (6, .int (iI base)), (5, .int (iI f)), (4, .int (iI (220 * r + k))), (0, .ref b), (1, .int (iI r)), (2, .int (iI k)), (3, .int (iI q))] [] post) : ∀ (n : Nat) (g : Int) (σ : MS) , (Fr [62] [3, 4, 5, 6, 7, 8] [] σ0 σ) → (RG σ) → (0 ≤ g ∧ g ≤ 192) → (σ.1 62 = A1 + cnt (lcf ρ q) g.toNat) → (MSG ρ σ FI lf q (f + ρ.2.1 14 q) lb out g0 (σ.1 62) 0 (f)) → (bS σ = mb2 base (LPQ ρ q) S0 g.toNat) → (192 - g).toNat = n → Tm (d + 3) m_X12_meltOne 254 b σ [(11, .int (iI g)), (10, .int (iI mk)), (9, .int (iI to)), (8, .int (iI out)), (7, .int (iI lb)), (6, .int (iI base)), (5, .int (iI f)), (4, .int (iI (220 * r + k))), (0, .ref b), (1, .int (iI r)), (2, .int (iI k)), (3, .int (iI q))] [] post := by
  intro n
  induction n using Nat.strongRecOn with
  | _ n ih =>
    intro g σ hF hR h0 hc hms hbk hm
    have mn := hmo.n
    have mpa := hmo.2.2.2.2.2.2.2.2.2.1 q (by omega) (by omega)
    have e59 : σ0.2.1 59 g = ρ.2.1 59 g := by rw [hρ.2.1 59 (by decide)]
    have hb59 := hbl g
    have hup := cnt_up (lcf_0 ρ q) (show g.toNat ≤ 192 by omega)
    have hc0 := cnt_up (lcf_0 ρ q) (show 0 ≤ g.toNat by omega)
    have hcz : cnt (lcf ρ q) 0 = 0 := rfl
    have hr1 : Fr [62] [3, 4, 5, 6, 7, 8] [] ρ σ := hρ.trans hF
    refine tm_iload dX12_meltOne_254 0 rfl ?_
    refine tm_sipush dX12_meltOne_256 (by decide) ?_
    refine tm_icmp_ge (tgt := 301) dX12_meltOne_259 (by decide) ⟨by omega, by omega⟩ ⟨by decide, by decide⟩ (fun h1 => ?_) (fun h1 => ?_)
    · exact tm_sub [1, 2, 3, 4, 5, 6, 7, 8, 9, 10, 11] rfl (hx_301 (0) σ (Fr.rfl.trans (Fr.sub hF (by decide) (by decide) (by decide))) hR (by rw [show g.toNat = 192 by omega] at hc; exact hc) hms (by have e9 := hbk; rw [show g.toNat = 192 by omega] at e9; exact e9))
    · refine tm_aload_n dX12_meltOne_262 rfl 8 rfl ?_
      refine tm_get (k := 59) (v := .ref (b + 1 + 37)) lay_12 dX12_meltOne_263 (by decide) fl12_130 rfl ?_
      refine tm_iload dX12_meltOne_266 0 rfl ?_
      refine tm_zald (z := g) (v := σ0.2.1 59 g) dX12_meltOne_268 (show mT[37]? = some (59, 2, 42432) from rfl) (by omega) (by omega) (by decide) (ra_F hF (by decide) (rfl)) ?_
      have g2 := RG.a hR0 59 (g)
      refine tm_if_eq (tgt := 295) dX12_meltOne_269 (by decide) ⟨by omega, by omega⟩ (fun h3 => ?_) (fun h3 => ?_)
      · refine tm_iinc (q0 := 0) (L' := [(11, .int (iI (g + 1))), (10, .int (iI mk)), (9, .int (iI to)), (8, .int (iI out)), (7, .int (iI lb)), (6, .int (iI base)), (5, .int (iI f)), (4, .int (iI (220 * r + k))), (0, .ref b), (1, .int (iI r)), (2, .int (iI k)), (3, .int (iI q))]) dX12_meltOne_295 rfl (by decide) rfl ?_
        refine tm_goto (tgt := 254) dX12_meltOne_298 (by decide) ?_
        exact tm_sub [0, 1, 2, 3, 4, 5, 6, 7, 8, 9, 10, 11] rfl (ih _ (by omega) (g + 1) σ (Fr.rfl.trans (Fr.sub hF (by decide) (by decide) (by decide))) hR (by omega) (by rw [cnt_s (by omega), show lcf ρ q g = 0 from by first | exact lcf_n (by omega) | exact lcf_p (by omega) (hP.mp (by omega))]; omega) hms (by rw [mb2_s (by omega), dI_n (fun z => by have z1 := z.1; omega), hbk]) rfl)
      · refine tm_aload_n dX12_meltOne_272 rfl 8 rfl ?_
        refine tm_iload_n dX12_meltOne_273 rfl 11 rfl ?_
        refine tm_iload dX12_meltOne_274 0 rfl ?_
        refine tm_callV (M := m_X12_meltOne) (pc := 276) (ix := 503) (M' := m_X12_isParam) (As := [.int (iI q), .int (iI g)]) (rest := []) dX12_meltOne_276 ok_X12_isParam im_X12_isParam se_X12_isParam ml12_503 np_X12_isParam rfl rfl (Nat.le_of_ble_eq_true rfl) (Nat.le_of_ble_eq_true rfl) rfl (c_X12_isParam (d + 1) (σ := σ) (r := q) (g := g) (by omega) hR (PAR.fr hmo.2.2.2.2.2.2.2.2.2.1 hr1 (by decide)) (by omega)) (fun r4 σ5 hp => ?_)
        obtain ⟨v6, rfl, rfl, f7, f8⟩ := hp
        show Tm _ _ 279 b σ [(11, .int (iI g)), (10, .int (iI mk)), (9, .int (iI to)), (8, .int (iI out)), (7, .int (iI lb)), (6, .int (iI base)), (5, .int (iI f)), (4, .int (iI (220 * r + k))), (0, .ref b), (1, .int (iI r)), (2, .int (iI k)), (3, .int (iI q))] [.int (iI v6)] _
        have hP : v6 = 1 ↔ PMQ ρ q g := by
          have h := f8
          rw [hr1.2.1 11 (by decide), hr1.2.1 18 (by decide)] at h
          exact h
        clear f8
        refine tm_if_ne (tgt := 295) dX12_meltOne_279 (by decide) ⟨by omega, by omega⟩ (fun h10 => ?_) (fun h10 => ?_)
        · refine tm_iinc (q0 := 0) (L' := [(11, .int (iI (g + 1))), (10, .int (iI mk)), (9, .int (iI to)), (8, .int (iI out)), (7, .int (iI lb)), (6, .int (iI base)), (5, .int (iI f)), (4, .int (iI (220 * r + k))), (0, .ref b), (1, .int (iI r)), (2, .int (iI k)), (3, .int (iI q))]) dX12_meltOne_295 rfl (by decide) rfl ?_
          refine tm_goto (tgt := 254) dX12_meltOne_298 (by decide) ?_
          exact tm_sub [0, 1, 2, 3, 4, 5, 6, 7, 8, 9, 10, 11] rfl (ih _ (by omega) (g + 1) σ (Fr.rfl.trans (Fr.sub hF (by decide) (by decide) (by decide))) hR (by omega) (by rw [cnt_s (by omega), show lcf ρ q g = 0 from by first | exact lcf_n (by omega) | exact lcf_p (by omega) (hP.mp (by omega))]; omega) hms (by rw [mb2_s (by omega), dI_n (fun z => by first | omega | (exact z.2 (hP.mp (by omega)))), hbk]) rfl)
        · have hgm := hlv g (by omega) (by omega) (by omega)
          refine tm_aload_n dX12_meltOne_282 rfl 8 rfl ?_
          refine tm_iconst dX12_meltOne_283 ?_
          refine tm_iload dX12_meltOne_284 5 rfl ?_
          refine tm_iload dX12_meltOne_286 0 rfl ?_
          refine tm_iadd dX12_meltOne_288 ?_
          refine tm_iconst dX12_meltOne_289 ?_
          refine tm_iconst dX12_meltOne_290 ?_
          refine tm_iconst dX12_meltOne_291 ?_
          refine tm_callV (M := m_X12_meltOne) (pc := 292) (ix := 515) (M' := m_X12_add) (As := [.int (iI 0), .int (iI (base + g)), .int (iI 0), .int (iI 1), .int (iI 0)]) (rest := []) dX12_meltOne_292 ok_X12_add im_X12_add se_X12_add ml12_515 np_X12_add rfl rfl (Nat.le_of_ble_eq_true rfl) (Nat.le_of_ble_eq_true rfl) rfl (c_X12_add (d) (σ := σ) (k := 0) (e := base + g) (o := 0) (ak := 1) (a := 0) hR (by omega)) (fun r11 σ12 hp => ?_)
          obtain ⟨rfl, f14⟩ := hp
          subst f14
          show Tm _ _ 295 b (fAdd (0) (base + g) (0) (1) (0) σ) [(11, .int (iI g)), (10, .int (iI mk)), (9, .int (iI to)), (8, .int (iI out)), (7, .int (iI lb)), (6, .int (iI base)), (5, .int (iI f)), (4, .int (iI (220 * r + k))), (0, .ref b), (1, .int (iI r)), (2, .int (iI k)), (3, .int (iI q))] [] _
          have n62a : (fAdd (0) (base + g) (0) (1) (0) σ).1 62 = σ.1 62 + 1 := fAdd_n
          refine tm_iinc (q0 := 0) (L' := [(11, .int (iI (g + 1))), (10, .int (iI mk)), (9, .int (iI to)), (8, .int (iI out)), (7, .int (iI lb)), (6, .int (iI base)), (5, .int (iI f)), (4, .int (iI (220 * r + k))), (0, .ref b), (1, .int (iI r)), (2, .int (iI k)), (3, .int (iI q))]) dX12_meltOne_295 rfl (by decide) rfl ?_
          refine tm_goto (tgt := 254) dX12_meltOne_298 (by decide) ?_
          exact tm_sub [0, 1, 2, 3, 4, 5, 6, 7, 8, 9, 10, 11] rfl (ih _ (by omega) (g + 1) (fAdd (0) (base + g) (0) (1) (0) σ) ((Fr.rfl.trans (Fr.sub hF (by decide) (by decide) (by decide))).trans (Fr.sub fAdd_fr (by decide) (by decide) (by decide))) (hR.add (by omega) (by omega) (by omega) (by omega) (by omega) (by omega)) (by omega) (by rw [cnt_s (by omega), lcf_y (by omega) (fun w => absurd (hP.mpr w) (by omega))]; omega) (msg_copy hms (by omega) (by omega) (by omega) (by omega)) (by rw [mb2_s (by omega), dI_y ⟨by omega, fun w => absurd (hP.mpr w) (by omega)⟩, ← hbk, bS_add (by omega)]) rfl)
set_option maxHeartbeats 1000000 in
set_option maxRecDepth 20000 in
theorem f_mo4 (d : Nat) {b : Nat} {σ0 : MS} {r : Int} {k : Int} {q : Int} {f : Int} {base : Int} {lb : Int} {out : Int} {to : Int} {ρ : MS} {FI : Int → Int} {lf : Int → Int} {frq : Int → Int} {lfq : Int → Int} {g0 : Int} {m : Int} {mk : Int} {A2 : Int} {S0 : BB} {post : Option Value → MS → Prop} (hmo : MOH ρ r k q f base lb out to g0 m FI lf frq lfq) (hR0 : RG σ0) (hρ : Fr [62] [3, 4, 5, 6, 7, 8] [] ρ σ0) (hA : 1 ≤ A2 ∧ A2 + ρ.2.1 9 q + cnt (rcf ρ q) (ρ.2.1 9 q).toNat ≤ 217) (hx_342 : ∀ (i : Int) (σ : MS) , (Fr [62] [3, 4, 5, 6, 7, 8] [] σ0 σ) → (RG σ) → (σ.1 62 = A2 + ρ.2.1 9 q + cnt (rcf ρ q) (ρ.2.1 9 q).toNat) → (MSG ρ σ FI lf q (f + ρ.2.1 14 q) lb out g0 (σ.1 62) (ρ.2.1 9 q) (Gq ρ q f frq (ρ.2.1 9 q))) → (bS σ = mb3 f base lb to out (rV ρ q) S0 (ρ.2.1 9 q).toNat) → Tm (d + 4) m_X12_meltOne 342 b σ [(10, .int (iI mk)), (9, .int (iI to)), (8, .int (iI out)), (7, .int (iI lb)), (6, .int (iI base)), (5, .int (iI f)), (4, .int (iI (220 * r + k))), (0, .ref b), (1, .int (iI r)), (2, .int (iI k)), (3, .int (iI q))] [] post) : ∀ (n : Nat) (i : Int) (σ : MS) , (Fr [62] [3, 4, 5, 6, 7, 8] [] σ0 σ) → (RG σ) → (0 ≤ i ∧ i ≤ ρ.2.1 9 q) → (σ.1 62 = A2 + i + cnt (rcf ρ q) i.toNat) → (MSG ρ σ FI lf q (f + ρ.2.1 14 q) lb out g0 (σ.1 62) i (Gq ρ q f frq i)) → (bS σ = mb3 f base lb to out (rV ρ q) S0 i.toNat) → (220 - i).toNat = n → Tm (d + 4) m_X12_meltOne 304 b σ [(11, .int (iI i)), (10, .int (iI mk)), (9, .int (iI to)), (8, .int (iI out)), (7, .int (iI lb)), (6, .int (iI base)), (5, .int (iI f)), (4, .int (iI (220 * r + k))), (0, .ref b), (1, .int (iI r)), (2, .int (iI k)), (3, .int (iI q))] [] post := by
  intro n
  induction n using Nat.strongRecOn with
  | _ n ih =>
    intro i σ hF hR h0 hc hms hbk hm
    have mn := hmo.n
    have e9 : σ0.2.1 9 q = ρ.2.1 9 q := by rw [hρ.2.1 9 (by decide)]
    have hup := cnt_up (rcf_0 ρ q) (show i.toNat ≤ (ρ.2.1 9 q).toNat by omega)
    have hc0 := cnt_up (rcf_0 ρ q) (show 0 ≤ i.toNat by omega)
    have hcz : cnt (rcf ρ q) 0 = 0 := rfl
    refine tm_iload dX12_meltOne_304 0 rfl ?_
    refine tm_aload_n dX12_meltOne_306 rfl 8 rfl ?_
    refine tm_get (k := 9) (v := .ref (b + 1 + 7)) lay_12 dX12_meltOne_307 (by decide) fl12_32 rfl ?_
    refine tm_iload_n dX12_meltOne_310 rfl 11 rfl ?_
    refine tm_iald (z := q) (v := σ0.2.1 9 q) dX12_meltOne_311 (show mT[7]? = some (9, 0, 13) from rfl) (by omega) (by omega) (by decide) (ra_F hF (by decide) (rfl)) ?_
    have g1 := RG.a hR0 9 (q)
    refine tm_icmp_ge (tgt := 342) dX12_meltOne_312 (by decide) ⟨by omega, by omega⟩ ⟨by omega, by omega⟩ (fun h2 => ?_) (fun h2 => ?_)
    · exact tm_sub [1, 2, 3, 4, 5, 6, 7, 8, 9, 10, 11] rfl (hx_342 (0) σ (Fr.rfl.trans (Fr.sub hF (by decide) (by decide) (by decide))) hR (by rw [show i = ρ.2.1 9 q by omega] at hc; exact hc) (by rw [show i = ρ.2.1 9 q by omega] at hms; exact hms) (by have e9 := hbk; rw [show i = ρ.2.1 9 q by omega] at e9; exact e9))
    · refine tm_aload_n dX12_meltOne_315 rfl 8 rfl ?_
      refine tm_aload_n dX12_meltOne_316 rfl 8 rfl ?_
      refine tm_iload_n dX12_meltOne_317 rfl 11 rfl ?_
      refine tm_iload dX12_meltOne_318 0 rfl ?_
      refine tm_callV (M := m_X12_meltOne) (pc := 320) (ix := 203) (M' := m_X12_at) (As := [.int (iI q), .int (iI i)]) (rest := [.ref b]) dX12_meltOne_320 ok_X12_at im_X12_at se_X12_at ml12_203 np_X12_at rfl rfl (Nat.le_of_ble_eq_true rfl) (Nat.le_of_ble_eq_true rfl) rfl (c_X12_at (d + 2) (σ := σ) (x := q) (k := i) ) (fun r3 σ4 hp => ?_)
      obtain ⟨v5, rfl, rfl, f6⟩ := hp
      subst f6
      show Tm _ _ 323 b σ [(11, .int (iI i)), (10, .int (iI mk)), (9, .int (iI to)), (8, .int (iI out)), (7, .int (iI lb)), (6, .int (iI base)), (5, .int (iI f)), (4, .int (iI (220 * r + k))), (0, .ref b), (1, .int (iI r)), (2, .int (iI k)), (3, .int (iI q))] [.int (iI (220 * q + i)), .ref b] _
      refine tm_iload dX12_meltOne_323 6 rfl ?_
      refine tm_iload dX12_meltOne_325 5 rfl ?_
      refine tm_iload dX12_meltOne_327 4 rfl ?_
      refine tm_iload dX12_meltOne_329 2 rfl ?_
      refine tm_iload dX12_meltOne_331 3 rfl ?_
      refine tm_callV (M := m_X12_meltOne) (pc := 333) (ix := 518) (M' := m_X12_meltItem) (As := [.int (iI (220 * q + i)), .int (iI f), .int (iI base), .int (iI lb), .int (iI to), .int (iI out)]) (rest := []) dX12_meltOne_333 ok_X12_meltItem im_X12_meltItem se_X12_meltItem ml12_518 np_X12_meltItem rfl rfl (Nat.le_of_ble_eq_true rfl) (Nat.le_of_ble_eq_true rfl) rfl (f_X12_meltItem (d) (σ := σ) (x := 220 * q + i) (f := f) (base := base) (lb := lb) (to := to) (out := out) (ρ := ρ) (FI := FI) (lf := lf) (frq := frq) (lfq := lfq) (q := q) (i := i) (g0 := g0) (m := m) hR rfl (by omega) (by omega) (hmo.mih hms (by omega) (by omega)) (by omega)) (fun r7 σ8 hp => ?_)
      obtain ⟨rfl, f10, f11, f12, f13, f14⟩ := hp
      show Tm _ _ 336 b σ8 [(11, .int (iI i)), (10, .int (iI mk)), (9, .int (iI to)), (8, .int (iI out)), (7, .int (iI lb)), (6, .int (iI base)), (5, .int (iI f)), (4, .int (iI (220 * r + k))), (0, .ref b), (1, .int (iI r)), (2, .int (iI k)), (3, .int (iI q))] [] _
      refine tm_iinc (q0 := 0) (L' := [(11, .int (iI (i + 1))), (10, .int (iI mk)), (9, .int (iI to)), (8, .int (iI out)), (7, .int (iI lb)), (6, .int (iI base)), (5, .int (iI f)), (4, .int (iI (220 * r + k))), (0, .ref b), (1, .int (iI r)), (2, .int (iI k)), (3, .int (iI q))]) dX12_meltOne_336 rfl (by decide) rfl ?_
      refine tm_goto (tgt := 304) dX12_meltOne_339 (by decide) ?_
      exact tm_sub [0, 1, 2, 3, 4, 5, 6, 7, 8, 9, 10, 11] rfl (ih _ (by omega) (i + 1) σ8 ((Fr.rfl.trans (Fr.sub hF (by decide) (by decide) (by decide))).trans (Fr.sub f10 (by decide) (by decide) (by decide))) f11 (by omega) (by rw [cnt_s (by omega), show rcf ρ q i = (if ρ.2.1 3 (220 * q + i) = 7 then 1 else 0) from rfl]; have e := f12; split at e <;> split <;> omega) f13 (by rw [mb3_s (by omega), f14, hbk, rv_in (by omega) (by omega)]; rfl) rfl)
end
section
def FRL (ρ σ : MS) (r q F l0 j : Int) : Prop := ∀ u, 0 ≤ u → u < j → (u = 0 → σ.2.1 17 (12 * r + F + u) = l0) ∧ (u ≠ 0 → σ.2.1 17 (12 * r + F + u) = ρ.2.1 17 (12 * q + u))
theorem FRL.go {ρ σ τ : MS} {r q F l0 j y a b c : Int} (h : FRL ρ σ r q F l0 j) (hj : 0 ≤ j) (hy : y = 12 * r + F + j) (f : Fr [] [18] [] (sA 17 y c (sA 16 y b (sA 15 y a σ))) τ) (h0 : j = 0 → c = l0) (h1 : j ≠ 0 → c = ρ.2.1 17 (12 * q + j)) : FRL ρ τ r q F l0 (j + 1) := fun u x w => by
  subst hy
  have e17 : τ.2.1 17 = (sA 17 (12 * r + F + j) c (sA 16 (12 * r + F + j) b (sA 15 (12 * r + F + j) a σ))).2.1 17 := by rw [f.2.1 17 (by decide)]
  rw [e17]
  by_cases z : u = j
  · subst z
    exact ⟨fun e => ra_eq.trans (h0 e), fun e => ra_eq.trans (h1 e)⟩
  · obtain ⟨g1, g2⟩ := h u x (by omega)
    exact ⟨fun e => ra_ne (by omega) (ra_o (by decide) (ra_o (by decide) (g1 e))), fun e => ra_ne (by omega) (ra_o (by decide) (ra_o (by decide) (g2 e)))⟩
noncomputable def mkB (f base lb out to P N nq : Int) (na : Int → Int) (x : It) (lv : Int → Prop) (Vq : Int → It) : BB :=
  bA (bA (mb3 f base lb to out Vq (mb2 base lv (mb1 f base P na x (bA (0, fun _ => zI) (mkI 14 f 0 0 0 0)) N.toNat) 192) nq.toNat) (mkI 13 out 0 0 0 0)) (mkI 15 f 0 0 0 0)
def spV (V : Int → It) (k a : Int) (B : Int → It) : Int → It := fun i => if i < k then V i else if i < k + a then B (i - k) else V (i - a + 1)
theorem bS_0 {σ : MS} : bS (sS 62 0 σ) = (0, fun _ => zI) := by
  unfold bS
  rw [show (sS 62 0 σ).1 62 = 0 from rs_eq]
  refine Prod.ext rfl ?_
  funext j
  exact if_neg (by omega)
theorem sp_rv {σ s5 s6 s7 s8 : MS} {r k a n : Int} (hn : n = σ.2.1 9 r) (hk : 0 ≤ k ∧ k < n ∧ 1 ≤ a ∧ n + (a - 1) ≤ 220) (hr : 0 ≤ r ∧ r < 6) (e5 : ∀ j, 0 ≤ j → j < n → rI s5 (220 * r + j) = rI σ (220 * r + j)) (hb : s5.1 62 = a) (h56 : ∀ y, rI s6 y = rI s5 y) (hs : SHU s6 s7 r n a k) (hc : CPI s7 s8 r k a a) : oV s8 r (n + a - 1) = spV (rV σ r) k a (bS s5).2 := by
  subst hn
  funext i
  unfold spV
  have b : (bS s5).2 = fun j => if 0 ≤ j ∧ j < s5.1 62 then rI s5 (2640 + j) else zI := rfl
  by_cases q : 0 ≤ i ∧ i < σ.2.1 9 r + a - 1
  · rw [show oV s8 r (σ.2.1 9 r + a - 1) i = rI s8 (220 * r + i) from if_pos q]
    by_cases x : i < k
    · rw [if_pos x, (hc.2.1 i q.1 (by omega) (by omega)).ri, (hs.1 i q.1 (by omega)).ri, h56, e5 i q.1 (by omega), rv_in q.1 (by omega)]
    · rw [if_neg x]
      by_cases y : i < k + a
      · rw [if_pos y, b]
        have e := (hc.1 (i - k) (by omega) (by omega)).ri
        rw [show k + (i - k) = i by omega] at e
        show rI s8 (220 * r + i) = if 0 ≤ i - k ∧ i - k < s5.1 62 then rI s5 (2640 + (i - k)) else zI
        rw [e, (hs.2.2.1 (2640 + (i - k)) (by omega)).ri, h56, if_pos (by omega)]
      · rw [if_neg y, (hc.2.1 i q.1 (by omega) (by omega)).ri]
        have e := (hs.2.1 (i - a + 1) (by omega) (by omega)).ri
        rw [show i - a + 1 + (a - 1) = i by omega] at e
        rw [e, h56, e5 _ (by omega) (by omega), rv_in (by omega) (by omega)]
  · rw [show oV s8 r (σ.2.1 9 r + a - 1) i = zI from if_neg q]
    by_cases x : i < k
    · rw [if_pos x]; exact (if_neg (by omega)).symm
    · rw [if_neg x, if_neg (by omega)]; exact (if_neg (by omega)).symm
def MLO (σ τ : MS) (r k q v : Int) : Prop := ∃ base lb lq j0, mxV (RGB σ r) base ∧ mxV (LBB σ r) lb ∧ mxV (LBB σ q) lq ∧ (0 ≤ j0 ∧ j0 < k ∧ σ.2.1 3 (220 * r + j0) = 11 ∧ ∀ i, j0 < i → i < k → σ.2.1 3 (220 * r + i) ≤ 5) ∧
  v = k + (mkB (σ.2.1 14 r) base lb (lb + lq) (σ.2.1 4 (220 * r + k)) (σ.2.1 11 q) (σ.2.1 12 q) (σ.2.1 9 q) (naR σ q) (rI σ (220 * r + k)) (LPQ σ q) (rV σ q)).1 ∧
  τ.2.1 9 r = σ.2.1 9 r + (mkB (σ.2.1 14 r) base lb (lb + lq) (σ.2.1 4 (220 * r + k)) (σ.2.1 11 q) (σ.2.1 12 q) (σ.2.1 9 q) (naR σ q) (rI σ (220 * r + k)) (LPQ σ q) (rV σ q)).1 - 1 ∧
  rV τ r = spV (rV σ r) k (mkB (σ.2.1 14 r) base lb (lb + lq) (σ.2.1 4 (220 * r + k)) (σ.2.1 11 q) (σ.2.1 12 q) (σ.2.1 9 q) (naR σ q) (rI σ (220 * r + k)) (LPQ σ q) (rV σ q)).1 (mkB (σ.2.1 14 r) base lb (lb + lq) (σ.2.1 4 (220 * r + k)) (σ.2.1 11 q) (σ.2.1 12 q) (σ.2.1 9 q) (naR σ q) (rI σ (220 * r + k)) (LPQ σ q) (rV σ q)).2 ∧
  FRM σ τ r q (σ.2.1 14 r) (σ.2.1 5 (220 * r + j0)) base (σ.2.1 14 q) ∧ FRL σ τ r q (σ.2.1 14 r) (σ.2.1 4 (220 * r + j0)) (σ.2.1 14 q)
theorem FRL.fr {ss ks js : List Nat} {ρ σ τ : MS} {r q F l0 j : Int} (h : FRL ρ σ r q F l0 j) (f : Fr ss ks js σ τ) (hk : 17 ∉ ks) : FRL ρ τ r q F l0 j := by
  unfold FRL
  rw [f.2.1 17 hk]
  exact h
end
section
set_option maxHeartbeats 1000000 in
set_option maxRecDepth 20000 in
theorem f_mo5 (d : Nat) {b : Nat} {σ0 : MS} {r : Int} {k : Int} {q : Int} {f : Int} {base : Int} {lb : Int} {out : Int} {to : Int} {ρ : MS} {FI : Int → Int} {lf : Int → Int} {frq : Int → Int} {lfq : Int → Int} {g0 : Int} {m : Int} {mk : Int} {l0 : Int} {post : Option Value → MS → Prop} (hmo : MOH ρ r k q f base lb out to g0 m FI lf frq lfq) (hR0 : RG σ0) (hρ : Fr [62] [3, 4, 5, 6, 7, 8] [] ρ σ0) (hmk : σ0.2.1 5 (220 * r + mk) = g0 ∧ 0 ≤ mk ∧ mk < 220) (hfq : FRI ρ q) (hl0 : σ0.2.1 4 (220 * r + mk) = l0) (hx_550 : ∀ (j : Int) (σ : MS) , (Fr [] [15, 16, 17, 18] [] σ0 σ) → (RG σ) → (FRM ρ σ r q f g0 base (ρ.2.1 14 q)) → (FRL ρ σ r q f l0 (ρ.2.1 14 q)) → Tm (d + 2) m_X12_meltOne 550 b σ [(10, .int (iI mk)), (9, .int (iI to)), (8, .int (iI out)), (7, .int (iI lb)), (6, .int (iI base)), (5, .int (iI f)), (4, .int (iI (220 * r + k))), (0, .ref b), (1, .int (iI r)), (2, .int (iI k)), (3, .int (iI q))] [] post) : ∀ (n : Nat) (j : Int) (σ : MS) , (Fr [] [15, 16, 17, 18] [] σ0 σ) → (RG σ) → (0 ≤ j ∧ j ≤ ρ.2.1 14 q) → (FRM ρ σ r q f g0 base j) → (FRL ρ σ r q f l0 j) → (12 - j).toNat = n → Tm (d + 2) m_X12_meltOne 367 b σ [(11, .int (iI j)), (10, .int (iI mk)), (9, .int (iI to)), (8, .int (iI out)), (7, .int (iI lb)), (6, .int (iI base)), (5, .int (iI f)), (4, .int (iI (220 * r + k))), (0, .ref b), (1, .int (iI r)), (2, .int (iI k)), (3, .int (iI q))] [] post := by
  intro n
  induction n using Nat.strongRecOn with
  | _ n ih =>
    intro j σ hF hR h0 hfm hl7 hm
    have mn := hmo.n
    have e14 : σ0.2.1 14 q = ρ.2.1 14 q := by rw [hρ.2.1 14 (by decide)]
    refine tm_iload dX12_meltOne_367 0 rfl ?_
    refine tm_aload_n dX12_meltOne_369 rfl 8 rfl ?_
    refine tm_get (k := 14) (v := .ref (b + 1 + 11)) lay_12 dX12_meltOne_370 (by decide) fl12_44 rfl ?_
    refine tm_iload_n dX12_meltOne_373 rfl 11 rfl ?_
    refine tm_iald (z := q) (v := σ0.2.1 14 q) dX12_meltOne_374 (show mT[11]? = some (14, 0, 6) from rfl) (by omega) (by omega) (by decide) (ra_F hF (by decide) (rfl)) ?_
    have g1 := RG.a hR0 14 (q)
    refine tm_icmp_ge (tgt := 550) dX12_meltOne_375 (by decide) ⟨by omega, by omega⟩ ⟨by omega, by omega⟩ (fun h2 => ?_) (fun h2 => ?_)
    · exact tm_sub [1, 2, 3, 4, 5, 6, 7, 8, 9, 10, 11] rfl (hx_550 (0) σ (Fr.rfl.trans (Fr.sub hF (by decide) (by decide) (by decide))) hR (by rw [show ρ.2.1 14 q = j by omega]; exact hfm) (by rw [show ρ.2.1 14 q = j by omega]; exact hl7))
    · have e16 := hfm.2.1 (12 * q + j) (by omega)
      have hf1 := hfq.2 j
      refine tm_bipush dX12_meltOne_378 (by decide) ?_
      refine tm_iload_n dX12_meltOne_380 rfl 9 rfl ?_
      refine tm_imul dX12_meltOne_381 ?_
      refine tm_iload dX12_meltOne_382 6 rfl ?_
      refine tm_iadd dX12_meltOne_384 ?_
      refine tm_iload dX12_meltOne_385 0 rfl ?_
      refine tm_iadd dX12_meltOne_387 ?_
      refine tm_istore (L' := [(12, .int (iI (((12 * r) + f) + j))), (11, .int (iI j)), (10, .int (iI mk)), (9, .int (iI to)), (8, .int (iI out)), (7, .int (iI lb)), (6, .int (iI base)), (5, .int (iI f)), (4, .int (iI (220 * r + k))), (0, .ref b), (1, .int (iI r)), (2, .int (iI k)), (3, .int (iI q))]) dX12_meltOne_388 (by decide) rfl ?_
      refine tm_bipush dX12_meltOne_390 (by decide) ?_
      refine tm_iload_n dX12_meltOne_392 rfl 12 rfl ?_
      refine tm_imul dX12_meltOne_393 ?_
      refine tm_iload dX12_meltOne_394 1 rfl ?_
      refine tm_iadd dX12_meltOne_396 ?_
      refine tm_istore (L' := [(13, .int (iI ((12 * q) + j))), (12, .int (iI (((12 * r) + f) + j))), (11, .int (iI j)), (10, .int (iI mk)), (9, .int (iI to)), (8, .int (iI out)), (7, .int (iI lb)), (6, .int (iI base)), (5, .int (iI f)), (4, .int (iI (220 * r + k))), (0, .ref b), (1, .int (iI r)), (2, .int (iI k)), (3, .int (iI q))]) dX12_meltOne_397 (by decide) rfl ?_
      refine tm_aload_n dX12_meltOne_399 rfl 10 rfl ?_
      refine tm_get (k := 15) (v := .ref (b + 1 + 12)) lay_12 dX12_meltOne_400 (by decide) fl12_47 rfl ?_
      refine tm_iload dX12_meltOne_403 1 rfl ?_
      refine tm_aload_n dX12_meltOne_405 rfl 10 rfl ?_
      refine tm_get (k := 15) (v := .ref (b + 1 + 12)) lay_12 dX12_meltOne_406 (by decide) fl12_47 rfl ?_
      refine tm_iload dX12_meltOne_409 0 rfl ?_
      refine tm_iald (z := (12 * q) + j) (v := σ.2.1 15 ((12 * q) + j)) dX12_meltOne_411 (show mT[12]? = some (15, 0, 72) from rfl) (by omega) (by omega) (by decide) (rfl) ?_
      have g3 := RG.a hR 15 ((12 * q) + j)
      refine tm_iast (z := ((12 * r) + f) + j) (v := σ.2.1 15 ((12 * q) + j)) dX12_meltOne_412 (show mT[12]? = some (15, 0, 72) from rfl) (by omega) (by omega) (by decide) ?_
      refine tm_aload_n dX12_meltOne_413 rfl 10 rfl ?_
      refine tm_get (k := 16) (v := .ref (b + 1 + 13)) lay_12 dX12_meltOne_414 (by decide) fl12_50 rfl ?_
      refine tm_iload dX12_meltOne_417 1 rfl ?_
      refine tm_iload dX12_meltOne_419 2 rfl ?_
      refine tm_if_ne (tgt := 439) dX12_meltOne_421 (by decide) ⟨by omega, by omega⟩ (fun h4 => ?_) (fun h4 => ?_)
      · refine tm_aload_n dX12_meltOne_439 rfl 10 rfl ?_
        refine tm_get (k := 16) (v := .ref (b + 1 + 13)) lay_12 dX12_meltOne_440 (by decide) fl12_50 rfl ?_
        refine tm_iload dX12_meltOne_443 0 rfl ?_
        refine tm_iald (z := (12 * q) + j) (v := σ.2.1 16 ((12 * q) + j)) dX12_meltOne_445 (show mT[13]? = some (16, 0, 72) from rfl) (by omega) (by omega) (by decide) (ra_o (by decide) (rfl)) ?_
        have g5 := RG.a hR 16 ((12 * q) + j)
        refine tm_iload dX12_meltOne_446 8 rfl ?_
        refine tm_iadd dX12_meltOne_448 ?_
        refine tm_iast (z := ((12 * r) + f) + j) (v := (σ.2.1 16 ((12 * q) + j)) + f) dX12_meltOne_449 (show mT[13]? = some (16, 0, 72) from rfl) (by omega) (by omega) (by decide) ?_
        refine tm_aload_n dX12_meltOne_450 rfl 10 rfl ?_
        refine tm_get (k := 17) (v := .ref (b + 1 + 14)) lay_12 dX12_meltOne_451 (by decide) fl12_53 rfl ?_
        refine tm_iload dX12_meltOne_454 1 rfl ?_
        refine tm_iload dX12_meltOne_456 2 rfl ?_
        refine tm_if_ne (tgt := 476) dX12_meltOne_458 (by decide) ⟨by omega, by omega⟩ (fun h6 => ?_) (fun h6 => ?_)
        · refine tm_aload_n dX12_meltOne_476 rfl 10 rfl ?_
          refine tm_get (k := 17) (v := .ref (b + 1 + 14)) lay_12 dX12_meltOne_477 (by decide) fl12_53 rfl ?_
          refine tm_iload dX12_meltOne_480 0 rfl ?_
          refine tm_iald (z := (12 * q) + j) (v := σ.2.1 17 ((12 * q) + j)) dX12_meltOne_482 (show mT[14]? = some (17, 0, 72) from rfl) (by omega) (by omega) (by decide) (ra_o (by decide) (ra_o (by decide) (rfl))) ?_
          have g7 := RG.a hR 17 ((12 * q) + j)
          refine tm_iast (z := ((12 * r) + f) + j) (v := σ.2.1 17 ((12 * q) + j)) dX12_meltOne_483 (show mT[14]? = some (17, 0, 72) from rfl) (by omega) (by omega) (by decide) ?_
          refine tm_iconst dX12_meltOne_484 ?_
          refine tm_istore (L' := [(14, .int (iI 0)), (13, .int (iI ((12 * q) + j))), (12, .int (iI (((12 * r) + f) + j))), (11, .int (iI j)), (10, .int (iI mk)), (9, .int (iI to)), (8, .int (iI out)), (7, .int (iI lb)), (6, .int (iI base)), (5, .int (iI f)), (4, .int (iI (220 * r + k))), (0, .ref b), (1, .int (iI r)), (2, .int (iI k)), (3, .int (iI q))]) dX12_meltOne_485 (by decide) rfl ?_
          refine tm_sub [0, 3, 4, 5, 6, 7, 8, 9, 10, 11, 12, 13, 14] rfl (l_mo6 (d + 1) (σ0 := (sA 17 (((12 * r) + f) + j) (σ.2.1 17 ((12 * q) + j)) (sA 16 (((12 * r) + f) + j) ((σ.2.1 16 ((12 * q) + j)) + f) (sA 15 (((12 * r) + f) + j) (σ.2.1 15 ((12 * q) + j)) σ)))) (r := r) (k := k) (q := q) (f := f) (base := base) (lb := lb) (out := out) (to := to) (mk := mk) (j := j) (((hR.A (by omega)).A (by omega)).A (by omega)) (by omega) (by omega) (fun n114 σ15 F10 R11 f12 f13 => ?_) _ (0) (sA 17 (((12 * r) + f) + j) (σ.2.1 17 ((12 * q) + j)) (sA 16 (((12 * r) + f) + j) ((σ.2.1 16 ((12 * q) + j)) + f) (sA 15 (((12 * r) + f) + j) (σ.2.1 15 ((12 * q) + j)) σ))) Fr.rfl (((hR.A (by omega)).A (by omega)).A (by omega)) (by omega) (fun n a c => by omega) (fun z c => rfl) rfl)
          show Tm _ _ 544 b σ15 [(11, .int (iI j)), (10, .int (iI mk)), (9, .int (iI to)), (8, .int (iI out)), (7, .int (iI lb)), (6, .int (iI base)), (5, .int (iI f)), (4, .int (iI (220 * r + k))), (0, .ref b), (1, .int (iI r)), (2, .int (iI k)), (3, .int (iI q))] [] _
          refine tm_iinc (q0 := 0) (L' := [(11, .int (iI (j + 1))), (10, .int (iI mk)), (9, .int (iI to)), (8, .int (iI out)), (7, .int (iI lb)), (6, .int (iI base)), (5, .int (iI f)), (4, .int (iI (220 * r + k))), (0, .ref b), (1, .int (iI r)), (2, .int (iI k)), (3, .int (iI q))]) dX12_meltOne_544 rfl (by decide) rfl ?_
          refine tm_goto (tgt := 367) dX12_meltOne_547 (by decide) ?_
          exact tm_sub [0, 1, 2, 3, 4, 5, 6, 7, 8, 9, 10, 11] rfl (ih _ (by omega) (j + 1) σ15 (((((Fr.rfl.trans (Fr.sub hF (by decide) (by decide) (by decide))).A (by decide)).A (by decide)).A (by decide)).trans (Fr.sub F10 (by decide) (by decide) (by decide))) R11 (by omega) (hfm.go (by omega) (by omega) F10 (by omega) (fun e => by omega) (fun e => by omega) (fun n a c => by
          rw [f12 n a c, show (sA 17 (((12 * r) + f) + j) (σ.2.1 17 ((12 * q) + j)) (sA 16 (((12 * r) + f) + j) ((σ.2.1 16 ((12 * q) + j)) + f) (sA 15 (((12 * r) + f) + j) (σ.2.1 15 ((12 * q) + j)) σ))).2.1 18 (144 * q + 12 * j + n) = ρ.2.1 18 (144 * q + 12 * j + n) from hfm.2.2 _ (by omega)]) (fun z c => f13 z c)) (hl7.go (by omega) (by omega) F10 (fun e => by omega) (fun e => by omega)) rfl)
        · exact absurd h6 (by omega)
      · refine tm_aload_n dX12_meltOne_424 rfl 10 rfl ?_
        refine tm_get (k := 5) (v := .ref (b + 1 + 3)) lay_12 dX12_meltOne_425 (by decide) fl12_20 rfl ?_
        refine tm_aload_n dX12_meltOne_428 rfl 10 rfl ?_
        refine tm_iload_n dX12_meltOne_429 rfl 11 rfl ?_
        refine tm_iload dX12_meltOne_430 3 rfl ?_
        refine tm_callV (M := m_X12_meltOne) (pc := 432) (ix := 203) (M' := m_X12_at) (As := [.int (iI r), .int (iI mk)]) (rest := [.ref (b + 1 + 3), .int (iI (((12 * r) + f) + j)), .ref (b + 1 + 13)]) dX12_meltOne_432 ok_X12_at im_X12_at se_X12_at ml12_203 np_X12_at rfl rfl (Nat.le_of_ble_eq_true rfl) (Nat.le_of_ble_eq_true rfl) rfl (c_X12_at (d) (σ := (sA 15 (((12 * r) + f) + j) (σ.2.1 15 ((12 * q) + j)) σ)) (x := r) (k := mk) ) (fun r16 σ17 hp => ?_)
        obtain ⟨v18, rfl, rfl, f19⟩ := hp
        subst f19
        show Tm _ _ 435 b (sA 15 (((12 * r) + f) + j) (σ.2.1 15 ((12 * q) + j)) σ) [(13, .int (iI ((12 * q) + j))), (12, .int (iI (((12 * r) + f) + j))), (11, .int (iI j)), (10, .int (iI mk)), (9, .int (iI to)), (8, .int (iI out)), (7, .int (iI lb)), (6, .int (iI base)), (5, .int (iI f)), (4, .int (iI (220 * r + k))), (0, .ref b), (1, .int (iI r)), (2, .int (iI k)), (3, .int (iI q))] [.int (iI (220 * r + mk)), .ref (b + 1 + 3), .int (iI (((12 * r) + f) + j)), .ref (b + 1 + 13)] _
        refine tm_iald (z := 220 * r + mk) (v := σ0.2.1 5 (220 * r + mk)) dX12_meltOne_435 (show mT[3]? = some (5, 0, 2860) from rfl) (by omega) (by omega) (by decide) (ra_o (by decide) (ra_F hF (by decide) (rfl))) ?_
        have g20 := RG.a hR0 5 (220 * r + mk)
        refine tm_goto (tgt := 449) dX12_meltOne_436 (by decide) ?_
        refine tm_iast (z := ((12 * r) + f) + j) (v := σ0.2.1 5 (220 * r + mk)) dX12_meltOne_449 (show mT[13]? = some (16, 0, 72) from rfl) (by omega) (by omega) (by decide) ?_
        refine tm_aload_n dX12_meltOne_450 rfl 10 rfl ?_
        refine tm_get (k := 17) (v := .ref (b + 1 + 14)) lay_12 dX12_meltOne_451 (by decide) fl12_53 rfl ?_
        refine tm_iload dX12_meltOne_454 1 rfl ?_
        refine tm_iload dX12_meltOne_456 2 rfl ?_
        refine tm_if_ne (tgt := 476) dX12_meltOne_458 (by decide) ⟨by omega, by omega⟩ (fun h21 => ?_) (fun h21 => ?_)
        · exact absurd h21 (by omega)
        · refine tm_aload_n dX12_meltOne_461 rfl 10 rfl ?_
          refine tm_get (k := 4) (v := .ref (b + 1 + 2)) lay_12 dX12_meltOne_462 (by decide) fl12_17 rfl ?_
          refine tm_aload_n dX12_meltOne_465 rfl 10 rfl ?_
          refine tm_iload_n dX12_meltOne_466 rfl 11 rfl ?_
          refine tm_iload dX12_meltOne_467 3 rfl ?_
          refine tm_callV (M := m_X12_meltOne) (pc := 469) (ix := 203) (M' := m_X12_at) (As := [.int (iI r), .int (iI mk)]) (rest := [.ref (b + 1 + 2), .int (iI (((12 * r) + f) + j)), .ref (b + 1 + 14)]) dX12_meltOne_469 ok_X12_at im_X12_at se_X12_at ml12_203 np_X12_at rfl rfl (Nat.le_of_ble_eq_true rfl) (Nat.le_of_ble_eq_true rfl) rfl (c_X12_at (d) (σ := (sA 16 (((12 * r) + f) + j) (σ0.2.1 5 (220 * r + mk)) (sA 15 (((12 * r) + f) + j) (σ.2.1 15 ((12 * q) + j)) σ))) (x := r) (k := mk) ) (fun r22 σ23 hp => ?_)
          obtain ⟨v24, rfl, rfl, f25⟩ := hp
          subst f25
          show Tm _ _ 472 b (sA 16 (((12 * r) + f) + j) (σ0.2.1 5 (220 * r + mk)) (sA 15 (((12 * r) + f) + j) (σ.2.1 15 ((12 * q) + j)) σ)) [(13, .int (iI ((12 * q) + j))), (12, .int (iI (((12 * r) + f) + j))), (11, .int (iI j)), (10, .int (iI mk)), (9, .int (iI to)), (8, .int (iI out)), (7, .int (iI lb)), (6, .int (iI base)), (5, .int (iI f)), (4, .int (iI (220 * r + k))), (0, .ref b), (1, .int (iI r)), (2, .int (iI k)), (3, .int (iI q))] [.int (iI (220 * r + mk)), .ref (b + 1 + 2), .int (iI (((12 * r) + f) + j)), .ref (b + 1 + 14)] _
          refine tm_iald (z := 220 * r + mk) (v := σ0.2.1 4 (220 * r + mk)) dX12_meltOne_472 (show mT[2]? = some (4, 0, 2860) from rfl) (by omega) (by omega) (by decide) (ra_o (by decide) (ra_o (by decide) (ra_F hF (by decide) (rfl)))) ?_
          have g26 := RG.a hR0 4 (220 * r + mk)
          refine tm_goto (tgt := 483) dX12_meltOne_473 (by decide) ?_
          refine tm_iast (z := ((12 * r) + f) + j) (v := σ0.2.1 4 (220 * r + mk)) dX12_meltOne_483 (show mT[14]? = some (17, 0, 72) from rfl) (by omega) (by omega) (by decide) ?_
          refine tm_iconst dX12_meltOne_484 ?_
          refine tm_istore (L' := [(14, .int (iI 0)), (13, .int (iI ((12 * q) + j))), (12, .int (iI (((12 * r) + f) + j))), (11, .int (iI j)), (10, .int (iI mk)), (9, .int (iI to)), (8, .int (iI out)), (7, .int (iI lb)), (6, .int (iI base)), (5, .int (iI f)), (4, .int (iI (220 * r + k))), (0, .ref b), (1, .int (iI r)), (2, .int (iI k)), (3, .int (iI q))]) dX12_meltOne_485 (by decide) rfl ?_
          refine tm_sub [0, 3, 4, 5, 6, 7, 8, 9, 10, 11, 12, 13, 14] rfl (l_mo6 (d + 1) (σ0 := (sA 17 (((12 * r) + f) + j) (σ0.2.1 4 (220 * r + mk)) (sA 16 (((12 * r) + f) + j) (σ0.2.1 5 (220 * r + mk)) (sA 15 (((12 * r) + f) + j) (σ.2.1 15 ((12 * q) + j)) σ)))) (r := r) (k := k) (q := q) (f := f) (base := base) (lb := lb) (out := out) (to := to) (mk := mk) (j := j) (((hR.A (by omega)).A (by omega)).A (by omega)) (by omega) (by omega) (fun n133 σ34 F29 R30 f31 f32 => ?_) _ (0) (sA 17 (((12 * r) + f) + j) (σ0.2.1 4 (220 * r + mk)) (sA 16 (((12 * r) + f) + j) (σ0.2.1 5 (220 * r + mk)) (sA 15 (((12 * r) + f) + j) (σ.2.1 15 ((12 * q) + j)) σ))) Fr.rfl (((hR.A (by omega)).A (by omega)).A (by omega)) (by omega) (fun n a c => by omega) (fun z c => rfl) rfl)
          show Tm _ _ 544 b σ34 [(11, .int (iI j)), (10, .int (iI mk)), (9, .int (iI to)), (8, .int (iI out)), (7, .int (iI lb)), (6, .int (iI base)), (5, .int (iI f)), (4, .int (iI (220 * r + k))), (0, .ref b), (1, .int (iI r)), (2, .int (iI k)), (3, .int (iI q))] [] _
          refine tm_iinc (q0 := 0) (L' := [(11, .int (iI (j + 1))), (10, .int (iI mk)), (9, .int (iI to)), (8, .int (iI out)), (7, .int (iI lb)), (6, .int (iI base)), (5, .int (iI f)), (4, .int (iI (220 * r + k))), (0, .ref b), (1, .int (iI r)), (2, .int (iI k)), (3, .int (iI q))]) dX12_meltOne_544 rfl (by decide) rfl ?_
          refine tm_goto (tgt := 367) dX12_meltOne_547 (by decide) ?_
          exact tm_sub [0, 1, 2, 3, 4, 5, 6, 7, 8, 9, 10, 11] rfl (ih _ (by omega) (j + 1) σ34 (((((Fr.rfl.trans (Fr.sub hF (by decide) (by decide) (by decide))).A (by decide)).A (by decide)).A (by decide)).trans (Fr.sub F29 (by decide) (by decide) (by decide))) R30 (by omega) (hfm.go (by omega) (by omega) F29 (by omega) (fun e => by omega) (fun e => by omega) (fun n a c => by
          rw [f31 n a c, show (sA 17 (((12 * r) + f) + j) (σ0.2.1 4 (220 * r + mk)) (sA 16 (((12 * r) + f) + j) (σ0.2.1 5 (220 * r + mk)) (sA 15 (((12 * r) + f) + j) (σ.2.1 15 ((12 * q) + j)) σ))).2.1 18 (144 * q + 12 * j + n) = ρ.2.1 18 (144 * q + 12 * j + n) from hfm.2.2 _ (by omega)]) (fun z c => f32 z c)) (hl7.go (by omega) (by omega) F29 (fun e => by omega) (fun e => by omega)) rfl)
end
section
set_option maxHeartbeats 1000000 in
set_option maxRecDepth 20000 in
theorem f_X12_meltOne (d : Nat) {b : Nat} {σ : MS} {r : Int} {k : Int} {q : Int} {B : Int} {m : Int} (hR : RG σ) (hrq : (0 ≤ r ∧ r < 6) ∧ (0 ≤ q ∧ q < 6) ∧ q ≠ r) (hit : ITM σ) (hpar : PAR σ) (hnam : NAM σ) (hk : 0 ≤ k ∧ k < σ.2.1 9 r ∧ σ.2.1 9 r ≤ 200 ∧ 1 ≤ σ.2.1 9 q ∧ σ.2.1 9 q ≤ 200) (hok : OKS σ (σ.2.1 14 r) r) (hokq : OKS σ (σ.2.1 14 q) q) (hof : OKF σ r) (hofq : OKF σ q) (hf0q : FR0 σ q) (hcd : CODE σ r) (hcdq : CODE σ q) (hlex : LEX σ r) (hlexq : LEX σ q) (hlm : LBM σ r) (hlmq : LBM σ q) (hfi : FRI σ r) (hfiq : FRI σ q) (hnc : ∀ j, 0 ≤ j → j < σ.2.1 9 q → ¬ σ.2.1 3 (220 * q + j) = 10) (h10 : σ.2.1 3 (220 * r + k) = 10) (hRN : RGN σ r B (σ.2.1 14 r)) (hRI : RGI σ r B (σ.2.1 9 r)) (hrn : RGN σ q m (σ.2.1 14 q)) (hri : RGI σ q m (σ.2.1 9 q)) (hBm : 0 ≤ B ∧ 0 ≤ m ∧ B + m ≤ 100) (hF12 : σ.2.1 14 r + σ.2.1 14 q ≤ 12) (hbl : BO 59 σ) (hlv : ∀ g, 0 ≤ g → g < 192 → σ.2.1 59 g = 1 → g < m) (hgr : σ.2.1 9 r + 2 + σ.2.1 11 q + σ.2.1 12 q + σ.2.1 9 q + cnt (lcf σ q) 192 + cnt (rcf σ q) (σ.2.1 9 q).toNat ≤ 200) : Tm (d + 6) m_X12_meltOne 0 b σ [(0, .ref b), (1, .int (iI r)), (2, .int (iI k)), (3, .int (iI q))] [] (fun ro σ2 => ∃ v : Int, ro = some (.int (iI v)) ∧ (Fr [62] [3, 4, 5, 6, 7, 8, 9, 14, 15, 16, 17, 18] [] σ σ2) ∧ (RG σ2) ∧ (CODE σ2 r) ∧ (LEX σ2 r) ∧ (LBM σ2 r) ∧ (OKS σ2 (σ2.2.1 14 r) r) ∧ (XR r σ σ2) ∧ (OKF σ2 r) ∧ (FRI σ2 r) ∧ (XF r (σ.2.1 14 r) σ σ2) ∧ ((σ2.2.1 14 r = σ.2.1 14 r + σ.2.1 14 q ∧ 1 ≤ σ2.2.1 9 r) ∧ σ2.2.1 9 r ≤ 200) ∧ (k < v ∧ σ2.2.1 9 r - v = σ.2.1 9 r - k - 1) ∧ (MLO σ σ2 r k q v)) := by
  have q1 := hit r (by omega) (by omega)
  obtain ⟨frr, lfr, hcr⟩ := hcd
  obtain ⟨frq, lfq, hcq⟩ := hcdq
  obtain ⟨hjr, j0, hj0, hj1, hj2, hj3, hj4⟩ := hcr.2.2.2.2 k (by omega) (by omega) h10
  simp only [iK, iO] at hj2 hj3 hj4
  have hfr := hcr.2.1 k (by omega) (by omega)
  have q14 := hof.1
  have q14q := hofq.1
  have hto := hok.dest (k := k) (by omega) (by omega) (Or.inr h10)
  have mpa := hpar q (by omega) (by omega)
  have mna := hnam q (by omega) (by omega)
  refine tm_aload_n dX12_meltOne_0 rfl 0 rfl ?_
  refine tm_iload_n dX12_meltOne_1 rfl 1 rfl ?_
  refine tm_iload_n dX12_meltOne_2 rfl 2 rfl ?_
  refine tm_callV (M := m_X12_meltOne) (pc := 3) (ix := 203) (M' := m_X12_at) (As := [.int (iI r), .int (iI k)]) (rest := []) dX12_meltOne_3 ok_X12_at im_X12_at se_X12_at ml12_203 np_X12_at rfl rfl (Nat.le_of_ble_eq_true rfl) (Nat.le_of_ble_eq_true rfl) rfl (c_X12_at (d + 4) (σ := σ) (x := r) (k := k) ) (fun r1 σ2 hp => ?_)
  obtain ⟨v3, rfl, rfl, f4⟩ := hp
  subst f4
  show Tm _ _ 6 b σ [(0, .ref b), (1, .int (iI r)), (2, .int (iI k)), (3, .int (iI q))] [.int (iI (220 * r + k))] _
  refine tm_istore (L' := [(4, .int (iI (220 * r + k))), (0, .ref b), (1, .int (iI r)), (2, .int (iI k)), (3, .int (iI q))]) dX12_meltOne_6 (by decide) rfl ?_
  refine tm_aload_n dX12_meltOne_8 rfl 1 rfl ?_
  refine tm_get (k := 14) (v := .ref (b + 1 + 11)) lay_12 dX12_meltOne_9 (by decide) fl12_44 rfl ?_
  refine tm_iload_n dX12_meltOne_12 rfl 2 rfl ?_
  refine tm_iald (z := r) (v := σ.2.1 14 r) dX12_meltOne_13 (show mT[11]? = some (14, 0, 6) from rfl) (by omega) (by omega) (by decide) (rfl) ?_
  have g5 := RG.a hR 14 (r)
  refine tm_istore (L' := [(5, .int (iI (σ.2.1 14 r))), (4, .int (iI (220 * r + k))), (0, .ref b), (1, .int (iI r)), (2, .int (iI k)), (3, .int (iI q))]) dX12_meltOne_14 (by decide) rfl ?_
  refine tm_aload_n dX12_meltOne_16 rfl 2 rfl ?_
  refine tm_iload_n dX12_meltOne_17 rfl 3 rfl ?_
  refine tm_callV (M := m_X12_meltOne) (pc := 18) (ix := 410) (M' := m_X12_registers) (As := [.int (iI r)]) (rest := []) dX12_meltOne_18 ok_X12_registers im_X12_registers se_X12_registers ml12_410 np_X12_registers rfl rfl (Nat.le_of_ble_eq_true rfl) (Nat.le_of_ble_eq_true rfl) rfl (f_X12_registers (d + 1) (σ := σ) (r := r) (F := (σ.2.1 14 r)) (by omega) hR hof hnam hit hpar hok) (fun r6 σ7 hp => ?_)
  obtain ⟨v8, rfl, rfl, f9, f10, f11, f12⟩ := hp
  show Tm _ _ 21 b σ [(5, .int (iI (σ.2.1 14 r))), (4, .int (iI (220 * r + k))), (0, .ref b), (1, .int (iI r)), (2, .int (iI k)), (3, .int (iI q))] [.int (iI v8)] _
  have hBv := f12 B (by omega) ⟨hRN, hRI⟩
  have hmx : mxV (RGB σ r) v8 := ⟨by omega, ⟨f10, f11⟩, f12⟩
  clear f12
  refine tm_istore (L' := [(6, .int (iI v8)), (5, .int (iI (σ.2.1 14 r))), (4, .int (iI (220 * r + k))), (0, .ref b), (1, .int (iI r)), (2, .int (iI k)), (3, .int (iI q))]) dX12_meltOne_21 (by decide) rfl ?_
  refine tm_aload_n dX12_meltOne_23 rfl 3 rfl ?_
  refine tm_iload_n dX12_meltOne_24 rfl 4 rfl ?_
  refine tm_callV (M := m_X12_meltOne) (pc := 25) (ix := 512) (M' := m_X12_labels) (As := [.int (iI r)]) (rest := []) dX12_meltOne_25 ok_X12_labels im_X12_labels se_X12_labels ml12_512 np_X12_labels rfl rfl (Nat.le_of_ble_eq_true rfl) (Nat.le_of_ble_eq_true rfl) rfl (f_X12_labels (d + 3) (σ := σ) (r := r) (by omega) hR hit hok.jmp hlm (by omega)) (fun r13 σ14 hp => ?_)
  obtain ⟨v15, rfl, rfl, f16, f17, f18⟩ := hp
  show Tm _ _ 28 b σ [(6, .int (iI v8)), (5, .int (iI (σ.2.1 14 r))), (4, .int (iI (220 * r + k))), (0, .ref b), (1, .int (iI r)), (2, .int (iI k)), (3, .int (iI q))] [.int (iI v15)] _
  have hv1 := f17
  have hml : mxV (LBB σ r) v15 := ⟨by omega, f17, f18⟩
  clear f18
  refine tm_istore (L' := [(7, .int (iI v15)), (6, .int (iI v8)), (5, .int (iI (σ.2.1 14 r))), (4, .int (iI (220 * r + k))), (0, .ref b), (1, .int (iI r)), (2, .int (iI k)), (3, .int (iI q))]) dX12_meltOne_28 (by decide) rfl ?_
  refine tm_iload dX12_meltOne_30 0 rfl ?_
  refine tm_aload_n dX12_meltOne_32 rfl 4 rfl ?_
  refine tm_iload_n dX12_meltOne_33 rfl 7 rfl ?_
  refine tm_callV (M := m_X12_meltOne) (pc := 34) (ix := 512) (M' := m_X12_labels) (As := [.int (iI q)]) (rest := [.int (iI v15)]) dX12_meltOne_34 ok_X12_labels im_X12_labels se_X12_labels ml12_512 np_X12_labels rfl rfl (Nat.le_of_ble_eq_true rfl) (Nat.le_of_ble_eq_true rfl) rfl (f_X12_labels (d + 3) (σ := σ) (r := q) (by omega) hR hit hokq.jmp hlmq (by omega)) (fun r19 σ20 hp => ?_)
  obtain ⟨v21, rfl, rfl, f22, f23, f24⟩ := hp
  show Tm _ _ 37 b σ [(7, .int (iI v15)), (6, .int (iI v8)), (5, .int (iI (σ.2.1 14 r))), (4, .int (iI (220 * r + k))), (0, .ref b), (1, .int (iI r)), (2, .int (iI k)), (3, .int (iI q))] [.int (iI v21), .int (iI v15)] _
  have hv2 := f23
  have hmq : mxV (LBB σ q) v21 := ⟨by omega, f23, f24⟩
  clear f24
  refine tm_iadd dX12_meltOne_37 ?_
  refine tm_istore (L' := [(8, .int (iI (v15 + v21))), (7, .int (iI v15)), (6, .int (iI v8)), (5, .int (iI (σ.2.1 14 r))), (4, .int (iI (220 * r + k))), (0, .ref b), (1, .int (iI r)), (2, .int (iI k)), (3, .int (iI q))]) dX12_meltOne_38 (by decide) rfl ?_
  refine tm_aload_n dX12_meltOne_40 rfl 5 rfl ?_
  refine tm_get (k := 4) (v := .ref (b + 1 + 2)) lay_12 dX12_meltOne_41 (by decide) fl12_17 rfl ?_
  refine tm_iload dX12_meltOne_44 4 rfl ?_
  refine tm_iald (z := 220 * r + k) (v := σ.2.1 4 (220 * r + k)) dX12_meltOne_46 (show mT[2]? = some (4, 0, 2860) from rfl) (by omega) (by omega) (by decide) (rfl) ?_
  have g25 := RG.a hR 4 (220 * r + k)
  refine tm_istore (L' := [(9, .int (iI (σ.2.1 4 (220 * r + k)))), (8, .int (iI (v15 + v21))), (7, .int (iI v15)), (6, .int (iI v8)), (5, .int (iI (σ.2.1 14 r))), (4, .int (iI (220 * r + k))), (0, .ref b), (1, .int (iI r)), (2, .int (iI k)), (3, .int (iI q))]) dX12_meltOne_47 (by decide) rfl ?_
  refine tm_iload_n dX12_meltOne_49 rfl 8 rfl ?_
  refine tm_istore (L' := [(10, .int (iI k)), (9, .int (iI (σ.2.1 4 (220 * r + k)))), (8, .int (iI (v15 + v21))), (7, .int (iI v15)), (6, .int (iI v8)), (5, .int (iI (σ.2.1 14 r))), (4, .int (iI (220 * r + k))), (0, .ref b), (1, .int (iI r)), (2, .int (iI k)), (3, .int (iI q))]) dX12_meltOne_50 (by decide) rfl ?_
  refine tm_sub [0, 1, 2, 3, 4, 5, 6, 7, 8, 9, 10] rfl (l_mo1 (d + 4) (σ := σ) (r := r) (k := k) (q := q) (f := σ.2.1 14 r) (base := v8) (lb := v15) (out := v15 + v21) (to := σ.2.1 4 (220 * r + k)) (j0 := j0) (by omega) hR (by omega) ⟨hj0, hj1, hj2⟩ h10 hj4 (fun mk30 f29 => ?_) _ (k) (by omega) rfl)
  show Tm _ _ 80 b σ [(10, .int (iI mk30)), (9, .int (iI (σ.2.1 4 (220 * r + k)))), (8, .int (iI (v15 + v21))), (7, .int (iI v15)), (6, .int (iI v8)), (5, .int (iI (σ.2.1 14 r))), (4, .int (iI (220 * r + k))), (0, .ref b), (1, .int (iI r)), (2, .int (iI k)), (3, .int (iI q))] [] _
  have hmk := f29
  have hmo := mo_mk (ρ := σ) (r := r) (k := k) (q := q) (F := σ.2.1 14 r) (base := v8) (lb := v15) (out := v15 + v21) (to := σ.2.1 4 (220 * r + k)) (g0 := frr k) (m := m) (v2 := v21) (by omega) hcq hlexq hokq rfl hv2 hnc hri hrn (hok k (by omega) (by omega)) hf0q hofq hpar hnam
  refine tm_aload_n dX12_meltOne_80 rfl 7 rfl ?_
  refine tm_iconst dX12_meltOne_81 ?_
  refine tm_putS (k := 62) (v := 0) lay_12 dX12_meltOne_82 (by decide) fl12_509 rfl (tyX12_ok 62 (by decide)) rfl rfl rfl ?_
  have z62 : (sS 62 0 σ).1 62 = 0 := rs_eq
  refine tm_aload_n dX12_meltOne_85 rfl 7 rfl ?_
  refine tm_bipush dX12_meltOne_86 (by decide) ?_
  refine tm_iload dX12_meltOne_88 5 rfl ?_
  refine tm_iconst dX12_meltOne_90 ?_
  refine tm_iconst dX12_meltOne_91 ?_
  refine tm_iconst dX12_meltOne_92 ?_
  refine tm_callV (M := m_X12_meltOne) (pc := 93) (ix := 515) (M' := m_X12_add) (As := [.int (iI 14), .int (iI (σ.2.1 14 r)), .int (iI 0), .int (iI 0), .int (iI 0)]) (rest := []) dX12_meltOne_93 ok_X12_add im_X12_add se_X12_add ml12_515 np_X12_add rfl rfl (Nat.le_of_ble_eq_true rfl) (Nat.le_of_ble_eq_true rfl) rfl (c_X12_add (d + 3) (σ := (sS 62 0 σ)) (k := 14) (e := σ.2.1 14 r) (o := 0) (ak := 0) (a := 0) (hR.S (by omega)) (by omega)) (fun r31 σ32 hp => ?_)
  obtain ⟨rfl, f34⟩ := hp
  subst f34
  show Tm _ _ 96 b (fAdd (14) (σ.2.1 14 r) (0) (0) (0) (sS 62 0 σ)) [(10, .int (iI mk30)), (9, .int (iI (σ.2.1 4 (220 * r + k)))), (8, .int (iI (v15 + v21))), (7, .int (iI v15)), (6, .int (iI v8)), (5, .int (iI (σ.2.1 14 r))), (4, .int (iI (220 * r + k))), (0, .ref b), (1, .int (iI r)), (2, .int (iI k)), (3, .int (iI q))] [] _
  have hms0 := msg_start hmo.2.1 (by omega) (fun y => IEQ.fr (show Fr [62] [] [] σ (sS 62 (0) σ) from (Fr.rfl.S (by decide))) (by decide)) rfl rs_eq
  have n62 : (fAdd (14) (σ.2.1 14 r) (0) (0) (0) (sS 62 0 σ)).1 62 = 1 := fAdd_n.trans (by rw [show (sS 62 (0) σ).1 62 = 0 from rs_eq]; rfl)
  have hbk0 : bS (fAdd (14) (σ.2.1 14 r) (0) (0) (0) (sS 62 0 σ)) = (bA (0, fun _ => zI) (mkI 14 (σ.2.1 14 r) 0 0 0 0)) := by rw [bS_add (Int.le_of_eq z62.symm), bS_0]
  refine tm_iconst dX12_meltOne_96 ?_
  refine tm_istore (L' := [(11, .int (iI 0)), (10, .int (iI mk30)), (9, .int (iI (σ.2.1 4 (220 * r + k)))), (8, .int (iI (v15 + v21))), (7, .int (iI v15)), (6, .int (iI v8)), (5, .int (iI (σ.2.1 14 r))), (4, .int (iI (220 * r + k))), (0, .ref b), (1, .int (iI r)), (2, .int (iI k)), (3, .int (iI q))]) dX12_meltOne_97 (by decide) rfl ?_
  refine tm_sub [0, 1, 2, 3, 4, 5, 6, 7, 8, 9, 10, 11] rfl (f_mo2 (d + 3) (σ0 := (fAdd (14) (σ.2.1 14 r) (0) (0) (0) (sS 62 0 σ))) (r := r) (k := k) (q := q) (f := σ.2.1 14 r) (base := v8) (lb := v15) (out := v15 + v21) (to := σ.2.1 4 (220 * r + k)) (mk := mk30) (ρ := σ) (FI := (FIx σ r q (σ.2.1 14 r) (frr k))) (lf := (lfx (σ.2.1 14 r) v15 (v15 + v21) lfq)) (frq := frq) (lfq := lfq) (g0 := (frr k)) (m := m) (S0 := (bA (0, fun _ => zI) (mkI 14 (σ.2.1 14 r) 0 0 0 0))) hmo ((hR.S (by omega)).add (by omega) (by omega) (by omega) (by omega) (by omega) (by omega)) (show Fr [62] [3, 4, 5, 6, 7, 8] [] σ (fAdd (14) (σ.2.1 14 r) (0) (0) (0) (sS 62 0 σ)) from ((Fr.rfl.S (by decide)).trans (Fr.sub fAdd_fr (by decide) (by decide) (by decide)))) (fun n142 σ43 F37 R38 f39 f40 f41 => ?_) _ (0) (fAdd (14) (σ.2.1 14 r) (0) (0) (0) (sS 62 0 σ)) Fr.rfl ((hR.S (by omega)).add (by omega) (by omega) (by omega) (by omega) (by omega) (by omega)) (by rw [((show Fr [62] [3, 4, 5, 6, 7, 8] [] σ (fAdd (14) (σ.2.1 14 r) (0) (0) (0) (sS 62 0 σ)) from ((Fr.rfl.S (by decide)).trans (Fr.sub fAdd_fr (by decide) (by decide) (by decide))))).2.1 12 (by decide)]; omega) (by rw [((show Fr [62] [3, 4, 5, 6, 7, 8] [] σ (fAdd (14) (σ.2.1 14 r) (0) (0) (0) (sS 62 0 σ)) from ((Fr.rfl.S (by decide)).trans (Fr.sub fAdd_fr (by decide) (by decide) (by decide))))).2.1 11 (by decide)]; omega) hms0 hbk0 rfl)
  show Tm _ _ 251 b σ43 [(10, .int (iI mk30)), (9, .int (iI (σ.2.1 4 (220 * r + k)))), (8, .int (iI (v15 + v21))), (7, .int (iI v15)), (6, .int (iI v8)), (5, .int (iI (σ.2.1 14 r))), (4, .int (iI (220 * r + k))), (0, .ref b), (1, .int (iI r)), (2, .int (iI k)), (3, .int (iI q))] [] _
  have hc2 := f39
  have hms2 := f40
  have hl0 := cnt_up (lcf_0 σ q) (show 0 ≤ 192 by decide)
  have hr0 := cnt_up (rcf_0 σ q) (show 0 ≤ (σ.2.1 9 q).toNat by omega)
  have hz1 : cnt (lcf σ q) 0 = 0 := rfl
  have hz2 : cnt (rcf σ q) 0 = 0 := rfl
  have hbk1 := f41
  refine tm_iconst dX12_meltOne_251 ?_
  refine tm_istore (L' := [(11, .int (iI 0)), (10, .int (iI mk30)), (9, .int (iI (σ.2.1 4 (220 * r + k)))), (8, .int (iI (v15 + v21))), (7, .int (iI v15)), (6, .int (iI v8)), (5, .int (iI (σ.2.1 14 r))), (4, .int (iI (220 * r + k))), (0, .ref b), (1, .int (iI r)), (2, .int (iI k)), (3, .int (iI q))]) dX12_meltOne_252 (by decide) rfl ?_
  refine tm_sub [0, 1, 2, 3, 4, 5, 6, 7, 8, 9, 10, 11] rfl (f_mo3 (d + 3) (σ0 := σ43) (r := r) (k := k) (q := q) (f := σ.2.1 14 r) (base := v8) (lb := v15) (out := v15 + v21) (to := σ.2.1 4 (220 * r + k)) (mk := mk30) (ρ := σ) (FI := (FIx σ r q (σ.2.1 14 r) (frr k))) (lf := (lfx (σ.2.1 14 r) v15 (v15 + v21) lfq)) (frq := frq) (lfq := lfq) (g0 := (frr k)) (m := m) (A1 := (σ43.1 62)) (S0 := (mb1 (σ.2.1 14 r) v8 (σ.2.1 11 q) (naR σ q) (rI σ (220 * r + k)) (bA (0, fun _ => zI) (mkI 14 (σ.2.1 14 r) 0 0 0 0)) (σ.2.1 12 q).toNat)) hmo R38 (show Fr [62] [3, 4, 5, 6, 7, 8] [] σ σ43 from (((Fr.rfl.S (by decide)).trans (Fr.sub fAdd_fr (by decide) (by decide) (by decide))).trans (Fr.sub F37 (by decide) (by decide) (by decide)))) hbl hlv (by omega) (fun g51 σ52 F46 R47 f48 f49 f50 => ?_) _ (0) σ43 Fr.rfl R38 (by omega) (by rw [show (0 : Int).toNat = 0 from rfl, hz1]; omega) hms2 hbk1 rfl)
  show Tm _ _ 301 b σ52 [(10, .int (iI mk30)), (9, .int (iI (σ.2.1 4 (220 * r + k)))), (8, .int (iI (v15 + v21))), (7, .int (iI v15)), (6, .int (iI v8)), (5, .int (iI (σ.2.1 14 r))), (4, .int (iI (220 * r + k))), (0, .ref b), (1, .int (iI r)), (2, .int (iI k)), (3, .int (iI q))] [] _
  have hc3 := f48
  have hms3 := f49
  have hgz : Gq σ q (σ.2.1 14 r) frq 0 = σ.2.1 14 r := by unfold Gq; rw [if_pos (by omega), hcq.1]; omega
  have hbk2 := f50
  refine tm_iconst dX12_meltOne_301 ?_
  refine tm_istore (L' := [(11, .int (iI 0)), (10, .int (iI mk30)), (9, .int (iI (σ.2.1 4 (220 * r + k)))), (8, .int (iI (v15 + v21))), (7, .int (iI v15)), (6, .int (iI v8)), (5, .int (iI (σ.2.1 14 r))), (4, .int (iI (220 * r + k))), (0, .ref b), (1, .int (iI r)), (2, .int (iI k)), (3, .int (iI q))]) dX12_meltOne_302 (by decide) rfl ?_
  refine tm_sub [0, 1, 2, 3, 4, 5, 6, 7, 8, 9, 10, 11] rfl (f_mo4 (d + 2) (σ0 := σ52) (r := r) (k := k) (q := q) (f := σ.2.1 14 r) (base := v8) (lb := v15) (out := v15 + v21) (to := σ.2.1 4 (220 * r + k)) (mk := mk30) (ρ := σ) (FI := (FIx σ r q (σ.2.1 14 r) (frr k))) (lf := (lfx (σ.2.1 14 r) v15 (v15 + v21) lfq)) (frq := frq) (lfq := lfq) (g0 := (frr k)) (m := m) (A2 := (σ52.1 62)) (S0 := (mb2 v8 (LPQ σ q) (mb1 (σ.2.1 14 r) v8 (σ.2.1 11 q) (naR σ q) (rI σ (220 * r + k)) (bA (0, fun _ => zI) (mkI 14 (σ.2.1 14 r) 0 0 0 0)) (σ.2.1 12 q).toNat) 192)) hmo R47 (show Fr [62] [3, 4, 5, 6, 7, 8] [] σ σ52 from ((((Fr.rfl.S (by decide)).trans (Fr.sub fAdd_fr (by decide) (by decide) (by decide))).trans (Fr.sub F37 (by decide) (by decide) (by decide))).trans (Fr.sub F46 (by decide) (by decide) (by decide)))) (by omega) (fun i60 σ61 F55 R56 f57 f58 f59 => ?_) _ (0) σ52 Fr.rfl R47 (by omega) (by rw [show (0 : Int).toNat = 0 from rfl, hz2]; omega) (by rw [hgz]; exact hms3) hbk2 rfl)
  show Tm _ _ 342 b σ61 [(10, .int (iI mk30)), (9, .int (iI (σ.2.1 4 (220 * r + k)))), (8, .int (iI (v15 + v21))), (7, .int (iI v15)), (6, .int (iI v8)), (5, .int (iI (σ.2.1 14 r))), (4, .int (iI (220 * r + k))), (0, .ref b), (1, .int (iI r)), (2, .int (iI k)), (3, .int (iI q))] [] _
  have hc4 := f57
  have hms4 := f58
  have hend := msg_end (a := 0) hmo.2.1 hms4 (by omega) (by omega) (by omega)
  have f14 := (show Fr [62] [3, 4, 5, 6, 7, 8] [] σ σ61 from (((((Fr.rfl.S (by decide)).trans (Fr.sub fAdd_fr (by decide) (by decide) (by decide))).trans (Fr.sub F37 (by decide) (by decide) (by decide))).trans (Fr.sub F46 (by decide) (by decide) (by decide))).trans (Fr.sub F55 (by decide) (by decide) (by decide))))
  have hbk3 := f59
  refine tm_aload_n dX12_meltOne_342 rfl 7 rfl ?_
  refine tm_bipush dX12_meltOne_343 (by decide) ?_
  refine tm_iload dX12_meltOne_345 2 rfl ?_
  refine tm_iconst dX12_meltOne_347 ?_
  refine tm_iconst dX12_meltOne_348 ?_
  refine tm_iconst dX12_meltOne_349 ?_
  refine tm_callV (M := m_X12_meltOne) (pc := 350) (ix := 515) (M' := m_X12_add) (As := [.int (iI 13), .int (iI (v15 + v21)), .int (iI 0), .int (iI 0), .int (iI 0)]) (rest := []) dX12_meltOne_350 ok_X12_add im_X12_add se_X12_add ml12_515 np_X12_add rfl rfl (Nat.le_of_ble_eq_true rfl) (Nat.le_of_ble_eq_true rfl) rfl (c_X12_add (d + 3) (σ := σ61) (k := 13) (e := v15 + v21) (o := 0) (ak := 0) (a := 0) R56 (by omega)) (fun r62 σ63 hp => ?_)
  obtain ⟨rfl, f65⟩ := hp
  subst f65
  show Tm _ _ 353 b (fAdd (13) (v15 + v21) (0) (0) (0) σ61) [(10, .int (iI mk30)), (9, .int (iI (σ.2.1 4 (220 * r + k)))), (8, .int (iI (v15 + v21))), (7, .int (iI v15)), (6, .int (iI v8)), (5, .int (iI (σ.2.1 14 r))), (4, .int (iI (220 * r + k))), (0, .ref b), (1, .int (iI r)), (2, .int (iI k)), (3, .int (iI q))] [] _
  have n63 : (fAdd (13) (v15 + v21) (0) (0) (0) σ61).1 62 = σ61.1 62 + 1 := fAdd_n
  refine tm_aload_n dX12_meltOne_353 rfl 7 rfl ?_
  refine tm_bipush dX12_meltOne_354 (by decide) ?_
  refine tm_iload dX12_meltOne_356 5 rfl ?_
  refine tm_iconst dX12_meltOne_358 ?_
  refine tm_iconst dX12_meltOne_359 ?_
  refine tm_iconst dX12_meltOne_360 ?_
  refine tm_callV (M := m_X12_meltOne) (pc := 361) (ix := 515) (M' := m_X12_add) (As := [.int (iI 15), .int (iI (σ.2.1 14 r)), .int (iI 0), .int (iI 0), .int (iI 0)]) (rest := []) dX12_meltOne_361 ok_X12_add im_X12_add se_X12_add ml12_515 np_X12_add rfl rfl (Nat.le_of_ble_eq_true rfl) (Nat.le_of_ble_eq_true rfl) rfl (c_X12_add (d + 3) (σ := (fAdd (13) (v15 + v21) (0) (0) (0) σ61)) (k := 15) (e := σ.2.1 14 r) (o := 0) (ak := 0) (a := 0) (R56.add (by omega) (by omega) (by omega) (by omega) (by omega) (by omega)) (by omega)) (fun r66 σ67 hp => ?_)
  obtain ⟨rfl, f69⟩ := hp
  subst f69
  show Tm _ _ 364 b (fAdd (15) (σ.2.1 14 r) (0) (0) (0) (fAdd (13) (v15 + v21) (0) (0) (0) σ61)) [(10, .int (iI mk30)), (9, .int (iI (σ.2.1 4 (220 * r + k)))), (8, .int (iI (v15 + v21))), (7, .int (iI v15)), (6, .int (iI v8)), (5, .int (iI (σ.2.1 14 r))), (4, .int (iI (220 * r + k))), (0, .ref b), (1, .int (iI r)), (2, .int (iI k)), (3, .int (iI q))] [] _
  have f15 : Fr [62] [3, 4, 5, 6, 7, 8] [] σ (fAdd (15) (σ.2.1 14 r) (0) (0) (0) (fAdd (13) (v15 + v21) (0) (0) (0) σ61)) := (f14.trans fAdd_fr).trans fAdd_fr
  have n64 : (fAdd (15) (σ.2.1 14 r) (0) (0) (0) (fAdd (13) (v15 + v21) (0) (0) (0) σ61)).1 62 = σ61.1 62 + 1 + 1 := by rw [fAdd_n, fAdd_n]
  have hmk5 : (fAdd (15) (σ.2.1 14 r) (0) (0) (0) (fAdd (13) (v15 + v21) (0) (0) (0) σ61)).2.1 5 (220 * r + mk30) = frr k := by rw [(hend.1.2.2.2.2.2.1 _ (by omega)).2.2.1, hmk]; exact hj3
  have hbk4 : bS (fAdd (15) (σ.2.1 14 r) (0) (0) (0) (fAdd (13) (v15 + v21) (0) (0) (0) σ61)) = (mkB (σ.2.1 14 r) v8 v15 (v15 + v21) (σ.2.1 4 (220 * r + k)) (σ.2.1 11 q) (σ.2.1 12 q) (σ.2.1 9 q) (naR σ q) (rI σ (220 * r + k)) (LPQ σ q) (rV σ q)) := by rw [bS_add (by omega), bS_add (by omega), hbk3]; rfl
  have hl5 : (fAdd (15) (σ.2.1 14 r) (0) (0) (0) (fAdd (13) (v15 + v21) (0) (0) (0) σ61)).2.1 4 (220 * r + mk30) = σ.2.1 4 (220 * r + j0) := by rw [(hend.1.2.2.2.2.2.1 _ (by omega)).2.1, hmk]
  refine tm_iconst dX12_meltOne_364 ?_
  refine tm_istore (L' := [(11, .int (iI 0)), (10, .int (iI mk30)), (9, .int (iI (σ.2.1 4 (220 * r + k)))), (8, .int (iI (v15 + v21))), (7, .int (iI v15)), (6, .int (iI v8)), (5, .int (iI (σ.2.1 14 r))), (4, .int (iI (220 * r + k))), (0, .ref b), (1, .int (iI r)), (2, .int (iI k)), (3, .int (iI q))]) dX12_meltOne_365 (by decide) rfl ?_
  refine tm_sub [0, 1, 2, 3, 4, 5, 6, 7, 8, 9, 10, 11] rfl (f_mo5 (d + 4) (σ0 := (fAdd (15) (σ.2.1 14 r) (0) (0) (0) (fAdd (13) (v15 + v21) (0) (0) (0) σ61))) (r := r) (k := k) (q := q) (f := σ.2.1 14 r) (base := v8) (lb := v15) (out := v15 + v21) (to := σ.2.1 4 (220 * r + k)) (mk := mk30) (ρ := σ) (FI := (FIx σ r q (σ.2.1 14 r) (frr k))) (lf := (lfx (σ.2.1 14 r) v15 (v15 + v21) lfq)) (frq := frq) (lfq := lfq) (g0 := (frr k)) (m := m) (l0 := (σ.2.1 4 (220 * r + j0))) hmo ((R56.add (by omega) (by omega) (by omega) (by omega) (by omega) (by omega)).add (by omega) (by omega) (by omega) (by omega) (by omega) (by omega)) f15 ⟨hmk5, by omega, by omega⟩ hfiq hl5 (fun j76 σ77 F72 R73 f74 f75 => ?_) _ (0) (fAdd (15) (σ.2.1 14 r) (0) (0) (0) (fAdd (13) (v15 + v21) (0) (0) (0) σ61)) Fr.rfl ((R56.add (by omega) (by omega) (by omega) (by omega) (by omega) (by omega)).add (by omega) (by omega) (by omega) (by omega) (by omega) (by omega)) (by omega) (FRM.start (by rw [f15.2.1 15 (by decide)]) (by rw [f15.2.1 16 (by decide)]) (by rw [f15.2.1 17 (by decide)]) (by rw [f15.2.1 18 (by decide)])) (fun u a b => by omega) rfl)
  show Tm _ _ 550 b σ77 [(10, .int (iI mk30)), (9, .int (iI (σ.2.1 4 (220 * r + k)))), (8, .int (iI (v15 + v21))), (7, .int (iI v15)), (6, .int (iI v8)), (5, .int (iI (σ.2.1 14 r))), (4, .int (iI (220 * r + k))), (0, .ref b), (1, .int (iI r)), (2, .int (iI k)), (3, .int (iI q))] [] _
  have hfm := f74
  have fm5 := F72
  have s5_14 : σ77.2.1 14 = σ.2.1 14 := by rw [fm5.2.1 14 (by decide), f15.2.1 14 (by decide)]
  have s5_62 : σ77.1 62 = σ61.1 62 + 1 + 1 := by rw [fm5.1 62 (by decide)]; exact n64
  have s5_9 : σ77.2.1 9 r = σ.2.1 9 r := by rw [fm5.2.1 9 (by decide), f15.2.1 9 (by decide)]
  have hfl := f75
  refine tm_aload_n dX12_meltOne_550 rfl 7 rfl ?_
  refine tm_get (k := 14) (v := .ref (b + 1 + 11)) lay_12 dX12_meltOne_551 (by decide) fl12_44 rfl ?_
  refine tm_iload_n dX12_meltOne_554 rfl 8 rfl ?_
  refine tm_dup2 dX12_meltOne_555 rfl rfl ?_
  refine tm_iald (z := r) (v := σ.2.1 14 r) dX12_meltOne_556 (show mT[11]? = some (14, 0, 6) from rfl) (by omega) (by omega) (by decide) (ra_F F72 (by decide) (ra_F fAdd_fr (by decide) (ra_F fAdd_fr (by decide) (ra_F F55 (by decide) (ra_F F46 (by decide) (ra_F F37 (by decide) (ra_F fAdd_fr (by decide) (ra_S (rfl))))))))) ?_
  have g78 := RG.a hR 14 (r)
  refine tm_aload_n dX12_meltOne_557 rfl 7 rfl ?_
  refine tm_get (k := 14) (v := .ref (b + 1 + 11)) lay_12 dX12_meltOne_558 (by decide) fl12_44 rfl ?_
  refine tm_iload_n dX12_meltOne_561 rfl 10 rfl ?_
  refine tm_iald (z := q) (v := σ.2.1 14 q) dX12_meltOne_562 (show mT[11]? = some (14, 0, 6) from rfl) (by omega) (by omega) (by decide) (ra_F F72 (by decide) (ra_F fAdd_fr (by decide) (ra_F fAdd_fr (by decide) (ra_F F55 (by decide) (ra_F F46 (by decide) (ra_F F37 (by decide) (ra_F fAdd_fr (by decide) (ra_S (rfl))))))))) ?_
  have g79 := RG.a hR 14 (q)
  refine tm_iadd dX12_meltOne_563 ?_
  refine tm_iast (z := r) (v := (σ.2.1 14 r) + (σ.2.1 14 q)) dX12_meltOne_564 (show mT[11]? = some (14, 0, 6) from rfl) (by omega) (by omega) (by decide) ?_
  refine tm_aload_n dX12_meltOne_565 rfl 7 rfl ?_
  refine tm_get (k := 9) (v := .ref (b + 1 + 7)) lay_12 dX12_meltOne_566 (by decide) fl12_32 rfl ?_
  refine tm_iload_n dX12_meltOne_569 rfl 8 rfl ?_
  refine tm_iald (z := r) (v := σ.2.1 9 r) dX12_meltOne_570 (show mT[7]? = some (9, 0, 13) from rfl) (by omega) (by omega) (by decide) (ra_o (by decide) (ra_F F72 (by decide) (ra_F fAdd_fr (by decide) (ra_F fAdd_fr (by decide) (ra_F F55 (by decide) (ra_F F46 (by decide) (ra_F F37 (by decide) (ra_F fAdd_fr (by decide) (ra_S (rfl)))))))))) ?_
  have g80 := RG.a hR 9 (r)
  refine tm_iconst dX12_meltOne_571 ?_
  refine tm_isub dX12_meltOne_572 ?_
  refine tm_istore (L' := [(11, .int (iI ((σ.2.1 9 r) - 1))), (10, .int (iI mk30)), (9, .int (iI (σ.2.1 4 (220 * r + k)))), (8, .int (iI (v15 + v21))), (7, .int (iI v15)), (6, .int (iI v8)), (5, .int (iI (σ.2.1 14 r))), (4, .int (iI (220 * r + k))), (0, .ref b), (1, .int (iI r)), (2, .int (iI k)), (3, .int (iI q))]) dX12_meltOne_573 (by decide) rfl ?_
  refine tm_sub [0, 1, 2, 3, 4, 5, 6, 7, 8, 9, 10, 11] rfl (l_mo7 (d + 4) (σ0 := (sA 14 (r) ((σ.2.1 14 r) + (σ.2.1 14 q)) σ77)) (r := r) (k := k) (q := q) (f := σ.2.1 14 r) (base := v8) (lb := v15) (out := v15 + v21) (to := σ.2.1 4 (220 * r + k)) (mk := mk30) (a := (σ61.1 62 + 1 + 1)) (nn := (σ.2.1 9 r)) (R73.A (by omega)) (by omega) ⟨s5_62, by omega, by omega, by omega⟩ (fun i86 σ87 F83 R84 f85 => ?_) _ ((σ.2.1 9 r) - 1) (sA 14 (r) ((σ.2.1 14 r) + (σ.2.1 14 q)) σ77) Fr.rfl (R73.A (by omega)) (by omega) SHU.start rfl)
  show Tm _ _ 612 b σ87 [(10, .int (iI mk30)), (9, .int (iI (σ.2.1 4 (220 * r + k)))), (8, .int (iI (v15 + v21))), (7, .int (iI v15)), (6, .int (iI v8)), (5, .int (iI (σ.2.1 14 r))), (4, .int (iI (220 * r + k))), (0, .ref b), (1, .int (iI r)), (2, .int (iI k)), (3, .int (iI q))] [] _
  have hsu := f85
  have f67 := F83
  have s7_62 : σ87.1 62 = (sA 14 (r) ((σ.2.1 14 r) + (σ.2.1 14 q)) σ77).1 62 := f67.1 62 (by decide)
  refine tm_iconst dX12_meltOne_612 ?_
  refine tm_istore (L' := [(11, .int (iI 0)), (10, .int (iI mk30)), (9, .int (iI (σ.2.1 4 (220 * r + k)))), (8, .int (iI (v15 + v21))), (7, .int (iI v15)), (6, .int (iI v8)), (5, .int (iI (σ.2.1 14 r))), (4, .int (iI (220 * r + k))), (0, .ref b), (1, .int (iI r)), (2, .int (iI k)), (3, .int (iI q))]) dX12_meltOne_613 (by decide) rfl ?_
  refine tm_sub [0, 1, 2, 3, 4, 5, 6, 7, 8, 9, 10, 11] rfl (l_mo8 (d + 4) (σ0 := σ87) (r := r) (k := k) (q := q) (f := σ.2.1 14 r) (base := v8) (lb := v15) (out := v15 + v21) (to := σ.2.1 4 (220 * r + k)) (mk := mk30) (a := (σ61.1 62 + 1 + 1)) R84 (by omega) ⟨s7_62.trans s5_62, by omega, by omega, by omega⟩ (fun i93 σ94 F90 R91 f92 => ?_) _ (0) σ87 Fr.rfl R84 (by omega) CPI.start rfl)
  show Tm _ _ 649 b σ94 [(10, .int (iI mk30)), (9, .int (iI (σ.2.1 4 (220 * r + k)))), (8, .int (iI (v15 + v21))), (7, .int (iI v15)), (6, .int (iI v8)), (5, .int (iI (σ.2.1 14 r))), (4, .int (iI (220 * r + k))), (0, .ref b), (1, .int (iI r)), (2, .int (iI k)), (3, .int (iI q))] [] _
  have hcp := f92
  have f78 := F90
  have s8_62 : σ94.1 62 = σ87.1 62 := f78.1 62 (by decide)
  refine tm_aload_n dX12_meltOne_649 rfl 7 rfl ?_
  refine tm_get (k := 9) (v := .ref (b + 1 + 7)) lay_12 dX12_meltOne_650 (by decide) fl12_32 rfl ?_
  refine tm_iload_n dX12_meltOne_653 rfl 8 rfl ?_
  refine tm_dup2 dX12_meltOne_654 rfl rfl ?_
  refine tm_iald (z := r) (v := σ.2.1 9 r) dX12_meltOne_655 (show mT[7]? = some (9, 0, 13) from rfl) (by omega) (by omega) (by decide) (ra_F F90 (by decide) (ra_F F83 (by decide) (ra_o (by decide) (ra_F F72 (by decide) (ra_F fAdd_fr (by decide) (ra_F fAdd_fr (by decide) (ra_F F55 (by decide) (ra_F F46 (by decide) (ra_F F37 (by decide) (ra_F fAdd_fr (by decide) (ra_S (rfl)))))))))))) ?_
  have g95 := RG.a hR 9 (r)
  refine tm_aload_n dX12_meltOne_656 rfl 7 rfl ?_
  refine tm_getS (k := 62) (t := (fAdd (15) (σ.2.1 14 r) (0) (0) (0) (fAdd (13) (v15 + v21) (0) (0) (0) σ61)).1 62) dX12_meltOne_657 (by decide) fl12_509 rfl (rs_F F90 (by decide) (rs_F F83 (by decide) (rs_A (rs_F F72 (by decide) (rfl))))) ?_
  refine tm_iconst dX12_meltOne_660 ?_
  refine tm_isub dX12_meltOne_661 ?_
  refine tm_iadd dX12_meltOne_662 ?_
  refine tm_iast (z := r) (v := (σ.2.1 9 r) + (((fAdd (15) (σ.2.1 14 r) (0) (0) (0) (fAdd (13) (v15 + v21) (0) (0) (0) σ61)).1 62) - 1)) dX12_meltOne_663 (show mT[7]? = some (9, 0, 13) from rfl) (by omega) (by omega) (by decide) ?_
  have hall := melt_all (ρ := σ) (σ1 := (fAdd (15) (σ.2.1 14 r) (0) (0) (0) (fAdd (13) (v15 + v21) (0) (0) (0) σ61))) (σ2 := (sA 14 (r) ((σ.2.1 14 r) + (σ.2.1 14 q)) σ77)) (σ3 := σ87) (σ4 := σ94) (τ := (sA 9 (r) ((σ.2.1 9 r) + (((fAdd (15) (σ.2.1 14 r) (0) (0) (0) (fAdd (13) (v15 + v21) (0) (0) (0) σ61)).1 62) - 1)) σ94)) (a := σ61.1 62 + 1 + 1) hmo h10 (by omega) (by omega) hcr hlex hlm hok hof hfi hfiq rfl hend.1 hend.2 hv1 (by omega) (fun f x y => FIx_lt y) (Fr.A (Fr.sub fm5 (by decide) (by decide) (by decide)) (by decide)) hsu hcp f67 f78 (by rw [n64]) f15 (hfm.fr ((Fr.rfl (ss := []) (ks := [14]) (js := [])).A (by decide)) (by decide)) (by simp only [sA, if_true, s5_14])
  refine tm_iload_n dX12_meltOne_664 rfl 9 rfl ?_
  refine tm_aload_n dX12_meltOne_665 rfl 7 rfl ?_
  refine tm_getS (k := 62) (t := (fAdd (15) (σ.2.1 14 r) (0) (0) (0) (fAdd (13) (v15 + v21) (0) (0) (0) σ61)).1 62) dX12_meltOne_666 (by decide) fl12_509 rfl (rs_A (rs_F F90 (by decide) (rs_F F83 (by decide) (rs_A (rs_F F72 (by decide) (rfl)))))) ?_
  refine tm_iadd dX12_meltOne_669 ?_
  exact tm_iret rfl dX12_meltOne_670 (⟨_, rfl, ((((((((((((Fr.rfl.S (by decide)).trans (Fr.sub fAdd_fr (by decide) (by decide) (by decide))).trans (Fr.sub F37 (by decide) (by decide) (by decide))).trans (Fr.sub F46 (by decide) (by decide) (by decide))).trans (Fr.sub F55 (by decide) (by decide) (by decide))).trans (Fr.sub fAdd_fr (by decide) (by decide) (by decide))).trans (Fr.sub fAdd_fr (by decide) (by decide) (by decide))).trans (Fr.sub F72 (by decide) (by decide) (by decide))).A (by decide)).trans (Fr.sub F83 (by decide) (by decide) (by decide))).trans (Fr.sub F90 (by decide) (by decide) (by decide))).A (by decide)), (R91.A (by omega)), hall.1.1, hall.1.2.1, hall.1.2.2.1, hall.1.2.2.2.1, hall.1.2.2.2.2, hall.2.1, hall.2.2.1, hall.2.2.2.1, ⟨⟨hall.2.2.2.2.1, by rw [hall.2.2.2.2.2]; omega⟩, by rw [hall.2.2.2.2.2]; omega⟩, by rw [hall.2.2.2.2.2]; omega, v8, v15, v21, j0, hmx, hml, hmq, ⟨hj0, hj1, hj2, hj4⟩, by rw [← hbk4]; show _ = k + (fAdd (15) (σ.2.1 14 r) (0) (0) (0) (fAdd (13) (v15 + v21) (0) (0) (0) σ61)).1 62; omega, by rw [← hbk4, show (sA 9 (r) ((σ.2.1 9 r) + (((fAdd (15) (σ.2.1 14 r) (0) (0) (0) (fAdd (13) (v15 + v21) (0) (0) (0) σ61)).1 62) - 1)) σ94).2.1 9 r = σ.2.1 9 r + (fAdd (15) (σ.2.1 14 r) (0) (0) (0) (fAdd (13) (v15 + v21) (0) (0) (0) σ61)).1 62 - 1 by rw [hall.2.2.2.2.2]; omega]; rfl, by rw [rv_ov, show (sA 9 (r) ((σ.2.1 9 r) + (((fAdd (15) (σ.2.1 14 r) (0) (0) (0) (fAdd (13) (v15 + v21) (0) (0) (0) σ61)).1 62) - 1)) σ94).2.1 9 r = σ.2.1 9 r + (fAdd (15) (σ.2.1 14 r) (0) (0) (0) (fAdd (13) (v15 + v21) (0) (0) (0) σ61)).1 62 - 1 by rw [hall.2.2.2.2.2]; omega, ← hbk4]; exact sp_rv (σ := σ) (s5 := (fAdd (15) (σ.2.1 14 r) (0) (0) (0) (fAdd (13) (v15 + v21) (0) (0) (0) σ61))) (s6 := (sA 14 (r) ((σ.2.1 14 r) + (σ.2.1 14 q)) σ77)) (s7 := σ87) (s8 := σ94) rfl (by omega) hrq.1 (fun j a b => (hend.1.2.2.2.2.2.1 _ (by omega)).ri) rfl (fun y => congrFun (Fr.ri (Fr.A (Fr.sub fm5 (ss' := []) (ks' := [14, 15, 16, 17, 18]) (js' := []) (by decide) (by decide) (by decide)) (by decide)) (by decide)) y) (by have e9 := hsu; rw [show σ61.1 62 + 1 + 1 = (fAdd (15) (σ.2.1 14 r) (0) (0) (0) (fAdd (13) (v15 + v21) (0) (0) (0) σ61)).1 62 from n64.symm] at e9; exact e9) (by have e9 := hcp; rw [show σ61.1 62 + 1 + 1 = (fAdd (15) (σ.2.1 14 r) (0) (0) (0) (fAdd (13) (v15 + v21) (0) (0) (0) σ61)).1 62 from n64.symm] at e9; exact e9), by rw [hj3]; exact hfm.fr (show Fr [] [3, 4, 5, 6, 7, 8, 9, 14] [] σ77 (sA 9 (r) ((σ.2.1 9 r) + (((fAdd (15) (σ.2.1 14 r) (0) (0) (0) (fAdd (13) (v15 + v21) (0) (0) (0) σ61)).1 62) - 1)) σ94) from ((((Fr.rfl.A (by decide)).trans (Fr.sub F83 (by decide) (by decide) (by decide))).trans (Fr.sub F90 (by decide) (by decide) (by decide))).A (by decide))) (by decide), hfl.fr (show Fr [] [3, 4, 5, 6, 7, 8, 9, 14] [] σ77 (sA 9 (r) ((σ.2.1 9 r) + (((fAdd (15) (σ.2.1 14 r) (0) (0) (0) (fAdd (13) (v15 + v21) (0) (0) (0) σ61)).1 62) - 1)) σ94) from ((((Fr.rfl.A (by decide)).trans (Fr.sub F83 (by decide) (by decide) (by decide))).trans (Fr.sub F90 (by decide) (by decide) (by decide))).A (by decide))) (by decide)⟩)
end
section
abbrev RTS : Type := Int × (Int → It) × Int × (Int → Int) × (Int → Int) × (Int → Int) × (Int → Int → Int)
def RTS.n (H : RTS) : Int := H.1
def RTS.V (H : RTS) : Int → It := H.2.1
def RTS.F (H : RTS) : Int := H.2.2.1
def RTS.fo (H : RTS) : Int → Int := H.2.2.2.1
def RTS.fi (H : RTS) : Int → Int := H.2.2.2.2.1
def RTS.fl (H : RTS) : Int → Int := H.2.2.2.2.2.1
def RTS.na (H : RTS) : Int → Int → Int := H.2.2.2.2.2.2
def rS (σ : MS) (r : Int) : RTS := (σ.2.1 9 r, rV σ r, σ.2.1 14 r, fun f => if 0 ≤ f ∧ f < σ.2.1 14 r then σ.2.1 15 (12 * r + f) else 0, fun f => if 0 ≤ f ∧ f < σ.2.1 14 r then σ.2.1 16 (12 * r + f) else 0, fun f => if 0 ≤ f ∧ f < σ.2.1 14 r then σ.2.1 17 (12 * r + f) else 0, fun f m => if (0 ≤ f ∧ f < σ.2.1 14 r) ∧ 0 ≤ m ∧ m < σ.2.1 12 (σ.2.1 15 (12 * r + f)) then σ.2.1 18 (144 * r + 12 * f + m) else 0)
def hmS (H : RTS) (NM : Int → Int) (g : Int) : Prop := ∃ f, 0 ≤ f ∧ f < H.F ∧ ∃ m, 0 ≤ m ∧ m < NM (H.fo f) ∧ H.na f m = g
def pmS (G : RTS) (P g : Int) : Prop := ∃ j, 0 ≤ j ∧ j < P ∧ G.na 0 j = g
def lvS (G : RTS) (P g : Int) : Prop := LVV G.V G.n 0 g ∧ ¬ pmS G P g
noncomputable def mkS (H G : RTS) (k base lb lq P N : Int) : BB := mkB H.F base lb (lb + lq) (H.V k 1) P N G.n (G.na 0) (H.V k) (lvS G P) G.V
noncomputable def mltS (H G : RTS) (k base lb lq j0 P N : Int) (NM : Int → Int) : RTS :=
  (H.n + (mkS H G k base lb lq P N).1 - 1, spV H.V k (mkS H G k base lb lq P N).1 (mkS H G k base lb lq P N).2, H.F + G.F,
   fun f => if f < H.F then H.fo f else if f < H.F + G.F then G.fo (f - H.F) else 0,
   fun f => if f < H.F then H.fi f else if f = H.F then H.V j0 2 else if f < H.F + G.F then G.fi (f - H.F) + H.F else 0,
   fun f => if f < H.F then H.fl f else if f = H.F then H.V j0 1 else if f < H.F + G.F then G.fl (f - H.F) else 0,
   fun f m => if f < H.F then H.na f m else if f < H.F + G.F ∧ 0 ≤ m ∧ m < NM (G.fo (f - H.F)) then G.na (f - H.F) m + base else 0)
def mlC (H G : RTS) (P N : Int) (NM : Int → Int) : Prop := (∀ j, 0 ≤ j → j < G.n → G.V j 0 ≠ 10) ∧ cN (fun j => G.V j 0 ≤ 10) 0 G.n.toNat ≤ 20 ∧ H.n + 2 + P + N + G.n + cN (lvS G P) 0 192 + cN (fun j => G.V j 0 = 7) 0 G.n.toNat ≤ 200 ∧ (∃ a b, mxV (rgV H.V H.n (hmS H NM)) a ∧ mxV (rgV G.V G.n (hmS G NM)) b ∧ a + b ≤ 100) ∧ H.F + G.F ≤ 12
def lnA (V : Int → It) (k j : Int) : Prop := 0 ≤ j ∧ j < k ∧ V j 0 = 11 ∧ ∀ i, j < i → i < k → V i 0 ≤ 5
theorem lnA.det {V : Int → It} {k i j : Int} (h : lnA V k i) (g : lnA V k j) : i = j := by
  by_cases a : i < j
  · have := h.2.2.2 j a g.2.1; have := g.2.2.1; omega
  · by_cases b : j < i
    · have := g.2.2.2 i b h.2.1; have := h.2.2.1; omega
    · omega
def MLD (r : Int) (Gs : Int → RTS) (PM NM : Int → Int) (H : RTS) (k : Int) : Prop := H.V k 0 = 10 ∧ H.V k 2 ≠ r ∧ mlC H (Gs (H.V k 2)) (PM (H.V k 2)) (NM (H.V k 2)) NM
def MLP (r : Int) (Gs : Int → RTS) (PM NM : Int → Int) (H : RTS) (k : Int) (H' : RTS) (k' d : Int) : Prop :=
  (∃ base lb lq j0, MLD r Gs PM NM H k ∧ mxV (rgV H.V H.n (hmS H NM)) base ∧ mxV (lbV H.V H.n) lb ∧ mxV (lbV (Gs (H.V k 2)).V (Gs (H.V k 2)).n) lq ∧ lnA H.V k j0 ∧ H' = mltS H (Gs (H.V k 2)) k base lb lq j0 (PM (H.V k 2)) (NM (H.V k 2)) NM ∧ k' = k + (mkS H (Gs (H.V k 2)) k base lb lq (PM (H.V k 2)) (NM (H.V k 2))).1 ∧ d = 1) ∨ (¬ MLD r Gs PM NM H k ∧ H' = H ∧ k' = k + 1 ∧ d = 0)
def MLR (r : Int) (Gs : Int → RTS) (PM NM : Int → Int) : Nat → RTS → Int → RTS → Int → Int → Prop
  | 0, H, k, H', k', w => H' = H ∧ k' = k ∧ w = 0
  | t + 1, H, k, H', k', w => ∃ H1 k1 w1 d, MLR r Gs PM NM t H k H1 k1 w1 ∧ k1 < H1.n ∧ MLP r Gs PM NM H1 k1 H' k' d ∧ w = w1 + d
theorem mb1_c {f base P : Int} {na nb : Int → Int} {x : It} {s : BB} {n : Nat} (h : ∀ m : Int, 0 ≤ m → m < (n : Int) → na m = nb m) : mb1 f base P na x s n = mb1 f base P nb x s n := by
  induction n with
  | zero => rfl
  | succ n ih =>
    show nmS f base P na x n (mb1 f base P na x s n) = nmS f base P nb x n (mb1 f base P nb x s n)
    rw [ih (fun m a b => h m a (by omega))]
    unfold nmS
    rw [h n (by omega) (by omega)]
theorem mb2_c {base : Int} {l1 l2 : Int → Prop} {s : BB} {n : Nat} (h : ∀ g : Int, 0 ≤ g → g < (n : Int) → (l1 g ↔ l2 g)) : mb2 base l1 s n = mb2 base l2 s n := by
  induction n with
  | zero => rfl
  | succ n ih =>
    show dI (l1 n) (bA (mb2 base l1 s n) _) (mb2 base l1 s n) = dI (l2 n) (bA (mb2 base l2 s n) _) (mb2 base l2 s n)
    rw [ih (fun m a b => h m a (by omega)), dI_c (h n (by omega) (by omega))]
theorem mkB_c {f base lb out to P N nq : Int} {na nb : Int → Int} {x : It} {l1 l2 : Int → Prop} {Vq : Int → It} (h1 : ∀ m, 0 ≤ m → m < N → na m = nb m) (h2 : ∀ g, 0 ≤ g → g < 192 → (l1 g ↔ l2 g)) : mkB f base lb out to P N nq na x l1 Vq = mkB f base lb out to P N nq nb x l2 Vq := by
  unfold mkB
  rw [mb1_c (fun m a b => h1 m a (by omega)), mb2_c (fun g a b => h2 g a (by omega))]
section RSS
variable {σ τ : MS} {r q k v : Int}
theorem rs_V : (rS σ r).V = rV σ r := rfl
theorem rs_fo {f : Int} (h : 0 ≤ f ∧ f < σ.2.1 14 r) : (rS σ r).fo f = σ.2.1 15 (12 * r + f) := if_pos h
theorem rs_na {f m : Int} (h : 0 ≤ f ∧ f < σ.2.1 14 r) (hm : 0 ≤ m ∧ m < σ.2.1 12 (σ.2.1 15 (12 * r + f))) : (rS σ r).na f m = σ.2.1 18 (144 * r + 12 * f + m) := if_pos ⟨h, hm⟩
theorem rs_fr {ss ks js : List Nat} (f : Fr ss ks js σ τ) (h : ∀ k ∈ [3, 4, 5, 6, 7, 8, 9, 12, 14, 15, 16, 17, 18], k ∉ ks) : rS τ r = rS σ r := by
  unfold rS
  rw [rv_fr f (fun k q => h k (by simp at q ⊢; omega)), f.q h (k := 9) (by decide), f.q h (k := 12) (by decide), f.q h (k := 14) (by decide), f.q h (k := 15) (by decide), f.q h (k := 16) (by decide), f.q h (k := 17) (by decide), f.q h (k := 18) (by decide)]
theorem hm_rs {g : Int} : hmS (rS σ r) (σ.2.1 12) g ↔ NMM σ r g := by
  unfold hmS NMM
  constructor
  · rintro ⟨f, f0, f1, m, m0, m1, e⟩
    rw [rs_fo ⟨f0, f1⟩] at m1
    rw [rs_na ⟨f0, f1⟩ ⟨m0, m1⟩] at e
    exact ⟨f, f0, f1, m, m0, m1, e⟩
  · rintro ⟨f, f0, f1, m, m0, m1, e⟩
    exact ⟨f, f0, f1, m, m0, by rw [rs_fo ⟨f0, f1⟩]; exact m1, by rw [rs_na ⟨f0, f1⟩ ⟨m0, m1⟩]; exact e⟩
theorem na0_rs (h0 : FR0 σ q) (h1 : 1 ≤ σ.2.1 14 q) {m : Int} (hm : 0 ≤ m ∧ m < σ.2.1 12 q) : (rS σ q).na 0 m = σ.2.1 18 (144 * q + m) := by
  unfold FR0 at h0
  rw [rs_na ⟨by decide, by omega⟩ (by rw [h0]; exact hm), show 144 * q + 12 * 0 + m = 144 * q + m by omega]
theorem pm_rs (h0 : FR0 σ q) (h1 : 1 ≤ σ.2.1 14 q) (hp : σ.2.1 11 q ≤ σ.2.1 12 q) {g : Int} : pmS (rS σ q) (σ.2.1 11 q) g ↔ PMQ σ q g := by
  unfold pmS PMQ
  constructor
  · rintro ⟨j, a, b, c⟩
    rw [na0_rs h0 h1 ⟨a, by omega⟩] at c
    exact ⟨j, a, b, c⟩
  · rintro ⟨j, a, b, c⟩
    exact ⟨j, a, b, by rw [na0_rs h0 h1 ⟨a, by omega⟩]; exact c⟩
theorem lv_rs (h0 : FR0 σ q) (h1 : 1 ≤ σ.2.1 14 q) (hp : σ.2.1 11 q ≤ σ.2.1 12 q) (hn : 0 ≤ σ.2.1 9 q) (hl : LDV σ (rV σ q) (σ.2.1 9 q)) {g : Int} (g0 : 0 ≤ g) (g1 : g < 192) : LPQ σ q g ↔ lvS (rS σ q) (σ.2.1 11 q) g := by
  unfold LPQ lvS
  have e := hl 0 g (Int.le_refl 0) hn g0 g1
  rw [show 192 * (0 : Int) + g = g by omega] at e
  rw [pm_rs h0 h1 hp, e]
  exact Iff.rfl
theorem cnt_lv {n : Nat} (hp : σ.2.1 11 q ≤ 4) : cnt (lcf σ q) n = cN (LPQ σ q) 0 n := by
  induction n with
  | zero => rfl
  | succ n ih =>
    show cnt (lcf σ q) n + lcf σ q n = cN (LPQ σ q) 0 n + dI (LPQ σ q (0 + n)) 1 0
    rw [ih, show (0 : Int) + n = n by omega]
    by_cases a : σ.2.1 59 n = 1
    · by_cases b : PMQ σ q n
      · rw [lcf_p hp b, dI_n (fun z => z.2 b)]
      · rw [lcf_y a b, dI_y ⟨a, b⟩]
    · rw [lcf_n a, dI_n (fun z => a z.1)]
theorem cnt_rt {n : Nat} : cnt (rcf σ q) n = cN (fun j => σ.2.1 3 (220 * q + j) = 7) 0 n := by
  induction n with
  | zero => rfl
  | succ n ih =>
    show cnt (rcf σ q) n + rcf σ q n = cN (fun j => σ.2.1 3 (220 * q + j) = 7) 0 n + dI (σ.2.1 3 (220 * q + (0 + n)) = 7) 1 0
    rw [ih, show (0 : Int) + n = n by omega]
    unfold rcf
    by_cases a : σ.2.1 3 (220 * q + n) = 7
    · rw [if_pos a, dI_y a]
    · rw [if_neg a, dI_n a]
end RSS
end
section
section MLS
variable {σ τ : MS} {r q k v : Int}
theorem fo_melt {base g0 l0 : Int} (h : FRM σ τ r q (σ.2.1 14 r) g0 base (σ.2.1 14 q)) (hl : FRL σ τ r q (σ.2.1 14 r) l0 (σ.2.1 14 q)) (t14 : τ.2.1 14 r = σ.2.1 14 r + σ.2.1 14 q) (t12 : τ.2.1 12 = σ.2.1 12) (hF : 0 ≤ σ.2.1 14 r ∧ 0 ≤ σ.2.1 14 q ∧ σ.2.1 14 r + σ.2.1 14 q ≤ 12) (hq : OKF σ q) (hrr : OKF σ r) (hnm : NAM σ) (hb : 0 ≤ base ∧ base ≤ 192) {V : Int → It} {n : Int} (hv : rV τ r = V) (h9 : τ.2.1 9 r = n) : rS τ r = (n, V, σ.2.1 14 r + σ.2.1 14 q,
    fun f => if f < σ.2.1 14 r then (rS σ r).fo f else if f < σ.2.1 14 r + σ.2.1 14 q then (rS σ q).fo (f - σ.2.1 14 r) else 0,
    fun f => if f < σ.2.1 14 r then (rS σ r).fi f else if f = σ.2.1 14 r then g0 else if f < σ.2.1 14 r + σ.2.1 14 q then (rS σ q).fi (f - σ.2.1 14 r) + σ.2.1 14 r else 0,
    fun f => if f < σ.2.1 14 r then (rS σ r).fl f else if f = σ.2.1 14 r then l0 else if f < σ.2.1 14 r + σ.2.1 14 q then (rS σ q).fl (f - σ.2.1 14 r) else 0,
    fun f m => if f < σ.2.1 14 r then (rS σ r).na f m else if f < σ.2.1 14 r + σ.2.1 14 q ∧ 0 ≤ m ∧ m < σ.2.1 12 ((rS σ q).fo (f - σ.2.1 14 r)) then (rS σ q).na (f - σ.2.1 14 r) m + base else 0) := by
  have q1 := hq.1
  have lo : ∀ f, 0 ≤ f → f < σ.2.1 14 r → τ.2.1 15 (12 * r + f) = σ.2.1 15 (12 * r + f) ∧ τ.2.1 16 (12 * r + f) = σ.2.1 16 (12 * r + f) ∧ τ.2.1 17 (12 * r + f) = σ.2.1 17 (12 * r + f) := fun f a b => h.2.1 (12 * r + f) (by omega)
  have hi : ∀ f, σ.2.1 14 r ≤ f → f < σ.2.1 14 r + σ.2.1 14 q → τ.2.1 15 (12 * r + f) = σ.2.1 15 (12 * q + (f - σ.2.1 14 r)) ∧ (f = σ.2.1 14 r → τ.2.1 16 (12 * r + f) = g0) ∧ (f ≠ σ.2.1 14 r → τ.2.1 16 (12 * r + f) = σ.2.1 16 (12 * q + (f - σ.2.1 14 r)) + σ.2.1 14 r) ∧ ∀ m, 0 ≤ m → m < 12 → τ.2.1 18 (144 * r + 12 * f + m) = wr (σ.2.1 18 (144 * q + 12 * (f - σ.2.1 14 r) + m) + base) := fun f a b => by
    have g := h.1 (f - σ.2.1 14 r) (by omega) (by omega)
    rw [show 12 * r + σ.2.1 14 r + (f - σ.2.1 14 r) = 12 * r + f by omega, show σ.2.1 14 r + (f - σ.2.1 14 r) = f by omega] at g
    exact ⟨g.1, fun e => g.2.1 (by omega), fun e => g.2.2.1 (by omega), g.2.2.2⟩
  have hi7 : ∀ f, σ.2.1 14 r ≤ f → f < σ.2.1 14 r + σ.2.1 14 q → (f = σ.2.1 14 r → τ.2.1 17 (12 * r + f) = l0) ∧ (f ≠ σ.2.1 14 r → τ.2.1 17 (12 * r + f) = σ.2.1 17 (12 * q + (f - σ.2.1 14 r))) := fun f a b => by
    have g := hl (f - σ.2.1 14 r) (by omega) (by omega)
    rw [show 12 * r + σ.2.1 14 r + (f - σ.2.1 14 r) = 12 * r + f by omega] at g
    exact ⟨fun e => g.1 (by omega), fun e => g.2 (by omega)⟩
  unfold rS
  rw [hv, h9, t14, t12]
  refine Prod.ext rfl (Prod.ext rfl (Prod.ext rfl (Prod.ext ?_ (Prod.ext ?_ (Prod.ext ?_ ?_)))))
  · funext f
    show (if 0 ≤ f ∧ f < σ.2.1 14 r + σ.2.1 14 q then τ.2.1 15 (12 * r + f) else 0) = if f < σ.2.1 14 r then (if 0 ≤ f ∧ f < σ.2.1 14 r then σ.2.1 15 (12 * r + f) else 0) else if f < σ.2.1 14 r + σ.2.1 14 q then (if 0 ≤ f - σ.2.1 14 r ∧ f - σ.2.1 14 r < σ.2.1 14 q then σ.2.1 15 (12 * q + (f - σ.2.1 14 r)) else 0) else 0
    by_cases a : f < σ.2.1 14 r
    · rw [if_pos a]
      by_cases b : 0 ≤ f
      · rw [if_pos (by omega), if_pos (by omega), (lo f b a).1]
      · rw [if_neg (by omega), if_neg (by omega)]
    · rw [if_neg a]
      by_cases b : f < σ.2.1 14 r + σ.2.1 14 q
      · rw [if_pos (by omega), if_pos b, if_pos (by omega), (hi f (by omega) b).1]
      · rw [if_neg (by omega), if_neg b]
  · funext f
    show (if 0 ≤ f ∧ f < σ.2.1 14 r + σ.2.1 14 q then τ.2.1 16 (12 * r + f) else 0) = if f < σ.2.1 14 r then (if 0 ≤ f ∧ f < σ.2.1 14 r then σ.2.1 16 (12 * r + f) else 0) else if f = σ.2.1 14 r then g0 else if f < σ.2.1 14 r + σ.2.1 14 q then (if 0 ≤ f - σ.2.1 14 r ∧ f - σ.2.1 14 r < σ.2.1 14 q then σ.2.1 16 (12 * q + (f - σ.2.1 14 r)) else 0) + σ.2.1 14 r else 0
    by_cases a : f < σ.2.1 14 r
    · rw [if_pos a]
      by_cases b : 0 ≤ f
      · rw [if_pos (by omega), if_pos (by omega), (lo f b a).2.1]
      · rw [if_neg (by omega), if_neg (by omega)]
    · rw [if_neg a]
      by_cases c : f = σ.2.1 14 r
      · rw [if_pos (by omega), if_pos c]; exact (hi f (by omega) (by omega)).2.1 c
      · rw [if_neg c]
        by_cases b : f < σ.2.1 14 r + σ.2.1 14 q
        · rw [if_pos (by omega), if_pos b, if_pos (by omega)]; exact (hi f (by omega) b).2.2.1 c
        · rw [if_neg (by omega), if_neg b]
  · funext f
    show (if 0 ≤ f ∧ f < σ.2.1 14 r + σ.2.1 14 q then τ.2.1 17 (12 * r + f) else 0) = if f < σ.2.1 14 r then (if 0 ≤ f ∧ f < σ.2.1 14 r then σ.2.1 17 (12 * r + f) else 0) else if f = σ.2.1 14 r then l0 else if f < σ.2.1 14 r + σ.2.1 14 q then (if 0 ≤ f - σ.2.1 14 r ∧ f - σ.2.1 14 r < σ.2.1 14 q then σ.2.1 17 (12 * q + (f - σ.2.1 14 r)) else 0) else 0
    by_cases a : f < σ.2.1 14 r
    · rw [if_pos a]
      by_cases b : 0 ≤ f
      · rw [if_pos (by omega), if_pos (by omega), (lo f b a).2.2]
      · rw [if_neg (by omega), if_neg (by omega)]
    · rw [if_neg a]
      by_cases c : f = σ.2.1 14 r
      · rw [if_pos (by omega), if_pos c]; exact (hi7 f (by omega) (by omega)).1 c
      · rw [if_neg c]
        by_cases b : f < σ.2.1 14 r + σ.2.1 14 q
        · rw [if_pos (by omega), if_pos b, if_pos (by omega)]; exact (hi7 f (by omega) b).2 c
        · rw [if_neg (by omega), if_neg b]
  · funext f m
    show (if (0 ≤ f ∧ f < σ.2.1 14 r + σ.2.1 14 q) ∧ 0 ≤ m ∧ m < σ.2.1 12 (τ.2.1 15 (12 * r + f)) then τ.2.1 18 (144 * r + 12 * f + m) else 0) = if f < σ.2.1 14 r then (if (0 ≤ f ∧ f < σ.2.1 14 r) ∧ 0 ≤ m ∧ m < σ.2.1 12 (σ.2.1 15 (12 * r + f)) then σ.2.1 18 (144 * r + 12 * f + m) else 0) else if f < σ.2.1 14 r + σ.2.1 14 q ∧ 0 ≤ m ∧ m < σ.2.1 12 ((rS σ q).fo (f - σ.2.1 14 r)) then (rS σ q).na (f - σ.2.1 14 r) m + base else 0
    by_cases a : f < σ.2.1 14 r
    · rw [if_pos a]
      by_cases b : 0 ≤ f
      · rw [(lo f b a).1]
        by_cases c : 0 ≤ m ∧ m < σ.2.1 12 (σ.2.1 15 (12 * r + f))
        · have o := hrr.2 f b a
          have := hnm _ o.1.1 o.1.2
          rw [if_pos ⟨by omega, c⟩, if_pos ⟨by omega, c⟩]
          exact h.2.2 _ (by omega)
        · rw [if_neg (fun z => c z.2), if_neg (fun z => c z.2)]
      · rw [if_neg (fun z => b z.1.1), if_neg (fun z => b z.1.1)]
    · rw [if_neg a]
      by_cases b : f < σ.2.1 14 r + σ.2.1 14 q
      · have g := hi f (by omega) b
        have o := hq.2 (f - σ.2.1 14 r) (by omega) (by omega)
        have nn := hnm _ o.1.1 o.1.2
        rw [g.1, rs_fo (σ := σ) (r := q) (f := f - σ.2.1 14 r) (by omega)]
        by_cases c : 0 ≤ m ∧ m < σ.2.1 12 (σ.2.1 15 (12 * q + (f - σ.2.1 14 r)))
        · have w := o.2 m c.1 c.2
          rw [if_pos ⟨by omega, c⟩, if_pos ⟨b, c⟩, rs_na (σ := σ) (r := q) (by omega) c, g.2.2.2 m c.1 (by omega), wr_id ⟨by omega, by omega⟩]
        · rw [if_neg (fun z => c z.2), if_neg (fun z => c z.2)]
      · rw [if_neg (fun z => b z.1.2), if_neg (fun z => b z.1)]
theorem mxV.c {P Q : Int → Prop} {v : Int} (h : mxV P v) (e : ∀ B, P B ↔ Q B) : mxV Q v := ⟨h.1, (e v).mp h.2.1, fun B a b => h.2.2 B a ((e B).mpr b)⟩
theorem rgV_c {V : Int → It} {n B : Int} {H K : Int → Prop} (h : ∀ g, H g ↔ K g) : rgV V n H B ↔ rgV V n K B := by
  unfold rgV
  exact ⟨fun z => ⟨fun g a => z.1 g ((h g).mpr a), z.2⟩, fun z => ⟨fun g a => z.1 g ((h g).mp a), z.2⟩⟩
theorem mx_rs {F a : Int} (h : mxV (RGB σ r) a) (ho : OKS σ F r) (hp : PAR σ) : mxV (rgV (rS σ r).V (rS σ r).n (hmS (rS σ r) (σ.2.1 12))) a := h.c (fun B => (rgb_rv ho hp).trans (rgV_c (fun g => hm_rs.symm)))
theorem ml_rs (h : MLO σ τ r k q v) (hk : 0 ≤ k ∧ k < σ.2.1 9 r) (hq2 : rV σ r k 2 = q) (t14 : τ.2.1 14 r = σ.2.1 14 r + σ.2.1 14 q) (t12 : τ.2.1 12 = σ.2.1 12) (hF : σ.2.1 14 r + σ.2.1 14 q ≤ 12) (hq : OKF σ q) (hrr : OKF σ r) (hnm : NAM σ) (hok : OKS σ (σ.2.1 14 r) r) (hpar : PAR σ) (h0 : FR0 σ q) (hp : σ.2.1 11 q ≤ σ.2.1 12 q) (hn : 0 ≤ σ.2.1 9 q) (hl : LDV σ (rV σ q) (σ.2.1 9 q)) (hb : ∀ a, mxV (RGB σ r) a → a ≤ 192) : ∃ base lb lq j0, mxV (rgV (rS σ r).V (rS σ r).n (hmS (rS σ r) (σ.2.1 12))) base ∧ mxV (lbV (rS σ r).V (rS σ r).n) lb ∧ mxV (lbV (rS σ q).V (rS σ q).n) lq ∧ lnA (rS σ r).V k j0 ∧ rS τ r = mltS (rS σ r) (rS σ q) k base lb lq j0 (σ.2.1 11 q) (σ.2.1 12 q) (σ.2.1 12) ∧ v = k + (mkS (rS σ r) (rS σ q) k base lb lq (σ.2.1 11 q) (σ.2.1 12 q)).1 := by
  obtain ⟨base, lb, lq, j0, m1, m2, m3, ⟨j1, j2, j3, j4⟩, e1, e2, e3, f1, f2⟩ := h
  have q1 := hq.1
  have r1 := hrr.1
  have eb : mkB (σ.2.1 14 r) base lb (lb + lq) (σ.2.1 4 (220 * r + k)) (σ.2.1 11 q) (σ.2.1 12 q) (σ.2.1 9 q) (naR σ q) (rI σ (220 * r + k)) (LPQ σ q) (rV σ q) = mkS (rS σ r) (rS σ q) k base lb lq (σ.2.1 11 q) (σ.2.1 12 q) := by
    unfold mkS
    rw [mkB_c (na := naR σ q) (nb := (rS σ q).na 0) (l1 := LPQ σ q) (l2 := lvS (rS σ q) (σ.2.1 11 q)) (fun m a b => (na0_rs h0 q1.1 ⟨a, b⟩).symm) (fun g a b => lv_rs h0 q1.1 hp hn hl a b), rs_V, rv_in hk.1 hk.2]
    rfl
  rw [eb] at e1 e2 e3
  refine ⟨base, lb, lq, j0, mx_rs m1 hok hpar, m2.c (fun B => lbb_rv), m3.c (fun B => lbb_rv), ⟨j1, j2, by rw [rs_V, rv_at j1 (by omega)]; exact j3, fun i a b => by rw [rs_V, rv_at (by omega) (by omega)]; exact j4 i a b⟩, ?_, e1⟩
  have e5 : σ.2.1 5 (220 * r + j0) = (rS σ r).V j0 2 := by rw [rs_V, rv_at j1 (by omega)]; rfl
  have e4 : σ.2.1 4 (220 * r + j0) = (rS σ r).V j0 1 := by rw [rs_V, rv_at j1 (by omega)]; rfl
  rw [e5] at f1
  rw [e4] at f2
  exact fo_melt f1 f2 t14 t12 ⟨by omega, by omega, hF⟩ hq hrr hnm ⟨m1.1, hb base m1⟩ e3 e2
end MLS
end
section
section MEX
variable {σ0 σ τ : MS} {r q k w v a b : Int}
def MEX (σ0 σ : MS) (r k w : Int) : Prop := (∃ t, MLR r (rS σ0) (σ0.2.1 11) (σ0.2.1 12) t (rS σ0 r) 0 (rS σ r) k w) ∧ ∀ j, 0 ≤ j → j < σ0.1 10 → j ≠ r → rS σ j = rS σ0 j
theorem MEX.start : MEX σ0 σ0 r 0 0 := ⟨⟨0, rfl, rfl, rfl⟩, fun _ _ _ _ => rfl⟩
theorem MEX.fr {ss ks js : List Nat} (h : MEX σ0 σ r k w) (f : Fr ss ks js σ τ) (g : ∀ k ∈ [3, 4, 5, 6, 7, 8, 9, 12, 14, 15, 16, 17, 18], k ∉ ks) : MEX σ0 τ r k w := by
  refine ⟨?_, fun j a b c => by rw [rs_fr f g]; exact h.2 j a b c⟩
  rw [rs_fr f g]
  exact h.1
theorem MEX.no (h : MEX σ0 σ r k w) (hk : k < σ.2.1 9 r) (n : ¬ MLD r (rS σ0) (σ0.2.1 11) (σ0.2.1 12) (rS σ r) k) : MEX σ0 σ r (k + 1) w := by
  obtain ⟨⟨t, ht⟩, h2⟩ := h
  exact ⟨⟨t + 1, rS σ r, k, w, 0, ht, hk, Or.inr ⟨n, rfl, rfl, rfl⟩, by omega⟩, h2⟩
theorem nd_k (hk : 0 ≤ k ∧ k < σ.2.1 9 r) (e : σ.2.1 3 (220 * r + k) ≠ 10) {Gs : Int → RTS} {PM NM : Int → Int} : ¬ MLD r Gs PM NM (rS σ r) k := fun z => by
  have z1 := z.1
  rw [rs_V, rv_at hk.1 hk.2] at z1
  exact e z1
theorem nd_q (hk : 0 ≤ k ∧ k < σ.2.1 9 r) (e : σ.2.1 5 (220 * r + k) = r) {Gs : Int → RTS} {PM NM : Int → Int} : ¬ MLD r Gs PM NM (rS σ r) k := fun z => by
  have z1 := z.2.1
  rw [rs_V, rv_at hk.1 hk.2] at z1
  exact z1 e
theorem MEX.nd (h : MEX σ0 σ r k w) (hk : 0 ≤ k ∧ k < σ.2.1 9 r) (hq : σ.2.1 5 (220 * r + k) = q) (q0 : 0 ≤ q ∧ q < σ0.1 10) (qr : q ≠ r) (e11 : σ.2.1 11 = σ0.2.1 11) (e12 : σ.2.1 12 = σ0.2.1 12) (n : mlC (rS σ r) (rS σ q) (σ.2.1 11 q) (σ.2.1 12 q) (σ.2.1 12) → False) : ¬ MLD r (rS σ0) (σ0.2.1 11) (σ0.2.1 12) (rS σ r) k := fun z => by
  have z1 := z.2.2
  rw [show (rS σ r).V k 2 = q by rw [rs_V, rv_at hk.1 hk.2]; exact hq, ← h.2 q q0.1 q0.2 qr, ← e11, ← e12] at z1
  exact n z1
def HCY (σ : MS) (r v : Int) : Prop := v = 1 → ∃ j, 0 ≤ j ∧ j < σ.2.1 9 r ∧ σ.2.1 3 (220 * r + j) = 10
theorem nc_h (e : ∃ j, 0 ≤ j ∧ j < σ.2.1 9 q ∧ σ.2.1 3 (220 * q + j) = 10) {P N : Int} {NM : Int → Int} {H : RTS} : ¬ mlC H (rS σ q) P N NM := fun z => by
  obtain ⟨j, a, b, c⟩ := e
  exact z.1 j a b (by rw [rs_V, rv_at a b]; exact c)
theorem ac_rs : cN (actA σ q) 0 (σ.2.1 9 q - 0).toNat = cN (fun j => (rS σ q).V j 0 ≤ 10) 0 (rS σ q).n.toNat := by
  rw [Int.sub_zero]
  refine cN_ext (fun i a b => ?_)
  show σ.2.1 3 (220 * q + i) ≤ 10 ↔ rV σ q i 0 ≤ 10
  rw [rv_at a (by omega)]
  exact Iff.rfl
theorem nc_a (e : 20 < cN (actA σ q) 0 (σ.2.1 9 q - 0).toNat) {P N : Int} {NM : Int → Int} {H : RTS} : ¬ mlC H (rS σ q) P N NM := fun z => by
  have z1 := z.2.1
  rw [← ac_rs] at z1
  omega
theorem gw_rs (h0 : FR0 σ q) (h1 : 1 ≤ σ.2.1 14 q) (hp : σ.2.1 11 q ≤ σ.2.1 12 q) (hp4 : σ.2.1 11 q ≤ 4) (hn : 0 ≤ σ.2.1 9 q) (hl : LDV σ (rV σ q) (σ.2.1 9 q)) : cN (lvS (rS σ q) (σ.2.1 11 q)) 0 192 = cnt (lcf σ q) 192 ∧ cN (fun j => (rS σ q).V j 0 = 7) 0 (rS σ q).n.toNat = cnt (rcf σ q) (σ.2.1 9 q).toNat := by
  constructor
  · rw [cnt_lv hp4]
    exact cN_ext (fun i a b => (lv_rs h0 h1 hp hn hl a (by omega)).symm)
  · rw [cnt_rt]
    refine cN_ext (fun i a b => ?_)
    show rV σ q i 0 = 7 ↔ σ.2.1 3 (220 * q + i) = 7
    rw [rv_at a (by have : (rS σ q).n = σ.2.1 9 q := rfl; omega)]
    exact Iff.rfl
theorem MEX.go (h : MEX σ0 σ r k w) (hk : 0 ≤ k ∧ k < σ.2.1 9 r) (hc : σ.2.1 3 (220 * r + k) = 10) (hq : σ.2.1 5 (220 * r + k) = q) (q0 : 0 ≤ q ∧ q < σ0.1 10) (qr : q ≠ r) (e11 : σ.2.1 11 = σ0.2.1 11) (e12 : σ.2.1 12 = σ0.2.1 12)
    (hm : mlC (rS σ r) (rS σ q) (σ.2.1 11 q) (σ.2.1 12 q) (σ.2.1 12))
    (g : ∃ base lb lq j0, mxV (rgV (rS σ r).V (rS σ r).n (hmS (rS σ r) (σ.2.1 12))) base ∧ mxV (lbV (rS σ r).V (rS σ r).n) lb ∧ mxV (lbV (rS σ q).V (rS σ q).n) lq ∧ lnA (rS σ r).V k j0 ∧ rS τ r = mltS (rS σ r) (rS σ q) k base lb lq j0 (σ.2.1 11 q) (σ.2.1 12 q) (σ.2.1 12) ∧ v = k + (mkS (rS σ r) (rS σ q) k base lb lq (σ.2.1 11 q) (σ.2.1 12 q)).1)
    (ho : ∀ j, 0 ≤ j → j < σ0.1 10 → j ≠ r → rS τ j = rS σ j) : MEX σ0 τ r v (w + 1) := by
  obtain ⟨⟨t, ht⟩, h2⟩ := h
  obtain ⟨base, lb, lq, j0, g1, g2, g3, g4, g5, g6⟩ := g
  have eq : (rS σ r).V k 2 = q := by rw [rs_V, rv_at hk.1 hk.2]; exact hq
  have e0 : (rS σ r).V k 0 = 10 := by rw [rs_V, rv_at hk.1 hk.2]; exact hc
  refine ⟨⟨t + 1, rS σ r, k, w, 1, ht, hk.2, Or.inl ⟨base, lb, lq, j0, ?_, ?_, g2, ?_, g4, ?_, ?_, rfl⟩, rfl⟩, fun j a b c => (ho j a b c).trans (h2 j a b c)⟩
  · unfold MLD
    rw [eq, ← h2 q q0.1 q0.2 qr, ← e11, ← e12]
    exact ⟨e0, qr, hm⟩
  · rw [← e12]; exact g1
  · rw [eq, ← h2 q q0.1 q0.2 qr]; exact g3
  · rw [eq, ← h2 q q0.1 q0.2 qr, ← e11, ← e12]; exact g5
  · rw [eq, ← h2 q q0.1 q0.2 qr, ← e11, ← e12]; exact g6
theorem rs_xr {F : Int} (x : XR r σ τ) (f : XF r F σ τ) (h12 : τ.2.1 12 = σ.2.1 12) (hF : 0 ≤ F) {j : Int} (j0 : 0 ≤ j) (j6 : j < 6) (jr : j ≠ r) (hn : σ.2.1 9 j ≤ 220) (hok : OKF σ j) (hnm : NAM σ) : rS τ j = rS σ j := by
  have o1 := hok.1
  have e9 := (f.2.2 j jr).2
  have e14 := (f.2.2 j jr).1
  have ef : ∀ y, 0 ≤ y → y < σ.2.1 14 j → τ.2.1 15 (12 * j + y) = σ.2.1 15 (12 * j + y) ∧ τ.2.1 16 (12 * j + y) = σ.2.1 16 (12 * j + y) ∧ τ.2.1 17 (12 * j + y) = σ.2.1 17 (12 * j + y) := fun y a b => f.1 _ (by omega)
  have ev : rV τ j = rV σ j := by
    funext i
    unfold rV
    rw [e9]
    by_cases a : 0 ≤ i ∧ i < σ.2.1 9 j
    · rw [if_pos a, if_pos a]
      have x1 := x.1 (220 * j + i) (by omega) (by omega)
      have x2 : ∀ c, 0 ≤ c → c < 4 → τ.2.1 7 (4 * (220 * j + i) + c) = σ.2.1 7 (4 * (220 * j + i) + c) ∧ τ.2.1 8 (4 * (220 * j + i) + c) = σ.2.1 8 (4 * (220 * j + i) + c) := fun c a b => x.2 _ (by omega) (by omega)
      unfold rI
      rw [x1.1, x1.2.1, x1.2.2.1, x1.2.2.2, (x2 0 (by decide) (by decide)).1, (x2 0 (by decide) (by decide)).2, (x2 1 (by decide) (by decide)).1, (x2 1 (by decide) (by decide)).2, (x2 2 (by decide) (by decide)).1, (x2 2 (by decide) (by decide)).2, (x2 3 (by decide) (by decide)).1, (x2 3 (by decide) (by decide)).2]
    · rw [if_neg a, if_neg a]
  unfold rS
  rw [ev, e9, e14, h12]
  refine Prod.ext rfl (Prod.ext rfl (Prod.ext rfl (Prod.ext ?_ (Prod.ext ?_ (Prod.ext ?_ ?_)))))
  · funext y
    show (if 0 ≤ y ∧ y < σ.2.1 14 j then τ.2.1 15 (12 * j + y) else 0) = if 0 ≤ y ∧ y < σ.2.1 14 j then σ.2.1 15 (12 * j + y) else 0
    by_cases a : 0 ≤ y ∧ y < σ.2.1 14 j
    · rw [if_pos a, if_pos a, (ef y a.1 a.2).1]
    · rw [if_neg a, if_neg a]
  · funext y
    show (if 0 ≤ y ∧ y < σ.2.1 14 j then τ.2.1 16 (12 * j + y) else 0) = if 0 ≤ y ∧ y < σ.2.1 14 j then σ.2.1 16 (12 * j + y) else 0
    by_cases a : 0 ≤ y ∧ y < σ.2.1 14 j
    · rw [if_pos a, if_pos a, (ef y a.1 a.2).2.1]
    · rw [if_neg a, if_neg a]
  · funext y
    show (if 0 ≤ y ∧ y < σ.2.1 14 j then τ.2.1 17 (12 * j + y) else 0) = if 0 ≤ y ∧ y < σ.2.1 14 j then σ.2.1 17 (12 * j + y) else 0
    by_cases a : 0 ≤ y ∧ y < σ.2.1 14 j
    · rw [if_pos a, if_pos a, (ef y a.1 a.2).2.2]
    · rw [if_neg a, if_neg a]
  · funext y m
    show (if (0 ≤ y ∧ y < σ.2.1 14 j) ∧ 0 ≤ m ∧ m < σ.2.1 12 (τ.2.1 15 (12 * j + y)) then τ.2.1 18 (144 * j + 12 * y + m) else 0) = if (0 ≤ y ∧ y < σ.2.1 14 j) ∧ 0 ≤ m ∧ m < σ.2.1 12 (σ.2.1 15 (12 * j + y)) then σ.2.1 18 (144 * j + 12 * y + m) else 0
    by_cases a : 0 ≤ y ∧ y < σ.2.1 14 j
    · rw [(ef y a.1 a.2).1]
      by_cases c : 0 ≤ m ∧ m < σ.2.1 12 (σ.2.1 15 (12 * j + y))
      · have o := hok.2 y a.1 a.2
        have := hnm _ o.1.1 o.1.2
        rw [if_pos ⟨a, c⟩, if_pos ⟨a, c⟩, f.2.1 _ (by omega)]
      · rw [if_neg (fun z => c z.2), if_neg (fun z => c z.2)]
    · rw [if_neg (fun z => a z.1), if_neg (fun z => a z.1)]
end MEX
end
section
set_option maxHeartbeats 1000000 in
set_option maxRecDepth 20000 in
theorem f_hasCall (d : Nat) {b : Nat} {σ : MS} {r : Int} {post : Option Value → MS → Prop} (hr : 0 ≤ r ∧ r < 12) (hR : RG σ) (hit : ITM σ) (hx_36 : ∀ (k : Int) , (∀ j, 0 ≤ j → j < σ.2.1 9 r → ¬ σ.2.1 3 (220 * r + j) = 10) → Tm (d + 3) m_X12_hasCall 36 b σ [(2, .int (iI k)), (0, .ref b), (1, .int (iI r))] [] post) (hr1 : (∃ j, 0 ≤ j ∧ j < σ.2.1 9 r ∧ σ.2.1 3 (220 * r + j) = 10) → post (some (.int (iI 1))) σ) : ∀ (n : Nat) (k : Int) , (0 ≤ k ∧ k ≤ 220) → (∀ j, 0 ≤ j → j < k → ¬ σ.2.1 3 (220 * r + j) = 10) → (220 - k).toNat = n → Tm (d + 3) m_X12_hasCall 2 b σ [(2, .int (iI k)), (0, .ref b), (1, .int (iI r))] [] post := by
  intro n
  induction n using Nat.strongRecOn with
  | _ n ih =>
    intro k h0 hj hm
    refine tm_iload_n dX12_hasCall_2 rfl 0 rfl ?_
    refine tm_aload_n dX12_hasCall_3 rfl 1 rfl ?_
    refine tm_get (k := 9) (v := .ref (b + 1 + 7)) lay_12 dX12_hasCall_4 (by decide) fl12_32 rfl ?_
    refine tm_iload_n dX12_hasCall_7 rfl 2 rfl ?_
    refine tm_iald (z := r) (v := σ.2.1 9 r) dX12_hasCall_8 (show mT[7]? = some (9, 0, 13) from rfl) (by omega) (by omega) (by decide) (rfl) ?_
    have g1 := RG.a hR 9 (r)
    have := hit (r) (by omega) (by omega)
    refine tm_icmp_ge (tgt := 36) dX12_hasCall_9 (by decide) ⟨by omega, by omega⟩ ⟨by omega, by omega⟩ (fun h2 => ?_) (fun h2 => ?_)
    · exact tm_sub [0, 1, 2] rfl (hx_36 (k) (fun j a b => hj j a (by omega)))
    · refine tm_aload_n dX12_hasCall_12 rfl 1 rfl ?_
      refine tm_get (k := 3) (v := .ref (b + 1 + 1)) lay_12 dX12_hasCall_13 (by decide) fl12_13 rfl ?_
      refine tm_aload_n dX12_hasCall_16 rfl 1 rfl ?_
      refine tm_iload_n dX12_hasCall_17 rfl 2 rfl ?_
      refine tm_iload_n dX12_hasCall_18 rfl 0 rfl ?_
      refine tm_callV (M := m_X12_hasCall) (pc := 19) (ix := 203) (M' := m_X12_at) (As := [.int (iI r), .int (iI k)]) (rest := [.ref (b + 1 + 1)]) dX12_hasCall_19 ok_X12_at im_X12_at se_X12_at ml12_203 np_X12_at rfl rfl (Nat.le_of_ble_eq_true rfl) (Nat.le_of_ble_eq_true rfl) rfl (c_X12_at (d + 1) (σ := σ) (x := r) (k := k) ) (fun r3 σ4 hp => ?_)
      obtain ⟨v5, rfl, rfl, f6⟩ := hp
      subst f6
      show Tm _ _ 22 b σ [(2, .int (iI k)), (0, .ref b), (1, .int (iI r))] [.int (iI (220 * r + k)), .ref (b + 1 + 1)] _
      refine tm_iald (z := 220 * r + k) (v := σ.2.1 3 (220 * r + k)) dX12_hasCall_22 (show mT[1]? = some (3, 0, 2860) from rfl) (by omega) (by omega) (by decide) (rfl) ?_
      have g7 := RG.a hR 3 (220 * r + k)
      refine tm_bipush dX12_hasCall_23 (by decide) ?_
      refine tm_icmp_ne (tgt := 30) dX12_hasCall_25 (by decide) ⟨by omega, by omega⟩ ⟨by decide, by decide⟩ (fun h8 => ?_) (fun h8 => ?_)
      · refine tm_iinc (q0 := 0) (L' := [(2, .int (iI (k + 1))), (0, .ref b), (1, .int (iI r))]) dX12_hasCall_30 rfl (by decide) rfl ?_
        refine tm_goto (tgt := 2) dX12_hasCall_33 (by decide) ?_
        exact tm_sub [0, 1, 2] rfl (ih _ (by omega) (k + 1) (by omega) (fun j a b => by
          by_cases e : j = k
          · subst e; omega
          · exact hj j a (by omega)) rfl)
      · refine tm_iconst dX12_hasCall_28 ?_
        exact tm_zret (v := 1) rfl (by decide) dX12_hasCall_29 ((hr1 ⟨k, by omega, by omega, by omega⟩))
set_option maxHeartbeats 1000000 in
set_option maxRecDepth 20000 in
theorem f_X12_hasCall (d : Nat) {b : Nat} {σ : MS} {r : Int} (hr : 0 ≤ r ∧ r < 12) (hR : RG σ) (hit : ITM σ) : Tm (d + 3) m_X12_hasCall 0 b σ [(0, .ref b), (1, .int (iI r))] [] (fun ro σ2 => ∃ v : Int, ro = some (.int (iI v)) ∧ σ = σ2 ∧ ((v = 0 ∨ v = 1)) ∧ ((v = 0 → ∀ j, 0 ≤ j → j < σ.2.1 9 r → ¬ σ.2.1 3 (220 * r + j) = 10)) ∧ (HCY σ r v)) := by
  refine tm_iconst dX12_hasCall_0 ?_
  refine tm_istore_n (L' := [(2, .int (iI 0)), (0, .ref b), (1, .int (iI r))]) dX12_hasCall_1 rfl (by decide) rfl ?_
  refine tm_sub [0, 1, 2] rfl (f_hasCall (d) (σ := σ) (r := r) hr hR hit (fun k5 f4 => ?_) (fun h9 => ⟨_, rfl, rfl, Or.inr rfl, fun h => absurd h (by decide), (fun _ => h9 : HCY _ _ _)⟩) _ (0) (by omega) (fun j a b => by omega) rfl)
  show Tm _ _ 36 b σ [(2, .int (iI k5)), (0, .ref b), (1, .int (iI r))] [] _
  refine tm_iconst dX12_hasCall_36 ?_
  exact tm_zret (v := 0) rfl (by decide) dX12_hasCall_37 (⟨_, rfl, rfl, Or.inl rfl, fun _ => f4, (fun h => absurd h (by decide) : HCY _ _ _)⟩)
end
