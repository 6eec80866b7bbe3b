theorem dX12_melt_0 : decode cX12_melt 0 = .ok (.iconst 0, 1) := by decide +kernel
theorem dX12_melt_1 : decode cX12_melt 1 = .ok (.istore_n 2, 1) := by decide +kernel
theorem dX12_melt_2 : decode cX12_melt 2 = .ok (.iconst 0, 1) := by decide +kernel
theorem dX12_melt_3 : decode cX12_melt 3 = .ok (.istore_n 3, 1) := by decide +kernel
theorem dX12_melt_277 : decode cX12_melt 277 = .ok (.iload_n 2, 1) := by decide +kernel
theorem dX12_melt_278 : decode cX12_melt 278 = .ok (.ireturn, 1) := by decide +kernel
set_option maxHeartbeats 2000000 in
set_option maxRecDepth 20000 in
theorem c_X12_melt (d : Nat) {b : Nat} {σ : MS} {r : Int} (hr : 0 ≤ r ∧ r < σ.1 10) (hR : RG σ) (hit : ITM σ) (hpar : PAR σ) (hnam : NAM σ) (hgd : GDA σ) (hl : LAB σ) (hbl : BO 59 σ) : Tm (d + 7) m_X12_melt 0 b σ [(0, .ref b), (1, .int (iI r))] [] (fun ro σ2 => ∃ v : Int, ro = some (.int (iI v)) ∧ (Fr [62] [3, 4, 5, 6, 7, 8, 9, 14, 15, 16, 17, 18, 46, 59] [] σ σ2) ∧ (RG σ2) ∧ (GDA σ2) ∧ (LAB σ2) ∧ (BO 59 σ2) ∧ (∀ j, j ≠ r → σ2.2.1 9 j = σ.2.1 9 j) ∧ (XR r σ σ2)) := by
  have gr := (hgd.2 r hr.1 hr.2).1
  refine tm_iconst dX12_melt_0 ?_
  refine tm_istore_n (L' := [(2, .int (iI 0)), (0, .ref b), (1, .int (iI r))]) dX12_melt_1 rfl (by decide) rfl ?_
  refine tm_iconst dX12_melt_2 ?_
  refine tm_istore_n (L' := [(3, .int (iI 0)), (2, .int (iI 0)), (0, .ref b), (1, .int (iI r))]) dX12_melt_3 rfl (by decide) rfl ?_
  refine tm_sub [0, 1, 2, 3] rfl (l_me1 (d) (σ0 := σ) (r := r) hr hR hit hpar hnam (fun tl11 k12 σ13 F4 R5 f6 f7 f8 f9 f10 => ?_) _ (0) (0) σ Fr.rfl hR (by omega) hgd hl hbl (fun _ _ => rfl) XR.rfl rfl)
  show Tm _ _ 277 b σ13 [(3, .int (iI k12)), (2, .int (iI tl11)), (0, .ref b), (1, .int (iI r))] [] _
  refine tm_iload_n dX12_melt_277 rfl 1 rfl ?_
  exact tm_iret rfl dX12_melt_278 (⟨_, rfl, (Fr.rfl.trans (Fr.sub F4 (by decide) (by decide) (by decide))), R5, f6, f7, f8, f9, f10⟩)
