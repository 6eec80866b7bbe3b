theorem dX12_moveAll_0 : decode cX12_moveAll 0 = .ok (.iconst 0, 1) := by decide +kernel
theorem dX12_moveAll_1 : decode cX12_moveAll 1 = .ok (.istore_n 2, 1) := by decide +kernel
theorem dX12_moveAll_2 : decode cX12_moveAll 2 = .ok (.aload_n 0, 1) := by decide +kernel
theorem dX12_moveAll_3 : decode cX12_moveAll 3 = .ok (.getfield 32, 3) := by decide +kernel
theorem dX12_moveAll_6 : decode cX12_moveAll 6 = .ok (.iload_n 1, 1) := by decide +kernel
theorem dX12_moveAll_7 : decode cX12_moveAll 7 = .ok (.iaload, 1) := by decide +kernel
theorem dX12_moveAll_8 : decode cX12_moveAll 8 = .ok (.iconst 1, 1) := by decide +kernel
theorem dX12_moveAll_9 : decode cX12_moveAll 9 = .ok (.isub, 1) := by decide +kernel
theorem dX12_moveAll_10 : decode cX12_moveAll 10 = .ok (.istore_n 3, 1) := by decide +kernel
theorem dX12_moveAll_226 : decode cX12_moveAll 226 = .ok (.iload_n 2, 1) := by decide +kernel
theorem dX12_moveAll_227 : decode cX12_moveAll 227 = .ok (.ireturn, 1) := by decide +kernel
set_option maxHeartbeats 1000000 in
set_option maxRecDepth 20000 in
theorem c_X12_moveAll (d : Nat) {b : Nat} {σ : MS} {r : Int} {F : Int} (hr : 0 ≤ r ∧ r < 6) (hR : RG σ) (hit : ITM σ) (hpar : PAR σ) (hnam : NAM σ) (hok : OKS σ F r) (hof : OKF σ r) (hn : 1 ≤ σ.2.1 9 r) (hcd : CODE σ r) (hlex : LEX σ r) (hlm : LBM σ r) : Tm (d + 6) m_X12_moveAll 0 b σ [(0, .ref b), (1, .int (iI r))] [] (fun ro σ2 => ∃ v : Int, ro = some (.int (iI v)) ∧ (Fr [] [3, 4, 5, 6, 7, 8] [] σ σ2) ∧ (RG σ2) ∧ (XR r σ σ2) ∧ (OKS σ2 F r) ∧ (CODE σ2 r) ∧ (LEX σ2 r) ∧ (LBM σ2 r)) := by
  have q1 := hit r (by omega) (by omega)
  refine tm_iconst dX12_moveAll_0 ?_
  refine tm_istore_n (L' := [(2, .int (iI 0)), (0, .ref b), (1, .int (iI r))]) dX12_moveAll_1 rfl (by decide) rfl ?_
  refine tm_aload_n dX12_moveAll_2 rfl 1 rfl ?_
  refine tm_get (k := 9) (v := .ref (b + 1 + 7)) lay_12 dX12_moveAll_3 (by decide) fl12_32 rfl ?_
  refine tm_iload_n dX12_moveAll_6 rfl 2 rfl ?_
  refine tm_iald (z := r) (v := σ.2.1 9 r) dX12_moveAll_7 (show mT[7]? = some (9, 0, 13) from rfl) (by omega) (by omega) (by decide) (rfl) ?_
  have g1 := RG.a hR 9 (r)
  refine tm_iconst dX12_moveAll_8 ?_
  refine tm_isub dX12_moveAll_9 ?_
  refine tm_istore_n (L' := [(3, .int (iI ((σ.2.1 9 r) - 1))), (2, .int (iI 0)), (0, .ref b), (1, .int (iI r))]) dX12_moveAll_10 rfl (by decide) rfl ?_
  refine tm_sub [0, 1, 2, 3] rfl (l_mv1 (d) (σ0 := σ) (r := r) (F := F) hr hR hit hpar hnam hof (fun w12 p013 σ14 F5 R6 f7 f8 f9 f10 f11 => ?_) _ (0) ((σ.2.1 9 r) - 1) σ Fr.rfl hR (by omega) hok hcd hlex hlm XR.rfl rfl)
  show Tm _ _ 226 b σ14 [(3, .int (iI p013)), (2, .int (iI w12)), (0, .ref b), (1, .int (iI r))] [] _
  refine tm_iload_n dX12_moveAll_226 rfl 1 rfl ?_
  exact tm_iret rfl dX12_moveAll_227 (⟨_, rfl, (Fr.rfl.trans (Fr.sub F5 (by decide) (by decide) (by decide))), R6, f11, f7, f8, f9, f10⟩)
