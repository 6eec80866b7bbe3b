theorem lvf_X5_expression : ∀ (lv : Nat), ∀ (d : Nat) {T : CT} {σ : MS} {a : Nat} {dp : Int} {kp : Int} {Sx : Int → Int} {nx jx : Nat} {cx : CS} {Nx : Int} {eo : Int} (ha : OB T a 5) (h_dp : -2147483648 ≤ dp ∧ dp ≤ 2147483647) (hw : WT T σ) (hdp : 1 ≤ dp ∧ dp ≤ 9) (hlv : 9 ≤ dp + (lv : Int)) (hfx : RDX σ a Sx nx jx cx Nx) (heo : eo = dp - 1) (hkp : kp ≤ 150) (hrp : RP σ a kp), Tn (d + 5 * lv + 10) m_X5_expression 0 T σ [(0, .ref a), (1, .int (iI dp))] [] (fun ro T2 σ2 => ∃ v : Int, ro = some (.int (iI v)) ∧ WT T2 σ2 ∧ FrC T [5, 6, 7, 43, 44, 47, 50, 51, 84, 85, 86, 87, 521] σ σ2 ∧ (v = 0 ∨ v = 1) ∧ (XQ σ2 a Sx nx (eo) [2] jx cx Nx v) ∧ (RP σ2 a (kp - 4 * v))) := by
  intro lv
  induction lv with
  | zero =>
    intro d T σ a dp kp Sx nx jx cx Nx eo ha h_dp hw hdp hlv hfx heo hkp hrp
    exact k_X5_expression_f0 d ha h_dp hw (by omega) hfx heo hkp hrp
  | succ lv ih =>
    intro d T σ a dp kp Sx nx jx cx Nx eo ha h_dp hw hdp hlv hfx heo hkp hrp
    have e : d + 5 * (lv + 1) + 10 = d + 5 * lv + 15 := by omega
    by_cases h9 : dp = 9
    · have e2 : d + 5 * (lv + 1) + 10 = (d + 5 * (lv + 1)) + 10 := rfl
      exact k_X5_expression_f0 (d + 5 * (lv + 1)) ha h_dp hw (by omega) hfx heo hkp hrp
    · rw [e]
      exact k_X5_expression_f1 d (lv := lv) ha h_dp hw ih (by omega) (by omega) hfx heo hkp hrp
theorem k_X5_expression_f : ∀ (d : Nat) {T : CT} {σ : MS} {a : Nat} {dp : Int} {kp : Int} {Sx : Int → Int} {nx jx : Nat} {cx : CS} {Nx : Int} {eo : Int} (ha : OB T a 5) (h_dp : -2147483648 ≤ dp ∧ dp ≤ 2147483647) (hw : WT T σ) (hdp : 1 ≤ dp ∧ dp ≤ 9) (hfx : RDX σ a Sx nx jx cx Nx) (heo : eo = dp - 1) (hkp : kp ≤ 150) (hrp : RP σ a kp), Tn (d + 50) m_X5_expression 0 T σ [(0, .ref a), (1, .int (iI dp))] [] (fun ro T2 σ2 => ∃ v : Int, ro = some (.int (iI v)) ∧ WT T2 σ2 ∧ FrC T [5, 6, 7, 43, 44, 47, 50, 51, 84, 85, 86, 87, 521] σ σ2 ∧ (v = 0 ∨ v = 1) ∧ (XQ σ2 a Sx nx (eo) [2] jx cx Nx v) ∧ (RP σ2 a (kp - 4 * v))) := by
  intro d T σ a dp kp Sx nx jx cx Nx eo ha h_dp hw hdp hfx heo hkp hrp
  have e : d + 50 = d + 5 * 8 + 10 := by omega
  rw [e]
  exact lvf_X5_expression 8 d ha h_dp hw (by omega) (by omega) hfx heo hkp hrp
