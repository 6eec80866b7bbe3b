theorem lv_X5_expression : ∀ (lv : Nat), ∀ (d : Nat) {T : CT} {σ : MS} {a : Nat} {dp : Int} {kp : Int} (ha : OB T a 5) (h_dp : -2147483648 ≤ dp ∧ dp ≤ 2147483647) (hw : WT T σ) (hdp : 0 ≤ dp ∧ dp ≤ 9) (hlv : 9 ≤ dp + (lv : Int)) (hkp : kp ≤ 150) (hrp : RP σ a kp), Tn (d + 5 * lv + 10) m_X5_expression 0 T σ [(0, .ref a), (1, .int (iI dp))] [] (fun ro T2 σ2 => ∃ v : Int, ro = some (.int (iI v)) ∧ WT T2 σ2 ∧ FrC T [5, 6, 7, 43, 44, 47, 50, 51, 84, 85, 86, 87, 521] σ σ2 ∧ (v = 0 ∨ v = 1) ∧ (RP σ2 a (kp - 4 * v))) := by
  intro lv
  induction lv with
  | zero =>
    intro d T σ a dp kp ha h_dp hw hdp hlv hkp hrp
    exact k_X5_expression_0 d ha h_dp hw (by omega) hkp hrp
  | succ lv ih =>
    intro d T σ a dp kp ha h_dp hw hdp hlv hkp hrp
    have e : d + 5 * (lv + 1) + 10 = d + 5 * lv + 15 := by omega
    rw [e]
    exact k_X5_expression_1 d (lv := lv) ha h_dp hw ih hdp (by omega) hkp hrp
theorem k_X5_expression : ∀ (d : Nat) {T : CT} {σ : MS} {a : Nat} {dp : Int} {kp : Int} (ha : OB T a 5) (h_dp : -2147483648 ≤ dp ∧ dp ≤ 2147483647) (hw : WT T σ) (hdp : 1 ≤ dp ∧ dp ≤ 9) (hkp : kp ≤ 150) (hrp : RP σ a kp), Tn (d + 50) m_X5_expression 0 T σ [(0, .ref a), (1, .int (iI dp))] [] (fun ro T2 σ2 => ∃ v : Int, ro = some (.int (iI v)) ∧ WT T2 σ2 ∧ FrC T [5, 6, 7, 43, 44, 47, 50, 51, 84, 85, 86, 87, 521] σ σ2 ∧ (v = 0 ∨ v = 1) ∧ (RP σ2 a (kp - 4 * v))) := by
  intro d T σ a dp kp ha h_dp hw hdp hkp hrp
  have e : d + 50 = d + 5 * 8 + 10 := by omega
  rw [e]
  exact lv_X5_expression 8 d ha h_dp hw (by omega) (by omega) hkp hrp
