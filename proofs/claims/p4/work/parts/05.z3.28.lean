theorem lv_X5_block : ∀ (lv : Nat), ∀ (d : Nat) {T : CT} {σ : MS} {a : Nat} {dp : Int} {kp : Int} (ha : OB T a 5) (h_dp : -2147483648 ≤ dp ∧ dp ≤ 2147483647) (hw : WT T σ) (hdp : 0 ≤ dp ∧ dp ≤ 7) (hlv : 7 ≤ dp + (lv : Int)) (hkp : kp ≤ 140) (hrp : RP σ a kp), Tn (d + 3 * lv + 60) m_X5_block 0 T σ [(0, .ref a), (1, .int (iI dp))] [] (fun ro T2 σ2 => ∃ v : Int, ro = some (.int (iI v)) ∧ WT T2 σ2 ∧ FrC T [5, 6, 7, 9, 42, 43, 44, 45, 46, 47, 50, 51, 84, 85, 86, 87, 518, 519, 520, 521] σ σ2 ∧ (v = 0 ∨ v = 1) ∧ (RP σ2 a (kp + 2 - 10 * v))) := by
  intro lv
  induction lv with
  | zero =>
    intro d T σ a dp kp ha h_dp hw hdp hlv hkp hrp
    exact k_X5_block_0 d ha h_dp hw (by omega) hkp hrp
  | succ lv ih =>
    intro d T σ a dp kp ha h_dp hw hdp hlv hkp hrp
    have e : d + 3 * (lv + 1) + 60 = d + 3 * lv + 63 := by omega
    rw [e]
    exact k_X5_block_1 d (lv := lv) ha h_dp hw ih hdp (by omega) hkp hrp
theorem k_X5_block : ∀ (d : Nat) {T : CT} {σ : MS} {a : Nat} {dp : Int} {kp : Int} (ha : OB T a 5) (h_dp : -2147483648 ≤ dp ∧ dp ≤ 2147483647) (hw : WT T σ) (hdp : 1 ≤ dp ∧ dp ≤ 7) (hkp : kp ≤ 140) (hrp : RP σ a kp), Tn (d + 78) m_X5_block 0 T σ [(0, .ref a), (1, .int (iI dp))] [] (fun ro T2 σ2 => ∃ v : Int, ro = some (.int (iI v)) ∧ WT T2 σ2 ∧ FrC T [5, 6, 7, 9, 42, 43, 44, 45, 46, 47, 50, 51, 84, 85, 86, 87, 518, 519, 520, 521] σ σ2 ∧ (v = 0 ∨ v = 1) ∧ (RP σ2 a (kp + 2 - 10 * v))) := by
  intro d T σ a dp kp ha h_dp hw hdp hkp hrp
  have e : d + 78 = d + 3 * 6 + 60 := by omega
  rw [e]
  exact lv_X5_block 6 d ha h_dp hw (by omega) (by omega) hkp hrp
