theorem lvf_X5_block : ∀ (lv : Nat), ∀ (d : Nat) {T : CT} {σ : MS} {a : Nat} {dp : Int} {kp : Int} {Sx : Int → Int} {nx jx : Nat} {cx : CS} {Nx : Int} {bx : Int} (ha : OB T a 5) (h_dp : -2147483648 ≤ dp ∧ dp ≤ 2147483647) (hw : WT T σ) (hdp : 1 ≤ dp ∧ dp ≤ 7) (hlv : 7 ≤ dp + (lv : Int)) (hfx : RDX σ a Sx nx jx cx Nx) (hb : bx = dp - 1) (hm : cx.m ≤ (jx : Int)) (hkp : kp ≤ 140) (hrp : RP σ a kp), Tn (d + 3 * lv + 60) m_X5_block 0 T σ [(0, .ref a), (1, .int (iI dp))] [] (fun ro T2 σ2 => ∃ v : Int, ro = some (.int (iI v)) ∧ WT T2 σ2 ∧ FrC T [5, 6, 7, 9, 42, 43, 44, 45, 46, 47, 50, 51, 84, 85, 86, 87, 518, 519, 520, 521] σ σ2 ∧ (v = 0 ∨ v = 1) ∧ (YQ σ2 a Sx nx bx [28] jx cx (Nx) 2 v) ∧ (RP σ2 a (kp + 2 - 10 * v))) := by
  intro lv
  induction lv with
  | zero =>
    intro d T σ a dp kp Sx nx jx cx Nx bx ha h_dp hw hdp hlv hfx hb hm hkp hrp
    exact k_X5_block_f0 d ha h_dp hw (by omega) hfx hb hm hkp hrp
  | succ lv ih =>
    intro d T σ a dp kp Sx nx jx cx Nx bx ha h_dp hw hdp hlv hfx hb hm hkp hrp
    have e : d + 3 * (lv + 1) + 60 = d + 3 * lv + 63 := by omega
    by_cases h9 : dp = 7
    · exact k_X5_block_f0 (d + 3 * (lv + 1)) ha h_dp hw (by omega) hfx hb hm hkp hrp
    · rw [e]
      exact k_X5_block_f1 d (lv := lv) ha h_dp hw ih (by omega) (by omega) hfx hb hm hkp hrp
theorem k_X5_block_f : ∀ (d : Nat) {T : CT} {σ : MS} {a : Nat} {dp : Int} {kp : Int} {Sx : Int → Int} {nx jx : Nat} {cx : CS} {Nx : Int} {bx : Int} (ha : OB T a 5) (h_dp : -2147483648 ≤ dp ∧ dp ≤ 2147483647) (hw : WT T σ) (hdp : 1 ≤ dp ∧ dp ≤ 7) (hfx : RDX σ a Sx nx jx cx Nx) (hb : bx = dp - 1) (hm : cx.m ≤ (jx : Int)) (hkp : kp ≤ 140) (hrp : RP σ a kp), Tn (d + 78) m_X5_block 0 T σ [(0, .ref a), (1, .int (iI dp))] [] (fun ro T2 σ2 => ∃ v : Int, ro = some (.int (iI v)) ∧ WT T2 σ2 ∧ FrC T [5, 6, 7, 9, 42, 43, 44, 45, 46, 47, 50, 51, 84, 85, 86, 87, 518, 519, 520, 521] σ σ2 ∧ (v = 0 ∨ v = 1) ∧ (YQ σ2 a Sx nx bx [28] jx cx (Nx) 2 v) ∧ (RP σ2 a (kp + 2 - 10 * v))) := by
  intro d T σ a dp kp Sx nx jx cx Nx bx ha h_dp hw hdp hfx hb hm hkp hrp
  have e : d + 78 = d + 3 * 6 + 60 := by omega
  rw [e]
  exact lvf_X5_block 6 d ha h_dp hw (by omega) (by omega) hfx hb hm hkp hrp
