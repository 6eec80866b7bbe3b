section
set_option maxHeartbeats 1000000 in
set_option maxRecDepth 20000 in
theorem k_X7_foundId_t (d : Nat) {T : CT} {σ : MS} {a : Nat} {p1 : Nat} {p2 : Int} {xa : Nat} {xb : Nat} {y : Nat} {c : Nat} (ha : OB T a 7) (h_p1 : OB T p1 10) (h_p2 : -2147483648 ≤ p2 ∧ p2 ≤ 2147483647) (hw : WT T σ) (hxa : σ.2.1 59 a = (xa : Int)) (hxb : σ.2.1 60 a = (xb : Int)) (hy : σ.2.1 55 a = (y : Int)) (hc : jC σ y (jA T xa (σ.2.1 70 a) σ) = (c : Int)) (h71 : 0 ≤ σ.2.1 71 a ∧ σ.2.1 71 a ≤ 12) (h60 : 0 ≤ jA T xb (σ.2.1 70 a) σ ∧ jA T xb (σ.2.1 70 a) σ ≤ 200) (hm : 0 ≤ p2 ∧ p2 ≤ 12) : Tn (d + 4) m_X7_foundId 0 T σ [(0, .ref a), (1, .ref p1), (2, .int (iI p2))] [] (fun ro T2 σ2 => ∃ v : Int, ro = some (.int (iI v)) ∧ T = T2 ∧ σ = σ2 ∧ (-2147483648 ≤ v ∧ v ≤ 2147483647) ∧ (v = jID T σ a xa xb c p2)) := by
  refine tn_aload_n dX7_foundId_0 rfl 1 rfl ?_
  refine tn_aload_n dX7_foundId_1 rfl 0 rfl ?_
  obtain ⟨hk3, hl4⟩ : AR T xa 15 9 9 := ar_of (wf_59 hw ha) hxa
  have hk3i : IA T xa := by unfold IA; omega
  refine tn_callV (M := m_X7_foundId) (pc := 2) (ix := 168) (ci := 7) (M' := m_X7_foundSource) (As := []) (rest := [.ref p1]) dX7_foundId_2 ok_X7_foundSource im_X7_foundSource se_X7_foundSource ml7_168 np_X7_foundSource rfl rfl ha rfl (Nat.le_of_ble_eq_true rfl) (Nat.le_of_ble_eq_true rfl) rfl (k_X7_foundSource_t (d + 1) (T := T) (σ := σ) (a := a) (xa := xa) ha hw (hxa)) (fun r5 T7 σ6 gt8 hp => ?_)
  obtain ⟨v11, rfl, rfl, rfl, f9, f10⟩ := hp
  clear gt8
  show Tn _ _ 5 T σ [(0, .ref a), (1, .ref p1), (2, .int (iI p2))] [.int (iI v11), .ref p1] _
  refine tn_aload_n dX7_foundId_5 rfl 0 rfl ?_
  refine tn_aload_n dX7_foundId_6 rfl 1 rfl ?_
  obtain ⟨hk14, hl15⟩ : AR T xb 1 9 9 := ar_of (wf_60 hw ha) hxb
  have hk14i : IA T xb := by unfold IA; omega
  obtain ⟨hl19, hk18a, hk18b⟩ := ex_at (wf_55 hw ha) hy
  have hk18i : (T y).1 = 4 ∨ (T y).1 = 5 := by omega
  have hk18c : RROW T a y := ⟨hk18a, hk18b⟩
  clear hk18a hk18b
  refine tn_callV (M := m_X7_foundId) (pc := 7) (ix := 171) (ci := 7) (M' := m_X7_foundSlot) (As := [.ref p1]) (rest := [.int (iI v11), .ref p1]) dX7_foundId_7 ok_X7_foundSlot im_X7_foundSlot se_X7_foundSlot ml7_171 np_X7_foundSlot rfl rfl ha rfl (Nat.le_of_ble_eq_true rfl) (Nat.le_of_ble_eq_true rfl) rfl (k_X7_foundSlot_t (d) (T := T) (σ := σ) (a := a) (p1 := p1) (xa := xa) (xb := xb) (y := y) (c := c) ha h_p1 hw (hxa) (hxb) (hy) hc h71 h60) (fun r20 T22 σ21 gt23 hp => ?_)
  obtain ⟨v27, rfl, rfl, rfl, f24, f25, f26⟩ := hp
  clear gt23
  show Tn _ _ 10 T σ [(0, .ref a), (1, .ref p1), (2, .int (iI p2))] [.int (iI v27), .int (iI v11), .ref p1] _
  refine tn_iload_n dX7_foundId_10 rfl 2 rfl ?_
  refine tn_iadd dX7_foundId_11 ?_
  refine tn_callV (M := m_X7_foundId) (pc := 12) (ix := 175) (ci := 10) (M' := m_X10_idIn) (As := [.int (iI v11), .int (iI (v27 + p2))]) (rest := []) dX7_foundId_12 ok_X10_idIn im_X10_idIn se_X10_idIn ml7_175 np_X10_idIn rfl rfl h_p1 rfl (Nat.le_of_ble_eq_true rfl) (Nat.le_of_ble_eq_true rfl) rfl (k_X10_idIn_t (d + 1) (T := T) (σ := σ) (a := p1) (p1 := v11) (p2 := v27 + p2) h_p1 (by omega) (by omega) hw ) (fun r28 T30 σ29 gt31 hp => ?_)
  obtain ⟨v34, rfl, rfl, rfl, f32, f33⟩ := hp
  clear gt31
  show Tn _ _ 15 T σ [(0, .ref a), (1, .ref p1), (2, .int (iI p2))] [.int (iI v34)] _
  exact tn_iret rfl dX7_foundId_15 ⟨_, rfl, rfl, rfl, by omega, by unfold jID; have z9 := f33; rw [f10, f25] at z9; exact z9⟩
end
