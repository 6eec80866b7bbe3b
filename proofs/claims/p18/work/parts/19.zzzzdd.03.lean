section
set_option maxHeartbeats 1000000 in
set_option maxRecDepth 20000 in
theorem k_X7_foundSlot_t (d : Nat) {T : CT} {σ : MS} {a : Nat} {p1 : Nat} {xa : Nat} {xb : Nat} {y : Nat} {c : Nat} (ha : OB T a 7) (h_p1 : OB T p1 10) (hw : WT T σ) (hxa : σ.2.1 59 a = (xa : Int)) (hxb : σ.2.1 60 a = (xb : Int)) (hy : σ.2.1 55 a = (y : Int)) (hc : jC σ y (jA T xa (σ.2.1 70 a) σ) = (c : Int)) (h71 : 0 ≤ σ.2.1 71 a ∧ σ.2.1 71 a ≤ 12) (h60 : 0 ≤ jA T xb (σ.2.1 70 a) σ ∧ jA T xb (σ.2.1 70 a) σ ≤ 200) : Tn (d + 3) m_X7_foundSlot 0 T σ [(0, .ref a), (1, .ref p1)] [] (fun ro T2 σ2 => ∃ v : Int, ro = some (.int (iI v)) ∧ T = T2 ∧ σ = σ2 ∧ (-2147483648 ≤ v ∧ v ≤ 2147483647) ∧ (v = jA T xb (σ.2.1 70 a) σ * slF (rwF σ 14 c) (σ.2.1 10 c) + slF (rwF σ 14 c) (σ.2.1 71 a)) ∧ (0 ≤ v ∧ v ≤ 29145)) := by
  refine tn_aload_n dX7_foundSlot_0 rfl 1 rfl ?_
  refine tn_aload_n dX7_foundSlot_1 rfl 0 rfl ?_
  obtain ⟨hk3, hl4⟩ : AR T xa 15 9 9 := ar_of (wf_59 hw ha) hxa
  have hk3i : IA T xa := by unfold IA; omega
  obtain ⟨hl8, hk7a, hk7b⟩ := ex_at (wf_55 hw ha) hy
  have hk7i : (T y).1 = 4 ∨ (T y).1 = 5 := by omega
  have hk7c : RROW T a y := ⟨hk7a, hk7b⟩
  clear hk7a hk7b
  refine tn_callV (M := m_X7_foundSlot) (pc := 2) (ix := 152) (ci := 7) (M' := m_X7_foundCode) (As := []) (rest := [.ref p1]) dX7_foundSlot_2 ok_X7_foundCode im_X7_foundCode se_X7_foundCode ml7_152 np_X7_foundCode rfl rfl ha rfl (Nat.le_of_ble_eq_true rfl) (Nat.le_of_ble_eq_true rfl) rfl (k_X7_foundCode_j (d) (T := T) (σ := σ) (a := a) (xa := xa) (y := y) ha hw (hxa) (hy)) (fun r9 T11 σ10 gt12 hp => ?_)
  obtain ⟨v15, rfl, rfl, rfl, rv16, f13, f14⟩ := hp
  clear gt12
  rcases rv16 with rv16 | ⟨xq17, rfl, hk18⟩
  · exact absurd (JW.neg f14 rv16) (by omega)
  · show Tn _ _ 5 T σ [(0, .ref a), (1, .ref p1)] (vl true (xq17 : Int) :: [.ref p1]) _
    rw [vl_ref rfl]
    have hk18o : OB T xq17 1 := hk18.1
    refine tn_aload_n dX7_foundSlot_5 rfl 0 rfl ?_
    obtain ⟨hk21, hl22⟩ : AR T xb 1 9 9 := ar_of (wf_60 hw ha) hxb
    have hk21i : IA T xb := by unfold IA; omega
    refine tn_getR (ci := 7) (i := 5) (n := 60) (x := xb) dX7_foundSlot_6 rfl lay_7 (by decide) fl7_15 ha rfl rfl (hxb) ?_
    refine tn_aload_n dX7_foundSlot_9 rfl 0 rfl ?_
    refine tn_getI (ci := 7) (i := 15) (n := 70) (t := σ.2.1 70 a) dX7_foundSlot_10 rfl lay_7 (by decide) fl7_143 ha rfl rfl (rfl) ?_
    have g23 : ((-2147483648 : Int) ≤ σ.2.1 70 a ∧ σ.2.1 70 a ≤ 2147483647) := wf_70 hw ha
    refine tn_callSN (M := m_X7_foundSlot) (pc := 13) (ix := 91) (M' := m_X11_at) (As := [.ref xb, .int (iI (σ.2.1 70 a))]) (rest := [.ref xq17, .ref p1]) dX7_foundSlot_13 ok_X11_at stt_X11_at nl7_91 np_X11_at rfl (Nat.le_of_ble_eq_true rfl) (Nat.le_of_ble_eq_true rfl) rfl (k_X11_at_j (d + 1) (T := T) (σ := σ) (x := xb) (i := σ.2.1 70 a) hk21i (by omega) (by omega) hw ) (fun r24 T26 σ25 gt27 hp => ?_)
    obtain ⟨v31, rfl, rfl, rfl, f28, f29, f30⟩ := hp
    clear gt27
    clear f29
    show Tn _ _ 16 T σ [(0, .ref a), (1, .ref p1)] [.int (iI v31), .ref xq17, .ref p1] _
    refine tn_aload_n dX7_foundSlot_16 rfl 0 rfl ?_
    refine tn_getI (ci := 7) (i := 16) (n := 71) (t := σ.2.1 71 a) dX7_foundSlot_17 rfl lay_7 (by decide) fl7_146 ha rfl rfl (rfl) ?_
    have g32 : ((-2147483648 : Int) ≤ σ.2.1 71 a ∧ σ.2.1 71 a ≤ 2147483647) := wf_71 hw ha
    obtain ⟨xq33, hx34, hk35, hl36⟩ : ∃ x : Nat, σ.2.1 14 xq17 = (x : Int) ∧ AR T x 11 12 12 := wf_14 hw hk18o
    have hk35i : IA T xq33 := by unfold IA; omega
    refine tn_callV (M := m_X7_foundSlot) (pc := 20) (ix := 162) (ci := 10) (M' := m_X10_slotAt) (As := [.ref xq17, .int (iI v31), .int (iI (σ.2.1 71 a))]) (rest := []) dX7_foundSlot_20 ok_X10_slotAt im_X10_slotAt se_X10_slotAt ml7_162 np_X10_slotAt rfl rfl h_p1 rfl (Nat.le_of_ble_eq_true rfl) (Nat.le_of_ble_eq_true rfl) rfl (k_X10_slotAt_t (d) (T := T) (σ := σ) (a := p1) (c := xq17) (k := v31) (f := σ.2.1 71 a) (xn := xq33) (Rn := σ.2.1 (1000 + xq33)) (Fr := σ.2.1 10 xq17) h_p1 hk18o (by omega) (by omega) hw (hx34) rfl (rfl) (by omega) (by rw [f30]; exact h60)) (fun r37 T39 σ38 gt40 hp => ?_)
    obtain ⟨v44, rfl, rfl, rfl, f41, f42, f43⟩ := hp
    clear gt40
    show Tn _ _ 23 T σ [(0, .ref a), (1, .ref p1)] [.int (iI v44)] _
    exact tn_iret rfl dX7_foundSlot_23 ⟨_, rfl, rfl, rfl, by omega, by have ex : xq17 = c := (by have z9 := JW.pos f14 (Int.natCast_nonneg _); omega); rw [← ex]; unfold rwF; rw [adN_of hx34, ← f30]; exact f42, f43⟩
end
