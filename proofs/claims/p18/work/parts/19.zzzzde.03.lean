section
set_option maxHeartbeats 1000000 in
set_option maxRecDepth 20000 in
theorem k_X11_value_t9 (d : Nat) {T : CT} {σ : MS} {a : Nat} {k : Int} {m : Int} {rn : Nat} {tl : Nat} {xa : Nat} {xb : Nat} {y : Nat} {c : Nat} {xe : Nat} (ha : OB T a 11) (h_k : -2147483648 ≤ k ∧ k ≤ 2147483647) (h_m : -2147483648 ≤ m ∧ m ≤ 2147483647) (hw : WT T σ) (hrn : σ.2.1 103 a = (rn : Int)) (htl : σ.2.1 102 a = (tl : Int)) (hxa : σ.2.1 59 rn = (xa : Int)) (hxb : σ.2.1 60 rn = (xb : Int)) (hy : σ.2.1 55 rn = (y : Int)) (hxe : σ.2.1 63 rn = (xe : Int)) (hc : jC σ y (jA T xa (σ.2.1 70 rn) σ) = (c : Int)) (h71 : 0 ≤ σ.2.1 71 rn ∧ σ.2.1 71 rn ≤ 12) (h60 : 0 ≤ jA T xb (σ.2.1 70 rn) σ ∧ jA T xb (σ.2.1 70 rn) σ ≤ 200) (hm : 0 ≤ m ∧ m ≤ 12) (hid : 0 ≤ jID T σ rn xa xb c m ∧ jID T σ rn xa xb c m ≤ 1000) : Tn (d + 6) m_X11_value 49 T σ [(0, .ref a), (1, .int (iI k)), (2, .int (iI m))] [] (fun ro T2 σ2 => ∃ v : Int, ro = some (.int (iI v)) ∧ T = T2 ∧ σ = σ2 ∧ (-2147483648 ≤ v ∧ v ≤ 2147483647) ∧ (v = jFV T σ rn c (adN σ 5 c) (adN σ 15 c) xe (jID T σ rn xa xb c m))) := by
  refine tn_aload_n dX11_value_49 rfl 0 rfl ?_
  have hk3 : (T rn).1 = 37 := ob_of (wf_103 hw ha) hrn
  have hk3o : OB T rn 7 := ⟨by omega, by rw [hk3]; rfl, by omega⟩
  refine tn_getR (ci := 11) (i := 8) (n := 103) (x := rn) dX11_value_50 rfl lay_11 (by decide) fl11_83 ha rfl rfl (hrn) ?_
  refine tn_aload_n dX11_value_53 rfl 0 rfl ?_
  have hk7 : (T tl).1 = 40 := ob_of (wf_102 hw ha) htl
  have hk7o : OB T tl 10 := ⟨by omega, by rw [hk7]; rfl, by omega⟩
  refine tn_getR (ci := 11) (i := 7) (n := 102) (x := tl) dX11_value_54 rfl lay_11 (by decide) fl11_39 ha rfl rfl (htl) ?_
  refine tn_aload_n dX11_value_57 rfl 0 rfl ?_
  refine tn_getR (ci := 11) (i := 8) (n := 103) (x := rn) dX11_value_58 rfl lay_11 (by decide) fl11_83 ha rfl rfl (hrn) ?_
  refine tn_aload_n dX11_value_61 rfl 0 rfl ?_
  refine tn_getR (ci := 11) (i := 7) (n := 102) (x := tl) dX11_value_62 rfl lay_11 (by decide) fl11_39 ha rfl rfl (htl) ?_
  refine tn_iload_n dX11_value_65 rfl 2 rfl ?_
  obtain ⟨hk11, hl12⟩ : AR T xa 15 9 9 := ar_of (wf_59 hw hk3o) hxa
  have hk11i : IA T xa := by unfold IA; omega
  obtain ⟨hk15, hl16⟩ : AR T xb 1 9 9 := ar_of (wf_60 hw hk3o) hxb
  have hk15i : IA T xb := by unfold IA; omega
  obtain ⟨hl20, hk19a, hk19b⟩ := ex_at (wf_55 hw hk3o) hy
  have hk19i : (T y).1 = 4 ∨ (T y).1 = 5 := by omega
  have hk19c : RROW T rn y := ⟨hk19a, hk19b⟩
  clear hk19a hk19b
  refine tn_callV (M := m_X11_value) (pc := 66) (ix := 234) (ci := 7) (M' := m_X7_foundId) (As := [.ref tl, .int (iI m)]) (rest := [.ref tl, .ref rn]) dX11_value_66 ok_X7_foundId im_X7_foundId se_X7_foundId ml11_234 np_X7_foundId rfl rfl hk3o rfl (Nat.le_of_ble_eq_true rfl) (Nat.le_of_ble_eq_true rfl) rfl (k_X7_foundId_t (d + 1) (T := T) (σ := σ) (a := rn) (p1 := tl) (p2 := m) (xa := xa) (xb := xb) (y := y) (c := c) hk3o hk7o (by omega) hw (hxa) (hxb) (hy) hc h71 h60 hm) (fun r21 T23 σ22 gt24 hp => ?_)
  obtain ⟨v27, rfl, rfl, rfl, f25, f26⟩ := hp
  clear gt24
  show Tn _ _ 69 T σ [(0, .ref a), (1, .int (iI k)), (2, .int (iI m))] [.int (iI v27), .ref tl, .ref rn] _
  obtain ⟨hk30, hl31⟩ : AR T xe 1 1728 1728 := ar_of (wf_63 hw hk3o) hxe
  have hk30i : IA T xe := by unfold IA; omega
  refine tn_callV (M := m_X11_value) (pc := 69) (ix := 238) (ci := 7) (M' := m_X7_foundValue) (As := [.ref tl, .int (iI v27)]) (rest := []) dX11_value_69 ok_X7_foundValue im_X7_foundValue se_X7_foundValue ml11_238 np_X7_foundValue rfl rfl hk3o rfl (Nat.le_of_ble_eq_true rfl) (Nat.le_of_ble_eq_true rfl) rfl (k_X7_foundValue_t (d + 1) (T := T) (σ := σ) (a := rn) (p1 := tl) (p2 := v27) (xa := xa) (y := y) (xe := xe) (c := c) hk3o hk7o (by omega) hw (hxa) (hy) (hxe) hc (by rw [f26]; exact hid)) (fun r32 T34 σ33 gt35 hp => ?_)
  obtain ⟨v38, rfl, rfl, rfl, f36, f37⟩ := hp
  clear gt35
  show Tn _ _ 72 T σ [(0, .ref a), (1, .int (iI k)), (2, .int (iI m))] [.int (iI v38)] _
  exact tn_iret rfl dX11_value_72 ⟨_, rfl, rfl, rfl, by omega, by have z9 := f37; rw [f26] at z9; exact z9⟩
end
