set_option maxHeartbeats 1000000 in
set_option maxRecDepth 20000 in
theorem k_X11_printed_j (d : Nat) {T : CT} {σ : MS} {a : Nat} {i : Int} {rn : Nat} {xf : Nat} (ha : OB T a 11) (h_i : -2147483648 ≤ i ∧ i ≤ 2147483647) (hw : WT T σ) (hrn : σ.2.1 103 a = (rn : Int)) (hxf : σ.2.1 64 rn = (xf : Int)) : Tn (d + 2) m_X11_printed 0 T σ [(0, .ref a), (1, .int (iI i))] [] (fun ro T2 σ2 => ∃ v : Int, ro = some (.int (iI v)) ∧ T = T2 ∧ σ = σ2 ∧ (-2147483648 ≤ v ∧ v ≤ 2147483647) ∧ (PRB T σ rn xf i v)) := by
  refine tn_aload_n dX11_printed_0 rfl 0 rfl ?_
  have hk3 : (T rn).1 = 37 := ob_of (wf_103 hw ha) hrn
  have hk3o : OB T rn 7 := ⟨by omega, by rw [hk3]; rfl, by omega⟩
  refine tn_getR (ci := 11) (i := 8) (n := 103) (x := rn) dX11_printed_1 rfl lay_11 (by decide) fl11_83 ha rfl rfl (hrn) ?_
  refine tn_getI (ci := 7) (i := 1) (n := 56) (t := σ.2.1 56 rn) dX11_printed_4 rfl lay_7 (by decide) fl11_208 hk3o rfl rfl (rfl) ?_
  have g5 : ((-2147483648 : Int) ≤ σ.2.1 56 rn ∧ σ.2.1 56 rn ≤ 2147483647) := wf_56 hw hk3o
  refine tn_if_eq (tgt := 25) dX11_printed_7 (by decide) ⟨by omega, by omega⟩ (fun h6 => ?_) (fun h6 => ?_)
  · refine tn_iconst dX11_printed_25 ?_
    exact tn_iret rfl dX11_printed_26 ⟨_, rfl, rfl, rfl, by omega, (by first | (refine Or.inl ⟨⟨?_, ?_, ?_⟩, ?_⟩ <;> omega) | (refine Or.inr ⟨?_, ?_⟩ <;> omega))⟩
  · refine tn_iload_n dX11_printed_10 rfl 1 rfl ?_
    refine tn_if_lt (tgt := 25) dX11_printed_11 (by decide) ⟨by omega, by omega⟩ (fun h7 => ?_) (fun h7 => ?_)
    · refine tn_iconst dX11_printed_25 ?_
      exact tn_iret rfl dX11_printed_26 ⟨_, rfl, rfl, rfl, by omega, (by first | (refine Or.inl ⟨⟨?_, ?_, ?_⟩, ?_⟩ <;> omega) | (refine Or.inr ⟨?_, ?_⟩ <;> omega))⟩
    · refine tn_iload_n dX11_printed_14 rfl 1 rfl ?_
      refine tn_aload_n dX11_printed_15 rfl 0 rfl ?_
      refine tn_getR (ci := 11) (i := 8) (n := 103) (x := rn) dX11_printed_16 rfl lay_11 (by decide) fl11_83 ha rfl rfl (hrn) ?_
      refine tn_getI (ci := 7) (i := 10) (n := 65) (t := σ.2.1 65 rn) dX11_printed_19 rfl lay_7 (by decide) fl11_243 hk3o rfl rfl (rfl) ?_
      have g8 : ((-2147483648 : Int) ≤ σ.2.1 65 rn ∧ σ.2.1 65 rn ≤ 2147483647) := wf_65 hw hk3o
      refine tn_icmp_lt (tgt := 27) dX11_printed_22 (by decide) ⟨by omega, by omega⟩ ⟨by omega, by omega⟩ (fun h9 => ?_) (fun h9 => ?_)
      · refine tn_aload_n dX11_printed_27 rfl 0 rfl ?_
        refine tn_getR (ci := 11) (i := 8) (n := 103) (x := rn) dX11_printed_28 rfl lay_11 (by decide) fl11_83 ha rfl rfl (hrn) ?_
        obtain ⟨hk12, hl13⟩ : AR T xf 1 200 200 := ar_of (wf_64 hw hk3o) hxf
        have hk12i : IA T xf := by unfold IA; omega
        refine tn_getR (ci := 7) (i := 9) (n := 64) (x := xf) dX11_printed_31 rfl lay_7 (by decide) fl11_255 hk3o rfl rfl (hxf) ?_
        refine tn_iload_n dX11_printed_34 rfl 1 rfl ?_
        refine tn_callS (M := m_X11_printed) (pc := 35) (ix := 162) (M' := m_X11_at) (As := [.ref xf, .int (iI i)]) (rest := []) dX11_printed_35 ok_X11_at stt_X11_at ml11_162 np_X11_at rfl (Nat.le_of_ble_eq_true rfl) (Nat.le_of_ble_eq_true rfl) rfl (k_X11_at_j (d) (T := T) (σ := σ) (x := xf) (i := i) hk12i (by omega) (by omega) hw ) (fun r14 T16 σ15 gt17 hp => ?_)
        obtain ⟨v21, rfl, rfl, rfl, f18, f19, f20⟩ := hp
        clear gt17
        clear f19
        show Tn _ _ 38 T σ [(0, .ref a), (1, .int (iI i))] [.int (iI v21)] _
        exact tn_iret rfl dX11_printed_38 ⟨_, rfl, rfl, rfl, by omega, (by first | (refine Or.inl ⟨⟨?_, ?_, ?_⟩, ?_⟩ <;> omega) | (refine Or.inr ⟨?_, ?_⟩ <;> omega))⟩
      · refine tn_iconst dX11_printed_25 ?_
        exact tn_iret rfl dX11_printed_26 ⟨_, rfl, rfl, rfl, by omega, (by first | (refine Or.inl ⟨⟨?_, ?_, ?_⟩, ?_⟩ <;> omega) | (refine Or.inr ⟨?_, ?_⟩ <;> omega))⟩
