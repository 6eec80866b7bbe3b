section
set_option maxHeartbeats 1000000 in
set_option maxRecDepth 20000 in
theorem k_X10_idIn_t (d : Nat) {T : CT} {σ : MS} {a : Nat} {p1 : Int} {p2 : Int} (ha : OB T a 10) (h_p1 : -2147483648 ≤ p1 ∧ p1 ≤ 2147483647) (h_p2 : -2147483648 ≤ p2 ∧ p2 ≤ 2147483647) (hw : WT T σ) : Tn (d + 2) m_X10_idIn 0 T σ [(0, .ref a), (1, .int (iI p1)), (2, .int (iI p2))] [] (fun ro T2 σ2 => ∃ v : Int, ro = some (.int (iI v)) ∧ T = T2 ∧ σ = σ2 ∧ (-2147483648 ≤ v ∧ v ≤ 2147483647) ∧ (v = jI T σ p1 p2)) := by
  refine tn_iload_n dX10_idIn_0 rfl 1 rfl ?_
  refine tn_if_lt (tgt := 26) dX10_idIn_1 (by decide) ⟨by omega, by omega⟩ (fun h1 => ?_) (fun h1 => ?_)
  · refine tn_iconst dX10_idIn_26 ?_
    refine tn_istore_n (L' := [(3, .int (iI 0)), (0, .ref a), (1, .int (iI p1)), (2, .int (iI p2))]) dX10_idIn_27 rfl (by decide) rfl ?_
    refine tn_iload_n dX10_idIn_28 rfl 0 rfl ?_
    refine tn_if_ne (tgt := 36) dX10_idIn_29 (by decide) ⟨by decide, by decide⟩ (fun h => absurd h (by decide)) (fun _ => ?_)
    refine tn_iconst dX10_idIn_32 ?_
    refine tn_goto (tgt := 37) dX10_idIn_33 (by decide) ?_
    exact tn_iret rfl dX10_idIn_37 ⟨_, rfl, rfl, rfl, by omega, by unfold jI; rw [if_neg (by omega)]⟩
  · refine tn_iload_n dX10_idIn_4 rfl 1 rfl ?_
    refine tn_aload_n dX10_idIn_5 rfl 0 rfl ?_
    obtain ⟨xq3, hx4, hk5, hl6⟩ : ∃ x : Nat, σ.2.1 88 a = (x : Int) ∧ AR T x 7 6 6 := wf_88 hw ha
    refine tn_getR (ci := 10) (i := 0) (n := 88) (x := xq3) dX10_idIn_6 rfl lay_10 (by decide) fl10_11 ha rfl rfl (hx4) ?_
    refine tn_alenX dX10_idIn_9 (Or.inr (Or.inr (Or.inr (Or.inr (Or.inr hk5))))) ?_
    refine tn_icmp_ge (tgt := 26) dX10_idIn_10 (by decide) ⟨by omega, by omega⟩ ⟨by omega, by omega⟩ (fun h7 => ?_) (fun h7 => ?_)
    · refine tn_iconst dX10_idIn_26 ?_
      refine tn_istore_n (L' := [(3, .int (iI 0)), (0, .ref a), (1, .int (iI p1)), (2, .int (iI p2))]) dX10_idIn_27 rfl (by decide) rfl ?_
      refine tn_iload_n dX10_idIn_28 rfl 0 rfl ?_
      refine tn_if_ne (tgt := 36) dX10_idIn_29 (by decide) ⟨by decide, by decide⟩ (fun h => absurd h (by decide)) (fun _ => ?_)
      refine tn_iconst dX10_idIn_32 ?_
      refine tn_goto (tgt := 37) dX10_idIn_33 (by decide) ?_
      exact tn_iret rfl dX10_idIn_37 ⟨_, rfl, rfl, rfl, by omega, by unfold jI; rw [if_neg (by omega)]⟩
    · refine tn_aload_n dX10_idIn_13 rfl 0 rfl ?_
      refine tn_getR (ci := 10) (i := 0) (n := 88) (x := xq3) dX10_idIn_14 rfl lay_10 (by decide) fl10_11 ha rfl rfl (hx4) ?_
      refine tn_iload_n dX10_idIn_17 rfl 1 rfl ?_
      rcases hw.2.2.2.2.1.2 (p1) (by omega) (by omega) with hx9 | ⟨xq10, hx9, hk11, hl12⟩
      · refine tn_aaldMN (z := p1) dX10_idIn_18 hk5 (by omega) (by omega) (by omega) (Int.lt_of_le_of_lt (Int.le_of_eq (Eq.refl _)) hx9) ?_
        refine tn_iload_n dX10_idIn_19 rfl 2 rfl ?_
        refine tn_callSN (M := m_X10_idIn) (pc := 20) (ix := 40) (M' := m_X11_at) (As := [.null, .int (iI p2)]) (rest := []) dX10_idIn_20 ok_X11_at stt_X11_at nl10_40 np_X11_at rfl (Nat.le_of_ble_eq_true rfl) (Nat.le_of_ble_eq_true rfl) rfl (k_X11_at_0 (d) (T := T) (σ := σ) (i := p2) (by omega) hw ) (fun r13 T15 σ14 gt16 hp => ?_)
        obtain ⟨v18, rfl, rfl, rfl, f17⟩ := hp
        clear gt16
        show Tn _ _ 23 T σ [(0, .ref a), (1, .int (iI p1)), (2, .int (iI p2))] [.int (iI v18)] _
        refine tn_goto (tgt := 27) dX10_idIn_23 (by decide) ?_
        refine tn_istore_n (L' := [(3, .int (iI v18)), (0, .ref a), (1, .int (iI p1)), (2, .int (iI p2))]) dX10_idIn_27 rfl (by decide) rfl ?_
        refine tn_iload_n dX10_idIn_28 rfl 0 rfl ?_
        refine tn_if_ne (tgt := 36) dX10_idIn_29 (by decide) ⟨by omega, by omega⟩ (fun h19 => absurd h19 (by omega)) (fun h19 => ?_)
        refine tn_iconst dX10_idIn_32 ?_
        refine tn_goto (tgt := 37) dX10_idIn_33 (by decide) ?_
        exact tn_iret rfl dX10_idIn_37 ⟨_, rfl, rfl, rfl, by omega, by have z9 := hx9; unfold jI; rw [if_neg (by omega)]⟩
      · refine tn_aaldM (z := p1) (x := xq10) dX10_idIn_18 hk5 (by omega) (by omega) (by omega) (hx9) ?_
        have hk11i : IA T xq10 := by unfold IA; omega
        refine tn_iload_n dX10_idIn_19 rfl 2 rfl ?_
        refine tn_callSN (M := m_X10_idIn) (pc := 20) (ix := 40) (M' := m_X11_at) (As := [.ref xq10, .int (iI p2)]) (rest := []) dX10_idIn_20 ok_X11_at stt_X11_at nl10_40 np_X11_at rfl (Nat.le_of_ble_eq_true rfl) (Nat.le_of_ble_eq_true rfl) rfl (k_X11_at_j (d) (T := T) (σ := σ) (x := xq10) (i := p2) hk11i (by omega) (by omega) hw ) (fun r20 T22 σ21 gt23 hp => ?_)
        obtain ⟨v27, rfl, rfl, rfl, f24, f25, f26⟩ := hp
        clear gt23
        clear f25
        show Tn _ _ 23 T σ [(0, .ref a), (1, .int (iI p1)), (2, .int (iI p2))] [.int (iI v27)] _
        refine tn_goto (tgt := 27) dX10_idIn_23 (by decide) ?_
        refine tn_istore_n (L' := [(3, .int (iI v27)), (0, .ref a), (1, .int (iI p1)), (2, .int (iI p2))]) dX10_idIn_27 rfl (by decide) rfl ?_
        refine tn_iload_n dX10_idIn_28 rfl 0 rfl ?_
        refine tn_if_ne (tgt := 36) dX10_idIn_29 (by decide) ⟨by omega, by omega⟩ (fun h28 => ?_) (fun h28 => ?_)
        · refine tn_iload_n dX10_idIn_36 rfl 0 rfl ?_
          exact tn_iret rfl dX10_idIn_37 ⟨_, rfl, rfl, rfl, by omega, by unfold jI; rw [if_pos ⟨by omega, by omega⟩, show (σ.2.1 900 p1).toNat = xq10 by omega, ← f26, if_neg (by omega)]⟩
        · refine tn_iconst dX10_idIn_32 ?_
          refine tn_goto (tgt := 37) dX10_idIn_33 (by decide) ?_
          exact tn_iret rfl dX10_idIn_37 ⟨_, rfl, rfl, rfl, by omega, by unfold jI; rw [if_pos ⟨by omega, by omega⟩, show (σ.2.1 900 p1).toNat = xq10 by omega, ← f26, if_pos (by omega)]⟩
end
