set_option maxHeartbeats 4000000 in
set_option maxRecDepth 20000 in
theorem k_X9_nextIs_f (d : Nat) {T : CT} {σ : MS} {a : Nat} {s : Int} {Sx : Int → Int} {nx jx : Nat} (ha : OB T a 9) (h_s : -2147483648 ≤ s ∧ s ≤ 2147483647) (hw : WT T σ) (hq : TKT σ a Sx nx jx) (hne : σ.2.1 85 a ≠ 263 ∧ σ.2.1 85 a ≠ 264) : Tn (d + 2) m_X9_nextIs 0 T σ [(0, .ref a), (1, .int (iI s))] [] (fun ro T2 σ2 => ∃ v : Int, ro = some (.int (iI v)) ∧ T = T2 ∧ σ = σ2 ∧ (v = 0 ∨ v = 1) ∧ ((v = 1 → ckd (tkS Sx (jx + 1)) = s) ∧ (v = 0 → ckd (tkS Sx (jx + 1)) ≠ s))) := by
  have hj9 : jx ≠ nx := fun e => by
    have w9 := hq.2.2.2.2
    rw [← e] at w9
    have z9 := hq.2.1.1
    omega
  have hj8 := hq.1
  refine tn_aload_n dX9_nextIs_0 rfl 0 rfl ?_
  refine tn_getI (ci := 9) (i := 4) (n := 85) (t := σ.2.1 85 a) dX9_nextIs_1 rfl lay_9 (by decide) fl9_30 ha rfl rfl (rfl) ?_
  have g1 : ((-2147483648 : Int) ≤ σ.2.1 85 a ∧ σ.2.1 85 a ≤ 2147483647) := wf_85 hw ha
  refine tn_sipush dX9_nextIs_4 (by decide) ?_
  refine tn_icmp_eq (tgt := 41) dX9_nextIs_7 (by decide) ⟨by omega, by omega⟩ ⟨by decide, by decide⟩ (fun h2 => ?_) (fun h2 => ?_)
  · refine tn_iconst dX9_nextIs_41 ?_
    exact tn_zret (v := 0) rfl (by decide) dX9_nextIs_42 ⟨_, rfl, rfl, rfl, by omega, False.elim (by omega)⟩
  · refine tn_aload_n dX9_nextIs_10 rfl 0 rfl ?_
    refine tn_getI (ci := 9) (i := 4) (n := 85) (t := σ.2.1 85 a) dX9_nextIs_11 rfl lay_9 (by decide) fl9_30 ha rfl rfl (rfl) ?_
    refine tn_sipush dX9_nextIs_14 (by decide) ?_
    refine tn_icmp_eq (tgt := 41) dX9_nextIs_17 (by decide) ⟨by omega, by omega⟩ ⟨by decide, by decide⟩ (fun h3 => ?_) (fun h3 => ?_)
    · refine tn_iconst dX9_nextIs_41 ?_
      exact tn_zret (v := 0) rfl (by decide) dX9_nextIs_42 ⟨_, rfl, rfl, rfl, by omega, False.elim (by omega)⟩
    · refine tn_aload_n dX9_nextIs_20 rfl 0 rfl ?_
      obtain ⟨x4, hx5, hk6, hl7⟩ : ∃ x : Nat, σ.2.1 81 a = (x : Int) ∧ AR T x 12 1201 1201 := wf_81 hw ha
      have hk6i : IA T x4 := by unfold IA; omega
      refine tn_getR (ci := 9) (i := 0) (n := 81) (x := x4) dX9_nextIs_21 rfl lay_9 (by decide) fl9_9 ha rfl rfl (hx5) ?_
      refine tn_aload_n dX9_nextIs_24 rfl 0 rfl ?_
      refine tn_getI (ci := 9) (i := 3) (n := 84) (t := σ.2.1 84 a) dX9_nextIs_25 rfl lay_9 (by decide) fl9_45 ha rfl rfl (rfl) ?_
      have g8 : ((-1 : Int) ≤ σ.2.1 84 a ∧ σ.2.1 84 a ≤ 1200) := wf_84 hw ha
      refine tn_iconst dX9_nextIs_28 ?_
      refine tn_iadd dX9_nextIs_29 ?_
      refine tn_callSN (M := m_X9_nextIs) (pc := 30) (ix := 73) (M' := m_X11_at) (As := [.ref x4, .int (iI ((σ.2.1 84 a) + 1))]) (rest := []) dX9_nextIs_30 ok_X11_at stt_X11_at nl9_73 np_X11_at rfl (Nat.le_of_ble_eq_true rfl) (Nat.le_of_ble_eq_true rfl) rfl (k_X11_at (d) (T := T) (σ := σ) (x := x4) (i := (σ.2.1 84 a) + 1) hk6i (by omega) (by omega) hw ) (fun r9 T11 σ10 gt12 hp => ?_)
      obtain ⟨v16, rfl, rfl, rfl, f13, f14, f15⟩ := hp
      clear gt12
      show Tn _ _ 33 T σ [(0, .ref a), (1, .int (iI s))] [.int (iI v16)] _
      refine tn_iload_n dX9_nextIs_33 rfl 1 rfl ?_
      refine tn_icmp_ne (tgt := 41) dX9_nextIs_34 (by decide) ⟨by omega, by omega⟩ ⟨by omega, by omega⟩ (fun h17 => ?_) (fun h17 => ?_)
      · refine tn_iconst dX9_nextIs_41 ?_
        obtain ⟨x18, hx19, hk20, hl21⟩ : ∃ x : Nat, σ.2.1 82 a = (x : Int) ∧ AR T x 22 1201 1201 := wf_82 hw ha
        have hk20i : IA T x18 := by unfold IA; omega
        obtain ⟨x22, hx23, hk24, hl25⟩ : ∃ x : Nat, σ.2.1 83 a = (x : Int) ∧ AR T x 23 1201 1201 := wf_83 hw ha
        have hk24i : IA T x22 := by unfold IA; omega
        have w26j : jx + 1 ≤ nx := by omega
        have w26 := (hq.2.2.1 x4 x18 x22 hx5 hx19 hx23 (jx + 1) w26j).1
        have w26i : σ.2.1 84 a + 1 = ((jx + 1 : Nat) : Int) := by omega
        have w26v := f15; unfold ATV at w26v; rw [if_pos ⟨by omega, by omega⟩, w26i, w26] at w26v
        exact tn_zret (v := 0) rfl (by decide) dX9_nextIs_42 ⟨_, rfl, rfl, rfl, by omega, ⟨fun q => absurd q (by decide), fun _ => by omega⟩⟩
      · refine tn_iconst dX9_nextIs_37 ?_
        refine tn_goto (tgt := 42) dX9_nextIs_38 (by decide) ?_
        obtain ⟨x27, hx28, hk29, hl30⟩ : ∃ x : Nat, σ.2.1 82 a = (x : Int) ∧ AR T x 22 1201 1201 := wf_82 hw ha
        have hk29i : IA T x27 := by unfold IA; omega
        obtain ⟨x31, hx32, hk33, hl34⟩ : ∃ x : Nat, σ.2.1 83 a = (x : Int) ∧ AR T x 23 1201 1201 := wf_83 hw ha
        have hk33i : IA T x31 := by unfold IA; omega
        have w35j : jx + 1 ≤ nx := by omega
        have w35 := (hq.2.2.1 x4 x27 x31 hx5 hx28 hx32 (jx + 1) w35j).1
        have w35i : σ.2.1 84 a + 1 = ((jx + 1 : Nat) : Int) := by omega
        have w35v := f15; unfold ATV at w35v; rw [if_pos ⟨by omega, by omega⟩, w35i, w35] at w35v
        exact tn_zret (v := 1) rfl (by decide) dX9_nextIs_42 ⟨_, rfl, rfl, rfl, by omega, ⟨fun _ => by omega, fun q => absurd q (by decide)⟩⟩
