section
set_option maxHeartbeats 1000000 in
set_option maxRecDepth 20000 in
theorem k_X10_leans_t (d : Nat) {T : CT} {σ : MS} {a : Nat} {p1 : Nat} {p2 : Int} {p3 : Int} {x : Nat} {n : Int} {W : Int → It} {xh : Nat} {Rh : Int → Int} (ha : OB T a 10) (h_p1 : OB T p1 1) (t_p1 : (T p1).1 = 50) (h_p2 : -2147483648 ≤ p2 ∧ p2 ≤ 2147483647) (h_p3 : -2147483648 ≤ p3 ∧ p3 ≤ 2147483647) (hw : WT T σ) (hx : σ.2.1 5 p1 = (x : Int)) (hn : σ.2.1 6 p1 = n) (hW : cW σ x n = W) (hxh : σ.2.1 15 p1 = (xh : Int)) (hRh : σ.2.1 (1000 + xh) = Rh) (hN : n ≤ 200) : Tn (d + 3) m_X10_leans 0 T σ [(0, .ref a), (1, .ref p1), (2, .int (iI p2)), (3, .int (iI p3))] [] (fun ro T2 σ2 => ∃ v : Int, ro = some (.int (iI v)) ∧ T = T2 ∧ σ = σ2 ∧ (v = 0 ∨ v = 1) ∧ ((v = 1 ∧ lnJ W n Rh p2 p3) ∨ (v = 0 ∧ ¬ lnJ W n Rh p2 p3))) := by
  refine tn_iload_n dX10_leans_0 rfl 2 rfl ?_
  refine tn_bipush dX10_leans_1 (by decide) ?_
  refine tn_icmp_ge (tgt := 8) dX10_leans_3 (by decide) ⟨by omega, by omega⟩ ⟨by decide, by decide⟩ (fun h1 => ?_) (fun h1 => ?_)
  · refine tn_iload_n dX10_leans_8 rfl 2 rfl ?_
    refine tn_bipush dX10_leans_9 (by decide) ?_
    refine tn_icmp_ge (tgt := 35) dX10_leans_11 (by decide) ⟨by omega, by omega⟩ ⟨by decide, by decide⟩ (fun h2 => ?_) (fun h2 => ?_)
    · refine tn_aload_n dX10_leans_35 rfl 1 rfl ?_
      refine tn_iload_n dX10_leans_36 rfl 2 rfl ?_
      refine tn_bipush dX10_leans_37 (by decide) ?_
      refine tn_isub dX10_leans_39 ?_
      refine tn_iload_n dX10_leans_40 rfl 3 rfl ?_
      obtain ⟨hl6, hk5a, hk5b⟩ := cel_of (wf_5 hw h_p1) hx
      have hk5 : (T x).1 = 1 := hk5a (by omega)
      clear hk5a hk5b
      have hk5i : IA T x := by unfold IA; omega
      refine tn_callV (M := m_X10_leans) (pc := 41) (ix := 117) (ci := 1) (M' := m_X1_leansOn) (As := [.int (iI (p2 - 10)), .int (iI p3)]) (rest := []) dX10_leans_41 ok_X1_leansOn im_X1_leansOn se_X1_leansOn ml10_117 np_X1_leansOn rfl rfl h_p1 rfl (Nat.le_of_ble_eq_true rfl) (Nat.le_of_ble_eq_true rfl) rfl (k_X1_leansOn_x (d) (T := T) (σ := σ) (a := p1) (k := p2 - 10) (r := p3) (x := x) (n := n) (W := W) h_p1 (by omega) (by omega) hw (hx) (hn) hW (by omega)) (fun r7 T9 σ8 gt10 hp => ?_)
      obtain ⟨v13, rfl, rfl, rfl, f11, f12⟩ := hp
      clear gt10
      show Tn _ _ 44 T σ [(0, .ref a), (1, .ref p1), (2, .int (iI p2)), (3, .int (iI p3))] [.int (iI v13)] _
      exact tn_zret (v := v13) rfl (by omega) dX10_leans_44 ⟨_, rfl, rfl, rfl, by omega, by have z := f12; unfold LNQ at z; rcases z with z | z; exact Or.inl ⟨z.1, by omega, Or.inr ⟨by omega, z.2⟩⟩; exact Or.inr ⟨z.1, fun y => y.2.elim (fun w => by have := w.1; omega) (fun w => z.2 w.2)⟩⟩
    · refine tn_aload_n dX10_leans_14 rfl 1 rfl ?_
      refine tn_iconst dX10_leans_15 ?_
      refine tn_iload_n dX10_leans_16 rfl 2 rfl ?_
      refine tn_bipush dX10_leans_17 (by decide) ?_
      refine tn_isub dX10_leans_19 ?_
      obtain ⟨hk16, hl17⟩ : AR T xh 1 144 144 := ar_of (wf_15 hw h_p1) hxh
      have hk16i : IA T xh := by unfold IA; omega
      refine tn_callV (M := m_X10_leans) (pc := 20) (ix := 47) (ci := 1) (M' := m_X1_homeOf) (As := [.int (iI 0), .int (iI (p2 - 6))]) (rest := []) dX10_leans_20 ok_X1_homeOf im_X1_homeOf se_X1_homeOf ml10_47 np_X1_homeOf rfl rfl h_p1 rfl (Nat.le_of_ble_eq_true rfl) (Nat.le_of_ble_eq_true rfl) rfl (k_X1_homeOf_x (d) (T := T) (σ := σ) (a := p1) (f := 0) (m := p2 - 6) (xh := xh) (Rh := Rh) h_p1 (by decide) (by omega) hw (hxh) hRh (by omega)) (fun r18 T20 σ19 gt21 hp => ?_)
      obtain ⟨v24, rfl, rfl, rfl, f22, f23⟩ := hp
      clear gt21
      show Tn _ _ 23 T σ [(0, .ref a), (1, .ref p1), (2, .int (iI p2)), (3, .int (iI p3))] [.int (iI v24)] _
      refine tn_iload_n dX10_leans_23 rfl 3 rfl ?_
      refine tn_icmp_ne (tgt := 31) dX10_leans_24 (by decide) ⟨by omega, by omega⟩ ⟨by omega, by omega⟩ (fun h25 => ?_) (fun h25 => ?_)
      · refine tn_iconst dX10_leans_31 ?_
        refine tn_goto (tgt := 44) dX10_leans_32 (by decide) ?_
        exact tn_zret (v := 0) rfl (by decide) dX10_leans_44 ⟨_, rfl, rfl, rfl, by omega, Or.inr ⟨rfl, fun y => by have z := f23; unfold ATQ at z; rw [show (12 : Int) * 0 + (p2 - 6) = p2 - 6 by omega] at z; have y2 := y.2; omega⟩⟩
      · refine tn_iconst dX10_leans_27 ?_
        refine tn_goto (tgt := 44) dX10_leans_28 (by decide) ?_
        exact tn_zret (v := 1) rfl (by decide) dX10_leans_44 ⟨_, rfl, rfl, rfl, by omega, Or.inl ⟨rfl, by omega, Or.inl ⟨by omega, by have z := f23; unfold ATQ at z; rw [show (12 : Int) * 0 + (p2 - 6) = p2 - 6 by omega] at z; omega⟩⟩⟩
  · refine tn_iconst dX10_leans_6 ?_
    exact tn_zret (v := 0) rfl (by decide) dX10_leans_7 ⟨_, rfl, rfl, rfl, by omega, Or.inr ⟨rfl, fun z => by have := z.1; omega⟩⟩
end
