set_option maxHeartbeats 1000000 in
set_option maxRecDepth 20000 in
theorem k_X7_stops_j (d : Nat) {T : CT} {σ : MS} {a : Nat} {p1 : Int} {p2 : Int} (ha : OB T a 7) (h_p1 : -2147483648 ≤ p1 ∧ p1 ≤ 2147483647) (h_p2 : -2147483648 ≤ p2 ∧ p2 ≤ 2147483647) (hw : WT T σ) : Tn (d + 1) m_X7_stops 0 T σ [(0, .ref a), (1, .int (iI p1)), (2, .int (iI p2))] [] (fun ro T2 σ2 => ∃ v : Int, ro = some (.int (iI v)) ∧ T = T2 ∧ σ = σ2 ∧ (v = 0 ∨ v = 1) ∧ ((v = 1 ∧ cST p1 p2 (σ.2.1 58 a)) ∨ (v = 0 ∧ ¬ cST p1 p2 (σ.2.1 58 a)))) := by
  refine tn_iload_n dX7_stops_0 rfl 1 rfl ?_
  refine tn_if_ne (tgt := 6) dX7_stops_1 (by decide) ⟨by omega, by omega⟩ (fun h1 => ?_) (fun h1 => ?_)
  · refine tn_iload_n dX7_stops_6 rfl 1 rfl ?_
    refine tn_iconst dX7_stops_7 ?_
    refine tn_icmp_ne (tgt := 27) dX7_stops_8 (by decide) ⟨by omega, by omega⟩ ⟨by decide, by decide⟩ (fun h2 => ?_) (fun h2 => ?_)
    · refine tn_aload_n dX7_stops_27 rfl 0 rfl ?_
      refine tn_getI (ci := 7) (i := 3) (n := 58) (t := σ.2.1 58 a) dX7_stops_28 rfl lay_7 (by decide) fl7_38 ha rfl rfl (rfl) ?_
      have g3 : ((-2147483648 : Int) ≤ σ.2.1 58 a ∧ σ.2.1 58 a ≤ 2147483647) := wf_58 hw ha
      refine tn_iload_n dX7_stops_31 rfl 2 rfl ?_
      refine tn_icmp_ge (tgt := 39) dX7_stops_32 (by decide) ⟨by omega, by omega⟩ ⟨by omega, by omega⟩ (fun h4 => ?_) (fun h4 => ?_)
      · refine tn_iconst dX7_stops_39 ?_
        exact tn_zret (v := 0) rfl (by decide) dX7_stops_40 ⟨_, rfl, rfl, rfl, by omega, by unfold cST; omega⟩
      · refine tn_iconst dX7_stops_35 ?_
        refine tn_goto (tgt := 40) dX7_stops_36 (by decide) ?_
        exact tn_zret (v := 1) rfl (by decide) dX7_stops_40 ⟨_, rfl, rfl, rfl, by omega, by unfold cST; omega⟩
    · refine tn_aload_n dX7_stops_11 rfl 0 rfl ?_
      refine tn_getI (ci := 7) (i := 3) (n := 58) (t := σ.2.1 58 a) dX7_stops_12 rfl lay_7 (by decide) fl7_38 ha rfl rfl (rfl) ?_
      have g5 : ((-2147483648 : Int) ≤ σ.2.1 58 a ∧ σ.2.1 58 a ≤ 2147483647) := wf_58 hw ha
      refine tn_iload_n dX7_stops_15 rfl 2 rfl ?_
      refine tn_icmp_gt (tgt := 23) dX7_stops_16 (by decide) ⟨by omega, by omega⟩ ⟨by omega, by omega⟩ (fun h6 => ?_) (fun h6 => ?_)
      · refine tn_iconst dX7_stops_23 ?_
        refine tn_goto (tgt := 40) dX7_stops_24 (by decide) ?_
        exact tn_zret (v := 0) rfl (by decide) dX7_stops_40 ⟨_, rfl, rfl, rfl, by omega, by unfold cST; omega⟩
      · refine tn_iconst dX7_stops_19 ?_
        refine tn_goto (tgt := 40) dX7_stops_20 (by decide) ?_
        exact tn_zret (v := 1) rfl (by decide) dX7_stops_40 ⟨_, rfl, rfl, rfl, by omega, by unfold cST; omega⟩
  · refine tn_iconst dX7_stops_4 ?_
    exact tn_zret (v := 1) rfl (by decide) dX7_stops_5 ⟨_, rfl, rfl, rfl, by omega, by unfold cST; omega⟩
