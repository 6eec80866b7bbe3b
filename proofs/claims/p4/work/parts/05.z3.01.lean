theorem cd_X5_exchange : Cond.code yX5_exchange cX5_exchange 4 (some (.object "LineKeeper$Code")) ∈ pWW := pw4 (List.mem_of_getElem? (i := 23) rfl) rfl
theorem ini_5 : Cond.initialized RX5 ∈ pWW := pw1 (List.mem_of_getElem? (i := 2) rfl) rfl
abbrev m_X5_exchange : MT := (yX5_exchange, cX5_exchange, 4, (some (.object "LineKeeper$Code")))
theorem ok_X5_exchange : pOk m_X5_exchange := ⟨⟨cd_X5_exchange, ini_5⟩, by decide +kernel, ⟨by decide +kernel, by decide +kernel⟩, Nat.le_of_ble_eq_true rfl⟩
theorem np_X5_exchange : (parseMethodDescriptor yX5_exchange.desc).map (fun d => d.parameters.length) = some 2 := by decide +kernel
theorem im_X5_exchange : Cond.instanceMethod yX5_exchange ∈ pWW := pw4 (List.mem_of_getElem? (i := 21) rfl) rfl
theorem se_X5_exchange : Cond.selects RX5 yX5_exchange yX5_exchange ∈ pWW := pw4 (List.mem_of_getElem? (i := 22) rfl) rfl
theorem fl5_20 : Cond.fieldLink RX5 20 (TX5 1).1 (TX5 1).2.1 (TX5 1).2.2.1 ∈ pWW := pw1 (List.mem_of_getElem? (i := 154) rfl) rfl
theorem dX5_exchange_0 : decode cX5_exchange 0 = .ok (.iload_n 1, 1) := by decide +kernel
theorem dX5_exchange_1 : decode cX5_exchange 1 = .ok (.ifCond .lt 21, 3) := by decide +kernel
theorem dX5_exchange_22 : decode cX5_exchange 22 = .ok (.aload_n 2, 1) := by decide +kernel
theorem dX5_exchange_23 : decode cX5_exchange 23 = .ok (.areturn, 1) := by decide +kernel
theorem dX5_exchange_4 : decode cX5_exchange 4 = .ok (.iload_n 1, 1) := by decide +kernel
theorem dX5_exchange_5 : decode cX5_exchange 5 = .ok (.aload_n 0, 1) := by decide +kernel
theorem dX5_exchange_6 : decode cX5_exchange 6 = .ok (.getfield 20, 3) := by decide +kernel
theorem dX5_exchange_9 : decode cX5_exchange 9 = .ok (.arraylength, 1) := by decide +kernel
theorem dX5_exchange_10 : decode cX5_exchange 10 = .ok (.if_icmp .ge 12, 3) := by decide +kernel
theorem dX5_exchange_13 : decode cX5_exchange 13 = .ok (.aload_n 0, 1) := by decide +kernel
theorem dX5_exchange_14 : decode cX5_exchange 14 = .ok (.getfield 20, 3) := by decide +kernel
theorem dX5_exchange_17 : decode cX5_exchange 17 = .ok (.iload_n 1, 1) := by decide +kernel
theorem dX5_exchange_18 : decode cX5_exchange 18 = .ok (.aaload, 1) := by decide +kernel
theorem dX5_exchange_19 : decode cX5_exchange 19 = .ok (.ifnonnull 5, 3) := by decide +kernel
theorem dX5_exchange_24 : decode cX5_exchange 24 = .ok (.aload_n 0, 1) := by decide +kernel
theorem dX5_exchange_25 : decode cX5_exchange 25 = .ok (.getfield 20, 3) := by decide +kernel
theorem dX5_exchange_28 : decode cX5_exchange 28 = .ok (.iload_n 1, 1) := by decide +kernel
theorem dX5_exchange_29 : decode cX5_exchange 29 = .ok (.aaload, 1) := by decide +kernel
theorem dX5_exchange_30 : decode cX5_exchange 30 = .ok (.astore_n 3, 1) := by decide +kernel
theorem dX5_exchange_31 : decode cX5_exchange 31 = .ok (.aload_n 0, 1) := by decide +kernel
theorem dX5_exchange_32 : decode cX5_exchange 32 = .ok (.getfield 20, 3) := by decide +kernel
theorem dX5_exchange_35 : decode cX5_exchange 35 = .ok (.iload_n 1, 1) := by decide +kernel
theorem dX5_exchange_36 : decode cX5_exchange 36 = .ok (.aload_n 2, 1) := by decide +kernel
theorem dX5_exchange_37 : decode cX5_exchange 37 = .ok (.aastore, 1) := by decide +kernel
theorem dX5_exchange_38 : decode cX5_exchange 38 = .ok (.aload_n 3, 1) := by decide +kernel
theorem dX5_exchange_39 : decode cX5_exchange 39 = .ok (.areturn, 1) := by decide +kernel
set_option maxRecDepth 20000 in
theorem k_X5_exchange (d : Nat) {T : CT} {σ : MS} {a : Nat} {p1 : Int} {p2 : Nat} (ha : OB T a 5) (h_p1 : -2147483648 ≤ p1 ∧ p1 ≤ 2147483647) (h_p2 : OB T p2 1) (t_p2 : (T p2).1 = 31) (hw : WT T σ) : Tn (d + 1) m_X5_exchange 0 T σ [(0, .ref a), (1, .int (iI p1)), (2, .ref p2)] [] (fun ro T2 σ2 => ∃ v : Int, ro = some (vl true v) ∧ T = T2 ∧ WT T2 σ2 ∧ FrC T [] σ σ2 ∧ (∃ x : Nat, v = (x : Int) ∧ (T2 x).1 = 31)) := by
  refine tn_iload_n dX5_exchange_0 rfl 1 rfl ?_
  refine tn_if_lt (tgt := 22) dX5_exchange_1 (by decide) ⟨by omega, by omega⟩ (fun h1 => ?_) (fun h1 => ?_)
  · refine tn_aload_n dX5_exchange_22 rfl 2 rfl ?_
    exact tn_aret rfl (Or.inl ⟨_, rfl⟩) (Or.inr ⟨_, rfl⟩) dX5_exchange_23 ⟨(p2 : Int), congrArg some (vl_ref rfl).symm, rfl, hw, FrC.rfl, ⟨_, rfl, t_p2⟩⟩
  · refine tn_iload_n dX5_exchange_4 rfl 1 rfl ?_
    refine tn_aload_n dX5_exchange_5 rfl 0 rfl ?_
    obtain ⟨x2, hx3, hk4, hl5⟩ : ∃ x : Nat, σ.2.1 34 a = (x : Int) ∧ AR T x 4 7 7 := wf_34 hw ha
    have hk4i : (T x2).1 = 4 ∨ (T x2).1 = 5 := by omega
    refine tn_getR (ci := 5) (i := 1) (n := 34) (x := x2) dX5_exchange_6 rfl lay_5 (by decide) fl5_20 ha rfl rfl (hx3) ?_
    refine tn_alenX dX5_exchange_9 (by have q9 := hk4i; omega) ?_
    refine tn_icmp_ge (tgt := 22) dX5_exchange_10 (by decide) ⟨by omega, by omega⟩ ⟨by omega, by omega⟩ (fun h6 => ?_) (fun h6 => ?_)
    · refine tn_aload_n dX5_exchange_22 rfl 2 rfl ?_
      exact tn_aret rfl (Or.inl ⟨_, rfl⟩) (Or.inr ⟨_, rfl⟩) dX5_exchange_23 ⟨(p2 : Int), congrArg some (vl_ref rfl).symm, rfl, hw, FrC.rfl, ⟨_, rfl, t_p2⟩⟩
    · refine tn_aload_n dX5_exchange_13 rfl 0 rfl ?_
      refine tn_getR (ci := 5) (i := 1) (n := 34) (x := x2) dX5_exchange_14 rfl lay_5 (by decide) fl5_20 ha rfl rfl (hx3) ?_
      refine tn_iload_n dX5_exchange_17 rfl 1 rfl ?_
      obtain ⟨x7, hx8, hk9⟩ := (hw).2.2.2.1.1 x2 hk4 (p1) (by omega) (by omega)
      refine tn_aald (z := p1) (x := x7) dX5_exchange_18 hk4i (by omega) (by omega) (by omega) hx8 ?_
      have hk9o : OB T x7 1 := ⟨by omega, by rw [hk9]; rfl, by omega⟩
      refine tn_ifnonnull (tgt := 24) dX5_exchange_19 (by decide) ?_
      refine tn_aload_n dX5_exchange_24 rfl 0 rfl ?_
      refine tn_getR (ci := 5) (i := 1) (n := 34) (x := x2) dX5_exchange_25 rfl lay_5 (by decide) fl5_20 ha rfl rfl (hx3) ?_
      refine tn_iload_n dX5_exchange_28 rfl 1 rfl ?_
      obtain ⟨x10, hx11, hk12⟩ := (hw).2.2.2.1.1 x2 hk4 (p1) (by omega) (by omega)
      refine tn_aald (z := p1) (x := x10) dX5_exchange_29 hk4i (by omega) (by omega) (by omega) hx11 ?_
      have hk12o : OB T x10 1 := ⟨by omega, by rw [hk12]; rfl, by omega⟩
      refine tn_astore_n (L' := [(3, .ref x10), (0, .ref a), (1, .int (iI p1)), (2, .ref p2)]) dX5_exchange_30 rfl (by decide) rfl ?_
      refine tn_aload_n dX5_exchange_31 rfl 1 rfl ?_
      refine tn_getR (ci := 5) (i := 1) (n := 34) (x := x2) dX5_exchange_32 rfl lay_5 (by decide) fl5_20 ha rfl rfl (hx3) ?_
      refine tn_iload_n dX5_exchange_35 rfl 2 rfl ?_
      refine tn_aload_n dX5_exchange_36 rfl 3 rfl ?_
      refine tn_aastQ (z := p1) (v := p2) dX5_exchange_37 (by have q9 := hk4i; omega) h_p2.r (by omega) (by omega) (by omega) ?_
      refine tn_aload_n dX5_exchange_38 rfl 0 rfl ?_
      exact tn_aret rfl (Or.inl ⟨_, rfl⟩) (Or.inr ⟨_, rfl⟩) dX5_exchange_39 ⟨(x10 : Int), congrArg some (vl_ref rfl).symm, rfl, (hw.rq (by have h1 := hk4; have h2 := t_p2; omega)), (FrC.rfl.arr (hk_no (nh_k hk4 (by unfold HT; omega)))), ⟨_, rfl, hk12⟩⟩
