theorem cd_X11_takeMade : Cond.code yX11_takeMade cX11_takeMade 2 none ∈ pWW := pw4 (List.mem_of_getElem? (i := 19) rfl) rfl
abbrev m_X11_takeMade : MT := (yX11_takeMade, cX11_takeMade, 2, none)
theorem ok_X11_takeMade : pOk m_X11_takeMade := ⟨⟨cd_X11_takeMade, ini_11⟩, by decide +kernel, ⟨by decide +kernel, by decide +kernel⟩, Nat.le_of_ble_eq_true rfl⟩
theorem np_X11_takeMade : (parseMethodDescriptor yX11_takeMade.desc).map (fun d => d.parameters.length) = some 1 := by decide +kernel
theorem im_X11_takeMade : Cond.instanceMethod yX11_takeMade ∈ pWW := pw4 (List.mem_of_getElem? (i := 18) rfl) rfl
theorem se_X11_takeMade : Cond.selects RX11 yX11_takeMade yX11_takeMade ∈ pWW := pws (List.mem_map.mpr ⟨_, lw_pin 34 rfl, rfl⟩) rfl
theorem fl11_15 : Cond.fieldLink RX11 15 (TX11 3).1 (TX11 3).2.1 (TX11 3).2.2.1 ∈ pWW := pw2 (List.mem_of_getElem? (i := 199) rfl) rfl
theorem fl11_25 : Cond.fieldLink RX11 25 (TX11 5).1 (TX11 5).2.1 (TX11 5).2.2.1 ∈ pWW := pw2 (List.mem_of_getElem? (i := 201) rfl) rfl
theorem ml11_285 : Cond.methodLink RX11 285 yX5_exchange ∈ pWW := pw4 (List.mem_of_getElem? (i := 20) rfl) rfl
theorem ml11_289 : Cond.methodLink RX11 289 yX1_copyFrom ∈ pWW := pw4 (List.mem_of_getElem? (i := 32) rfl) rfl
theorem dX11_takeMade_0 : decode cX11_takeMade 0 = .ok (.iload_n 1, 1) := by decide +kernel
theorem dX11_takeMade_1 : decode cX11_takeMade 1 = .ok (.ifCond .lt 39, 3) := by decide +kernel
theorem dX11_takeMade_40 : decode cX11_takeMade 40 = .ok (.return_, 1) := by decide +kernel
theorem dX11_takeMade_4 : decode cX11_takeMade 4 = .ok (.iload_n 1, 1) := by decide +kernel
theorem dX11_takeMade_5 : decode cX11_takeMade 5 = .ok (.aload_n 0, 1) := by decide +kernel
theorem dX11_takeMade_6 : decode cX11_takeMade 6 = .ok (.getfield 15, 3) := by decide +kernel
theorem dX11_takeMade_9 : decode cX11_takeMade 9 = .ok (.arraylength, 1) := by decide +kernel
theorem dX11_takeMade_10 : decode cX11_takeMade 10 = .ok (.if_icmp .ge 30, 3) := by decide +kernel
theorem dX11_takeMade_13 : decode cX11_takeMade 13 = .ok (.iload_n 1, 1) := by decide +kernel
theorem dX11_takeMade_14 : decode cX11_takeMade 14 = .ok (.aload_n 0, 1) := by decide +kernel
theorem dX11_takeMade_15 : decode cX11_takeMade 15 = .ok (.getfield 19, 3) := by decide +kernel
theorem dX11_takeMade_18 : decode cX11_takeMade 18 = .ok (.arraylength, 1) := by decide +kernel
theorem dX11_takeMade_19 : decode cX11_takeMade 19 = .ok (.if_icmp .ge 21, 3) := by decide +kernel
theorem dX11_takeMade_22 : decode cX11_takeMade 22 = .ok (.aload_n 0, 1) := by decide +kernel
theorem dX11_takeMade_23 : decode cX11_takeMade 23 = .ok (.getfield 19, 3) := by decide +kernel
theorem dX11_takeMade_26 : decode cX11_takeMade 26 = .ok (.iload_n 1, 1) := by decide +kernel
theorem dX11_takeMade_27 : decode cX11_takeMade 27 = .ok (.aaload, 1) := by decide +kernel
theorem dX11_takeMade_28 : decode cX11_takeMade 28 = .ok (.ifnull 12, 3) := by decide +kernel
theorem dX11_takeMade_31 : decode cX11_takeMade 31 = .ok (.aload_n 0, 1) := by decide +kernel
theorem dX11_takeMade_32 : decode cX11_takeMade 32 = .ok (.getfield 15, 3) := by decide +kernel
theorem dX11_takeMade_35 : decode cX11_takeMade 35 = .ok (.iload_n 1, 1) := by decide +kernel
theorem dX11_takeMade_36 : decode cX11_takeMade 36 = .ok (.aaload, 1) := by decide +kernel
theorem dX11_takeMade_37 : decode cX11_takeMade 37 = .ok (.ifnonnull 4, 3) := by decide +kernel
theorem dX11_takeMade_41 : decode cX11_takeMade 41 = .ok (.aload_n 0, 1) := by decide +kernel
theorem dX11_takeMade_42 : decode cX11_takeMade 42 = .ok (.getfield 15, 3) := by decide +kernel
theorem dX11_takeMade_45 : decode cX11_takeMade 45 = .ok (.iload_n 1, 1) := by decide +kernel
theorem dX11_takeMade_46 : decode cX11_takeMade 46 = .ok (.aload_n 0, 1) := by decide +kernel
theorem dX11_takeMade_47 : decode cX11_takeMade 47 = .ok (.getfield 25, 3) := by decide +kernel
theorem dX11_takeMade_50 : decode cX11_takeMade 50 = .ok (.iload_n 1, 1) := by decide +kernel
theorem dX11_takeMade_51 : decode cX11_takeMade 51 = .ok (.aload_n 0, 1) := by decide +kernel
theorem dX11_takeMade_52 : decode cX11_takeMade 52 = .ok (.getfield 15, 3) := by decide +kernel
theorem dX11_takeMade_55 : decode cX11_takeMade 55 = .ok (.iload_n 1, 1) := by decide +kernel
theorem dX11_takeMade_56 : decode cX11_takeMade 56 = .ok (.aaload, 1) := by decide +kernel
theorem dX11_takeMade_57 : decode cX11_takeMade 57 = .ok (.invokevirtual 285, 3) := by decide +kernel
theorem dX11_takeMade_60 : decode cX11_takeMade 60 = .ok (.aastore, 1) := by decide +kernel
theorem dX11_takeMade_61 : decode cX11_takeMade 61 = .ok (.aload_n 0, 1) := by decide +kernel
theorem dX11_takeMade_62 : decode cX11_takeMade 62 = .ok (.getfield 15, 3) := by decide +kernel
theorem dX11_takeMade_65 : decode cX11_takeMade 65 = .ok (.iload_n 1, 1) := by decide +kernel
theorem dX11_takeMade_66 : decode cX11_takeMade 66 = .ok (.aaload, 1) := by decide +kernel
theorem dX11_takeMade_67 : decode cX11_takeMade 67 = .ok (.invokevirtual 198, 3) := by decide +kernel
theorem dX11_takeMade_70 : decode cX11_takeMade 70 = .ok (.aload_n 0, 1) := by decide +kernel
theorem dX11_takeMade_71 : decode cX11_takeMade 71 = .ok (.getfield 19, 3) := by decide +kernel
theorem dX11_takeMade_74 : decode cX11_takeMade 74 = .ok (.iload_n 1, 1) := by decide +kernel
theorem dX11_takeMade_75 : decode cX11_takeMade 75 = .ok (.aaload, 1) := by decide +kernel
theorem dX11_takeMade_76 : decode cX11_takeMade 76 = .ok (.aload_n 0, 1) := by decide +kernel
theorem dX11_takeMade_77 : decode cX11_takeMade 77 = .ok (.getfield 15, 3) := by decide +kernel
theorem dX11_takeMade_80 : decode cX11_takeMade 80 = .ok (.iload_n 1, 1) := by decide +kernel
theorem dX11_takeMade_81 : decode cX11_takeMade 81 = .ok (.aaload, 1) := by decide +kernel
theorem dX11_takeMade_82 : decode cX11_takeMade 82 = .ok (.invokevirtual 289, 3) := by decide +kernel
theorem dX11_takeMade_85 : decode cX11_takeMade 85 = .ok (.aload_n 0, 1) := by decide +kernel
theorem dX11_takeMade_86 : decode cX11_takeMade 86 = .ok (.getfield 39, 3) := by decide +kernel
theorem dX11_takeMade_89 : decode cX11_takeMade 89 = .ok (.iload_n 1, 1) := by decide +kernel
theorem dX11_takeMade_90 : decode cX11_takeMade 90 = .ok (.invokevirtual 201, 3) := by decide +kernel
theorem dX11_takeMade_93 : decode cX11_takeMade 93 = .ok (.return_, 1) := by decide +kernel
set_option maxRecDepth 20000 in
theorem k_X11_takeMade (d : Nat) {T : CT} {σ : MS} {a : Nat} {r : Int} (ha : OB T a 11) (h_r : -2147483648 ≤ r ∧ r ≤ 2147483647) (hw : WT T σ) : Tn (d + 4) m_X11_takeMade 0 T σ [(0, .ref a), (1, .int (iI r))] [] (fun ro T2 σ2 => ro = none ∧ WT T2 σ2 ∧ FrC T [5, 6, 7, 8, 9, 10] σ σ2) := by
  refine tn_iload_n dX11_takeMade_0 rfl 1 rfl ?_
  refine tn_if_lt (tgt := 40) dX11_takeMade_1 (by decide) ⟨by omega, by omega⟩ (fun h1 => ?_) (fun h1 => ?_)
  · exact tn_vret rfl dX11_takeMade_40 ⟨rfl, hw, FrC.rfl⟩
  · refine tn_iload_n dX11_takeMade_4 rfl 1 rfl ?_
    refine tn_aload_n dX11_takeMade_5 rfl 0 rfl ?_
    obtain ⟨x2, hx3, hk4, hl5⟩ : ∃ x : Nat, σ.2.1 98 a = (x : Int) ∧ AR T x 4 6 6 := wf_98 hw ha
    have hk4i : (T x2).1 = 4 ∨ (T x2).1 = 5 := by omega
    refine tn_getR (ci := 11) (i := 3) (n := 98) (x := x2) dX11_takeMade_6 rfl lay_11 (by decide) fl11_15 ha rfl rfl (hx3) ?_
    refine tn_alenX dX11_takeMade_9 (by have q9 := hk4i; omega) ?_
    refine tn_icmp_ge (tgt := 40) dX11_takeMade_10 (by decide) ⟨by omega, by omega⟩ ⟨by omega, by omega⟩ (fun h6 => ?_) (fun h6 => ?_)
    · exact tn_vret rfl dX11_takeMade_40 ⟨rfl, hw, FrC.rfl⟩
    · refine tn_iload_n dX11_takeMade_13 rfl 1 rfl ?_
      refine tn_aload_n dX11_takeMade_14 rfl 0 rfl ?_
      obtain ⟨x7, hx8, hk9, hl10⟩ : ∃ x : Nat, σ.2.1 99 a = (x : Int) ∧ AR T x 5 6 6 := wf_99 hw ha
      have hk9i : (T x7).1 = 4 ∨ (T x7).1 = 5 := by omega
      refine tn_getR (ci := 11) (i := 4) (n := 99) (x := x7) dX11_takeMade_15 rfl lay_11 (by decide) fl11_19 ha rfl rfl (hx8) ?_
      refine tn_alenX dX11_takeMade_18 (by have q9 := hk9i; omega) ?_
      refine tn_icmp_ge (tgt := 40) dX11_takeMade_19 (by decide) ⟨by omega, by omega⟩ ⟨by omega, by omega⟩ (fun h11 => absurd h11 (by omega)) (fun h11 => ?_)
      refine tn_aload_n dX11_takeMade_22 rfl 0 rfl ?_
      refine tn_getR (ci := 11) (i := 4) (n := 99) (x := x7) dX11_takeMade_23 rfl lay_11 (by decide) fl11_19 ha rfl rfl (hx8) ?_
      refine tn_iload_n dX11_takeMade_26 rfl 1 rfl ?_
      obtain ⟨x12, hx13, hk14⟩ := (hw).2.2.2.1.2 x7 hk9 (r) (by omega) (by omega)
      refine tn_aald (z := r) (x := x12) dX11_takeMade_27 hk9i (by omega) (by omega) (by omega) hx13 ?_
      have hk14o : OB T x12 1 := ⟨by omega, by rw [hk14]; rfl, by omega⟩
      refine tn_ifnull dX11_takeMade_28 ?_
      refine tn_aload_n dX11_takeMade_31 rfl 0 rfl ?_
      refine tn_getR (ci := 11) (i := 3) (n := 98) (x := x2) dX11_takeMade_32 rfl lay_11 (by decide) fl11_15 ha rfl rfl (hx3) ?_
      refine tn_iload_n dX11_takeMade_35 rfl 1 rfl ?_
      obtain ⟨x15, hx16, hk17⟩ := (hw).2.2.2.1.1 x2 hk4 (r) (by omega) (by omega)
      refine tn_aald (z := r) (x := x15) dX11_takeMade_36 hk4i (by omega) (by omega) (by omega) hx16 ?_
      have hk17o : OB T x15 1 := ⟨by omega, by rw [hk17]; rfl, by omega⟩
      refine tn_ifnonnull (tgt := 41) dX11_takeMade_37 (by decide) ?_
      refine tn_aload_n dX11_takeMade_41 rfl 0 rfl ?_
      refine tn_getR (ci := 11) (i := 3) (n := 98) (x := x2) dX11_takeMade_42 rfl lay_11 (by decide) fl11_15 ha rfl rfl (hx3) ?_
      refine tn_iload_n dX11_takeMade_45 rfl 1 rfl ?_
      refine tn_aload_n dX11_takeMade_46 rfl 0 rfl ?_
      obtain ⟨x18, hx19, hk20⟩ : ∃ x : Nat, σ.2.1 100 a = (x : Int) ∧ (T x).1 = 35 := wf_100 hw ha
      have hk20o : OB T x18 5 := ⟨by omega, by rw [hk20]; rfl, by omega⟩
      refine tn_getR (ci := 11) (i := 5) (n := 100) (x := x18) dX11_takeMade_47 rfl lay_11 (by decide) fl11_25 ha rfl rfl (hx19) ?_
      refine tn_iload_n dX11_takeMade_50 rfl 1 rfl ?_
      refine tn_aload_n dX11_takeMade_51 rfl 0 rfl ?_
      refine tn_getR (ci := 11) (i := 3) (n := 98) (x := x2) dX11_takeMade_52 rfl lay_11 (by decide) fl11_15 ha rfl rfl (hx3) ?_
      refine tn_iload_n dX11_takeMade_55 rfl 1 rfl ?_
      obtain ⟨x22, hx23, hk24⟩ := (hw).2.2.2.1.1 x2 hk4 (r) (by omega) (by omega)
      refine tn_aald (z := r) (x := x22) dX11_takeMade_56 hk4i (by omega) (by omega) (by omega) hx23 ?_
      have hk24o : OB T x22 1 := ⟨by omega, by rw [hk24]; rfl, by omega⟩
      refine tn_callV (M := m_X11_takeMade) (pc := 57) (ix := 285) (ci := 5) (M' := m_X5_exchange) (As := [.int (iI r), .ref x22]) (rest := [.int (iI r), .ref x2]) dX11_takeMade_57 ok_X5_exchange im_X5_exchange se_X5_exchange ml11_285 np_X5_exchange rfl rfl hk20o rfl (Nat.le_of_ble_eq_true rfl) (Nat.le_of_ble_eq_true rfl) rfl (k_X5_exchange (d + 2) (T := T) (σ := σ) (a := x18) (p1 := r) (p2 := x22) hk20o (by omega) hk24o hk24 hw ) (fun r25 T27 σ26 gt28 hp => ?_)
      obtain ⟨v29, rfl, rfl, w30, F31, rv32⟩ := hp
      clear gt28
      obtain ⟨x33, rfl, hk34⟩ := rv32
      show Tn _ _ 60 T σ26 [(0, .ref a), (1, .int (iI r))] (vl true (x33 : Int) :: [.int (iI r), .ref x2]) _
      rw [vl_ref rfl]
      have hk34o : OB T x33 1 := ⟨by omega, by rw [hk34]; rfl, by omega⟩
      refine tn_aastQ (z := r) (v := x33) dX11_takeMade_60 (by have q9 := hk4i; omega) hk34o.r (by omega) (by omega) (by omega) ?_
      refine tn_aload_n dX11_takeMade_61 rfl 0 rfl ?_
      refine tn_getR (ci := 11) (i := 3) (n := 98) (x := x2) dX11_takeMade_62 rfl lay_11 (by decide) fl11_15 ha rfl rfl (rc_a (Or.inl (by decide)) (rc_F F31 (Or.inl (by decide)) (by decide) (hx3))) ?_
      refine tn_iload_n dX11_takeMade_65 rfl 1 rfl ?_
      obtain ⟨x35, hx36, hk37⟩ := ((show WT T (sA (1000 + x2) (r) (x33 : Int) σ26) from (w30.rq (by have h1 := hk4; have h2 := hk34; omega)))).2.2.2.1.1 x2 hk4 (r) (by omega) (by omega)
      refine tn_aald (z := r) (x := x35) dX11_takeMade_66 hk4i (by omega) (by omega) (by omega) hx36 ?_
      have hk37o : OB T x35 1 := ⟨by omega, by rw [hk37]; rfl, by omega⟩
      refine tn_callV (M := m_X11_takeMade) (pc := 67) (ix := 198) (ci := 1) (M' := m_X1_link) (As := []) (rest := []) dX11_takeMade_67 ok_X1_link im_X1_link se_X1_link ml11_198 np_X1_link rfl rfl hk37o rfl (Nat.le_of_ble_eq_true rfl) (Nat.le_of_ble_eq_true rfl) rfl (k_X1_link (d) (T := T) (σ := (sA (1000 + x2) (r) (x33 : Int) σ26)) (a := x35) hk37o (w30.rq (by have h1 := hk4; have h2 := hk34; omega)) ) (fun r38 T40 σ39 gt41 hp => ?_)
      obtain ⟨rfl, rfl, w43, F44⟩ := hp
      clear gt41
      show Tn _ _ 70 T σ39 [(0, .ref a), (1, .int (iI r))] [] _
      refine tn_aload_n dX11_takeMade_70 rfl 0 rfl ?_
      refine tn_getR (ci := 11) (i := 4) (n := 99) (x := x7) dX11_takeMade_71 rfl lay_11 (by decide) fl11_19 ha rfl rfl (rc_F F44 (Or.inl (by decide)) (by decide) (rc_a (Or.inl (by decide)) (rc_F F31 (Or.inl (by decide)) (by decide) (hx8)))) ?_
      refine tn_iload_n dX11_takeMade_74 rfl 1 rfl ?_
      obtain ⟨x45, hx46, hk47⟩ := (w43).2.2.2.1.2 x7 hk9 (r) (by omega) (by omega)
      refine tn_aald (z := r) (x := x45) dX11_takeMade_75 hk9i (by omega) (by omega) (by omega) hx46 ?_
      have hk47o : OB T x45 1 := ⟨by omega, by rw [hk47]; rfl, by omega⟩
      refine tn_aload_n dX11_takeMade_76 rfl 0 rfl ?_
      refine tn_getR (ci := 11) (i := 3) (n := 98) (x := x2) dX11_takeMade_77 rfl lay_11 (by decide) fl11_15 ha rfl rfl (rc_F F44 (Or.inl (by decide)) (by decide) (rc_a (Or.inl (by decide)) (rc_F F31 (Or.inl (by decide)) (by decide) (hx3)))) ?_
      refine tn_iload_n dX11_takeMade_80 rfl 1 rfl ?_
      obtain ⟨x48, hx49, hk50⟩ := (w43).2.2.2.1.1 x2 hk4 (r) (by omega) (by omega)
      refine tn_aald (z := r) (x := x48) dX11_takeMade_81 hk4i (by omega) (by omega) (by omega) hx49 ?_
      have hk50o : OB T x48 1 := ⟨by omega, by rw [hk50]; rfl, by omega⟩
      refine tn_callV (M := m_X11_takeMade) (pc := 82) (ix := 289) (ci := 1) (M' := m_X1_copyFrom) (As := [.ref x48]) (rest := []) dX11_takeMade_82 ok_X1_copyFrom im_X1_copyFrom se_X1_copyFrom ml11_289 np_X1_copyFrom rfl rfl hk47o rfl (Nat.le_of_ble_eq_true rfl) (Nat.le_of_ble_eq_true rfl) rfl (k_X1_copyFrom (d) (T := T) (σ := σ39) (a := x45) (p1 := x48) hk47o hk47 hk50o hk50 w43 ) (fun r51 T53 σ52 gt54 hp => ?_)
      obtain ⟨rfl, w56, F57⟩ := hp
      replace ha : OB T53 a 11 := gt54.ob ha
      show Tn _ _ 85 T53 σ52 [(0, .ref a), (1, .int (iI r))] [] _
      refine tn_aload_n dX11_takeMade_85 rfl 0 rfl ?_
      obtain ⟨x58, hx59, hk60⟩ : ∃ x : Nat, σ52.2.1 102 a = (x : Int) ∧ (T53 x).1 = 40 := wf_102 w56 ha
      have hk60o : OB T53 x58 10 := ⟨by omega, by rw [hk60]; rfl, by omega⟩
      refine tn_getR (ci := 11) (i := 7) (n := 102) (x := x58) dX11_takeMade_86 rfl lay_11 (by decide) fl11_39 ha rfl rfl (hx59) ?_
      refine tn_iload_n dX11_takeMade_89 rfl 1 rfl ?_
      refine tn_callV (M := m_X11_takeMade) (pc := 90) (ix := 201) (ci := 10) (M' := m_X10_spoil) (As := [.int (iI r)]) (rest := []) dX11_takeMade_90 ok_X10_spoil im_X10_spoil se_X10_spoil ml11_201 np_X10_spoil rfl rfl hk60o rfl (Nat.le_of_ble_eq_true rfl) (Nat.le_of_ble_eq_true rfl) rfl (k_X10_spoil (d + 1) (T := T53) (σ := σ52) (a := x58) (p1 := r) hk60o (by omega) w56 ) (fun r62 T64 σ63 gt65 hp => ?_)
      obtain ⟨rfl, rfl, w67, F68⟩ := hp
      clear gt65
      show Tn _ _ 93 T53 σ63 [(0, .ref a), (1, .int (iI r))] [] _
      exact tn_vret rfl dX11_takeMade_93 ⟨rfl, w67, (((((FrC.rfl.trans (FrC.sub F31 (by decide))).arr (hk_no (nh_k hk4 (by unfold HT; omega)))).trans (FrC.sub F44 (by decide))).trans (FrC.sub F57 (by decide))).trans (FrC.sub (FrC.old F68 gt54) (by decide)))⟩
