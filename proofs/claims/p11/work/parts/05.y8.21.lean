section
theorem cd_X7_forget : Cond.code yX7_forget cX7_forget 1 none ∈ pWW := pw4 (List.mem_of_getElem? (i := 50) rfl) rfl
theorem ini_7 : Cond.initialized RX7 ∈ pWW := pw1 (List.mem_of_getElem? (i := 11) rfl) rfl
abbrev m_X7_forget : MT := (yX7_forget, cX7_forget, 1, none)
theorem ok_X7_forget : pOk m_X7_forget := ⟨⟨cd_X7_forget, ini_7⟩, by decide +kernel, ⟨by decide +kernel, by decide +kernel⟩, Nat.le_of_ble_eq_true rfl⟩
theorem np_X7_forget : (parseMethodDescriptor yX7_forget.desc).map (fun d => d.parameters.length) = some 0 := by decide +kernel
theorem im_X7_forget : Cond.instanceMethod yX7_forget ∈ pWW := pw4 (List.mem_of_getElem? (i := 48) rfl) rfl
theorem se_X7_forget : Cond.selects RX7 yX7_forget yX7_forget ∈ pWW := pw4 (List.mem_of_getElem? (i := 49) rfl) rfl
theorem fl7_34 : Cond.fieldLink RX7 34 (TX7 1).1 (TX7 1).2.1 (TX7 1).2.2.1 ∈ pWW := pw2 (List.mem_of_getElem? (i := 134) rfl) rfl
theorem dX7_forget_0 : decode cX7_forget 0 = .ok (.aload_n 0, 1) := by decide +kernel
theorem dX7_forget_1 : decode cX7_forget 1 = .ok (.iconst 0, 1) := by decide +kernel
theorem dX7_forget_2 : decode cX7_forget 2 = .ok (.putfield 34, 3) := by decide +kernel
theorem dX7_forget_5 : decode cX7_forget 5 = .ok (.return_, 1) := by decide +kernel
set_option maxRecDepth 20000 in
theorem k_X7_forget (d : Nat) {T : CT} {σ : MS} {a : Nat} (ha : OB T a 7) (hw : WT T σ) : Tn (d + 1) m_X7_forget 0 T σ [(0, .ref a)] [] (fun ro T2 σ2 => ro = none ∧ T = T2 ∧ WT T2 σ2 ∧ FrC T [56] σ σ2) := by
  refine tn_aload_n dX7_forget_0 rfl 0 rfl ?_
  refine tn_iconst dX7_forget_1 ?_
  refine tn_putV (ci := 7) (i := 1) (n := 56) (r := false) (v := 0) tyX7 tyX7_ok nmX7 dX7_forget_2 rfl lay_7 (by decide) fl7_34 rfl (tyX7_ok 1 (by decide)) rfl rfl rfl ha rfl rfl ?_
  exact tn_vret rfl dX7_forget_5 ⟨rfl, rfl, (hw.put (by decide) (by decide) (fo_56 (by omega))), (FrC.rfl.put (by decide) (by decide))⟩
end
section
theorem cd_X7_place : Cond.code yX7_place cX7_place 1 (some .int) ∈ pWW := pw6 (List.mem_of_getElem? (i := 63) rfl) rfl
abbrev m_X7_place : MT := (yX7_place, cX7_place, 1, (some .int))
theorem ok_X7_place : pOk m_X7_place := ⟨⟨cd_X7_place, ini_7⟩, by decide +kernel, ⟨by decide +kernel, by decide +kernel⟩, Nat.le_of_ble_eq_true rfl⟩
theorem np_X7_place : (parseMethodDescriptor yX7_place.desc).map (fun d => d.parameters.length) = some 0 := by decide +kernel
theorem im_X7_place : Cond.instanceMethod yX7_place ∈ pWW := pw6 (List.mem_of_getElem? (i := 61) rfl) rfl
theorem se_X7_place : Cond.selects RX7 yX7_place yX7_place ∈ pWW := pw6 (List.mem_of_getElem? (i := 62) rfl) rfl
theorem fl7_15 : Cond.fieldLink RX7 15 (TX7 5).1 (TX7 5).2.1 (TX7 5).2.2.1 ∈ pWW := pw2 (List.mem_of_getElem? (i := 142) rfl) rfl
theorem fl7_65 : Cond.fieldLink RX7 65 (TX7 2).1 (TX7 2).2.1 (TX7 2).2.2.1 ∈ pWW := pw2 (List.mem_of_getElem? (i := 137) rfl) rfl
theorem nl7_91 : (RX7, 91, yX11_at, "LineKeeper") ∈ nst_M := List.mem_of_getElem? (i := 48) rfl
theorem dX7_place_0 : decode cX7_place 0 = .ok (.aload_n 0, 1) := by decide +kernel
theorem dX7_place_1 : decode cX7_place 1 = .ok (.getfield 15, 3) := by decide +kernel
theorem dX7_place_4 : decode cX7_place 4 = .ok (.aload_n 0, 1) := by decide +kernel
theorem dX7_place_5 : decode cX7_place 5 = .ok (.getfield 65, 3) := by decide +kernel
theorem dX7_place_8 : decode cX7_place 8 = .ok (.invokestatic 91, 3) := by decide +kernel
theorem dX7_place_11 : decode cX7_place 11 = .ok (.ireturn, 1) := by decide +kernel
set_option maxRecDepth 20000 in
theorem k_X7_place (d : Nat) {T : CT} {σ : MS} {a : Nat} (ha : OB T a 7) (hw : WT T σ) : Tn (d + 2) m_X7_place 0 T σ [(0, .ref a)] [] (fun ro T2 σ2 => ∃ v : Int, ro = some (.int (iI v)) ∧ T = T2 ∧ σ = σ2 ∧ (-2147483648 ≤ v ∧ v ≤ 2147483647)) := by
  refine tn_aload_n dX7_place_0 rfl 0 rfl ?_
  obtain ⟨x1, hx2, hk3, hl4⟩ : ∃ x : Nat, σ.2.1 60 a = (x : Int) ∧ AR T x 1 9 9 := wf_60 hw ha
  have hk3i : IA T x1 := by unfold IA; omega
  refine tn_getR (ci := 7) (i := 5) (n := 60) (x := x1) dX7_place_1 rfl lay_7 (by decide) fl7_15 ha rfl rfl (hx2) ?_
  refine tn_aload_n dX7_place_4 rfl 0 rfl ?_
  refine tn_getI (ci := 7) (i := 2) (n := 57) (t := σ.2.1 57 a) dX7_place_5 rfl lay_7 (by decide) fl7_65 ha rfl rfl (rfl) ?_
  have g5 : ((0 : Int) ≤ σ.2.1 57 a ∧ σ.2.1 57 a ≤ 11184800) ∧ ((T a).1 = 57 → σ.2.1 57 a ≤ 8) := wf_57 hw ha
  have g5x := g5.2
  replace g5 := g5.1
  clear g5x
  refine tn_callSN (M := m_X7_place) (pc := 8) (ix := 91) (M' := m_X11_at) (As := [.ref x1, .int (iI (σ.2.1 57 a))]) (rest := []) dX7_place_8 ok_X11_at stt_X11_at nl7_91 np_X11_at rfl (Nat.le_of_ble_eq_true rfl) (Nat.le_of_ble_eq_true rfl) rfl (k_X11_at (d) (T := T) (σ := σ) (x := x1) (i := σ.2.1 57 a) hk3i (by omega) (by omega) hw ) (fun r6 T8 σ7 gt9 hp => ?_)
  obtain ⟨v13, rfl, rfl, rfl, f10, f11, f12⟩ := hp
  clear gt9
  clear f11 f12
  show Tn _ _ 11 T σ [(0, .ref a)] [.int (iI v13)] _
  exact tn_iret rfl dX7_place_11 ⟨_, rfl, rfl, rfl, by omega⟩
end
section
theorem cd_X7_stops : Cond.code yX7_stops cX7_stops 3 (some .boolean) ∈ pWW := pw6 (List.mem_of_getElem? (i := 96) rfl) rfl
abbrev m_X7_stops : MT := (yX7_stops, cX7_stops, 3, (some .boolean))
theorem ok_X7_stops : pOk m_X7_stops := ⟨⟨cd_X7_stops, ini_7⟩, by decide +kernel, ⟨by decide +kernel, by decide +kernel⟩, Nat.le_of_ble_eq_true rfl⟩
theorem np_X7_stops : (parseMethodDescriptor yX7_stops.desc).map (fun d => d.parameters.length) = some 2 := by decide +kernel
theorem im_X7_stops : Cond.instanceMethod yX7_stops ∈ pWW := pw6 (List.mem_of_getElem? (i := 95) rfl) rfl
theorem se_X7_stops : Cond.selects RX7 yX7_stops yX7_stops ∈ pWW := pws (List.mem_map.mpr ⟨_, lw_pin 94 rfl, rfl⟩) rfl
theorem fl7_38 : Cond.fieldLink RX7 38 (TX7 3).1 (TX7 3).2.1 (TX7 3).2.2.1 ∈ pWW := pw2 (List.mem_of_getElem? (i := 138) rfl) rfl
theorem dX7_stops_0 : decode cX7_stops 0 = .ok (.iload_n 1, 1) := by decide +kernel
theorem dX7_stops_1 : decode cX7_stops 1 = .ok (.ifCond .ne 5, 3) := by decide +kernel
theorem dX7_stops_6 : decode cX7_stops 6 = .ok (.iload_n 1, 1) := by decide +kernel
theorem dX7_stops_7 : decode cX7_stops 7 = .ok (.iconst 1, 1) := by decide +kernel
theorem dX7_stops_8 : decode cX7_stops 8 = .ok (.if_icmp .ne 19, 3) := by decide +kernel
theorem dX7_stops_27 : decode cX7_stops 27 = .ok (.aload_n 0, 1) := by decide +kernel
theorem dX7_stops_28 : decode cX7_stops 28 = .ok (.getfield 38, 3) := by decide +kernel
theorem dX7_stops_31 : decode cX7_stops 31 = .ok (.iload_n 2, 1) := by decide +kernel
theorem dX7_stops_32 : decode cX7_stops 32 = .ok (.if_icmp .ge 7, 3) := by decide +kernel
theorem dX7_stops_39 : decode cX7_stops 39 = .ok (.iconst 0, 1) := by decide +kernel
theorem dX7_stops_40 : decode cX7_stops 40 = .ok (.ireturn, 1) := by decide +kernel
theorem dX7_stops_35 : decode cX7_stops 35 = .ok (.iconst 1, 1) := by decide +kernel
theorem dX7_stops_36 : decode cX7_stops 36 = .ok (.goto 4, 3) := by decide +kernel
theorem dX7_stops_11 : decode cX7_stops 11 = .ok (.aload_n 0, 1) := by decide +kernel
theorem dX7_stops_12 : decode cX7_stops 12 = .ok (.getfield 38, 3) := by decide +kernel
theorem dX7_stops_15 : decode cX7_stops 15 = .ok (.iload_n 2, 1) := by decide +kernel
theorem dX7_stops_16 : decode cX7_stops 16 = .ok (.if_icmp .gt 7, 3) := by decide +kernel
theorem dX7_stops_23 : decode cX7_stops 23 = .ok (.iconst 0, 1) := by decide +kernel
theorem dX7_stops_24 : decode cX7_stops 24 = .ok (.goto 16, 3) := by decide +kernel
theorem dX7_stops_19 : decode cX7_stops 19 = .ok (.iconst 1, 1) := by decide +kernel
theorem dX7_stops_20 : decode cX7_stops 20 = .ok (.goto 20, 3) := by decide +kernel
theorem dX7_stops_4 : decode cX7_stops 4 = .ok (.iconst 1, 1) := by decide +kernel
theorem dX7_stops_5 : decode cX7_stops 5 = .ok (.ireturn, 1) := by decide +kernel
set_option maxRecDepth 20000 in
theorem k_X7_stops (d : Nat) {T : CT} {σ : MS} {a : Nat} {p1 : Int} {p2 : Int} (ha : OB T a 7) (h_p1 : -2147483648 ≤ p1 ∧ p1 ≤ 2147483647) (h_p2 : -2147483648 ≤ p2 ∧ p2 ≤ 2147483647) (hw : WT T σ) : Tn (d + 1) m_X7_stops 0 T σ [(0, .ref a), (1, .int (iI p1)), (2, .int (iI p2))] [] (fun ro T2 σ2 => ∃ v : Int, ro = some (.int (iI v)) ∧ T = T2 ∧ σ = σ2 ∧ (v = 0 ∨ v = 1)) := by
  refine tn_iload_n dX7_stops_0 rfl 1 rfl ?_
  refine tn_if_ne (tgt := 6) dX7_stops_1 (by decide) ⟨by omega, by omega⟩ (fun h1 => ?_) (fun h1 => ?_)
  · refine tn_iload_n dX7_stops_6 rfl 1 rfl ?_
    refine tn_iconst dX7_stops_7 ?_
    refine tn_icmp_ne (tgt := 27) dX7_stops_8 (by decide) ⟨by omega, by omega⟩ ⟨by decide, by decide⟩ (fun h2 => ?_) (fun h2 => ?_)
    · refine tn_aload_n dX7_stops_27 rfl 0 rfl ?_
      refine tn_getI (ci := 7) (i := 3) (n := 58) (t := σ.2.1 58 a) dX7_stops_28 rfl lay_7 (by decide) fl7_38 ha rfl rfl (rfl) ?_
      have g3 : ((-2147483648 : Int) ≤ σ.2.1 58 a ∧ σ.2.1 58 a ≤ 2147483647) := wf_58 hw ha
      refine tn_iload_n dX7_stops_31 rfl 2 rfl ?_
      refine tn_icmp_ge (tgt := 39) dX7_stops_32 (by decide) ⟨by omega, by omega⟩ ⟨by omega, by omega⟩ (fun h4 => ?_) (fun h4 => ?_)
      · refine tn_iconst dX7_stops_39 ?_
        exact tn_zret (v := 0) rfl (by decide) dX7_stops_40 ⟨_, rfl, rfl, rfl, by omega⟩
      · refine tn_iconst dX7_stops_35 ?_
        refine tn_goto (tgt := 40) dX7_stops_36 (by decide) ?_
        exact tn_zret (v := 1) rfl (by decide) dX7_stops_40 ⟨_, rfl, rfl, rfl, by omega⟩
    · refine tn_aload_n dX7_stops_11 rfl 0 rfl ?_
      refine tn_getI (ci := 7) (i := 3) (n := 58) (t := σ.2.1 58 a) dX7_stops_12 rfl lay_7 (by decide) fl7_38 ha rfl rfl (rfl) ?_
      have g5 : ((-2147483648 : Int) ≤ σ.2.1 58 a ∧ σ.2.1 58 a ≤ 2147483647) := wf_58 hw ha
      refine tn_iload_n dX7_stops_15 rfl 2 rfl ?_
      refine tn_icmp_gt (tgt := 23) dX7_stops_16 (by decide) ⟨by omega, by omega⟩ ⟨by omega, by omega⟩ (fun h6 => ?_) (fun h6 => ?_)
      · refine tn_iconst dX7_stops_23 ?_
        refine tn_goto (tgt := 40) dX7_stops_24 (by decide) ?_
        exact tn_zret (v := 0) rfl (by decide) dX7_stops_40 ⟨_, rfl, rfl, rfl, by omega⟩
      · refine tn_iconst dX7_stops_19 ?_
        refine tn_goto (tgt := 40) dX7_stops_20 (by decide) ?_
        exact tn_zret (v := 1) rfl (by decide) dX7_stops_40 ⟨_, rfl, rfl, rfl, by omega⟩
  · refine tn_iconst dX7_stops_4 ?_
    exact tn_zret (v := 1) rfl (by decide) dX7_stops_5 ⟨_, rfl, rfl, rfl, by omega⟩
end
section
theorem cd_X7_emit : Cond.code yX7_emit cX7_emit 2 none ∈ pWW := pw6 (List.mem_of_getElem? (i := 74) rfl) rfl
abbrev m_X7_emit : MT := (yX7_emit, cX7_emit, 2, none)
theorem ok_X7_emit : pOk m_X7_emit := ⟨⟨cd_X7_emit, ini_7⟩, by decide +kernel, ⟨by decide +kernel, by decide +kernel⟩, Nat.le_of_ble_eq_true rfl⟩
theorem np_X7_emit : (parseMethodDescriptor yX7_emit.desc).map (fun d => d.parameters.length) = some 1 := by decide +kernel
theorem im_X7_emit : Cond.instanceMethod yX7_emit ∈ pWW := pw6 (List.mem_of_getElem? (i := 73) rfl) rfl
theorem se_X7_emit : Cond.selects RX7 yX7_emit yX7_emit ∈ pWW := pws (List.mem_map.mpr ⟨_, lw_pin 89 rfl, rfl⟩) rfl
theorem fl7_27 : Cond.fieldLink RX7 27 (TX7 9).1 (TX7 9).2.1 (TX7 9).2.2.1 ∈ pWW := pw2 (List.mem_of_getElem? (i := 146) rfl) rfl
theorem fl7_41 : Cond.fieldLink RX7 41 (TX7 10).1 (TX7 10).2.1 (TX7 10).2.2.1 ∈ pWW := pw2 (List.mem_of_getElem? (i := 148) rfl) rfl
theorem nl7_61 : (RX7, 61, yX11_put, "LineKeeper") ∈ nst_M := List.mem_of_getElem? (i := 47) rfl
theorem fl7_44 : Cond.fieldLink RX7 44 (TX7 11).1 (TX7 11).2.1 (TX7 11).2.2.1 ∈ pWW := pw2 (List.mem_of_getElem? (i := 151) rfl) rfl
theorem dX7_emit_0 : decode cX7_emit 0 = .ok (.aload_n 0, 1) := by decide +kernel
theorem dX7_emit_1 : decode cX7_emit 1 = .ok (.getfield 27, 3) := by decide +kernel
theorem dX7_emit_4 : decode cX7_emit 4 = .ok (.aload_n 0, 1) := by decide +kernel
theorem dX7_emit_5 : decode cX7_emit 5 = .ok (.getfield 41, 3) := by decide +kernel
theorem dX7_emit_8 : decode cX7_emit 8 = .ok (.iload_n 1, 1) := by decide +kernel
theorem dX7_emit_9 : decode cX7_emit 9 = .ok (.invokestatic 61, 3) := by decide +kernel
theorem dX7_emit_12 : decode cX7_emit 12 = .ok (.aload_n 0, 1) := by decide +kernel
theorem dX7_emit_13 : decode cX7_emit 13 = .ok (.iload_n 1, 1) := by decide +kernel
theorem dX7_emit_14 : decode cX7_emit 14 = .ok (.putfield 44, 3) := by decide +kernel
theorem dX7_emit_17 : decode cX7_emit 17 = .ok (.aload_n 0, 1) := by decide +kernel
theorem dX7_emit_18 : decode cX7_emit 18 = .ok (.dup, 1) := by decide +kernel
theorem dX7_emit_19 : decode cX7_emit 19 = .ok (.getfield 41, 3) := by decide +kernel
theorem dX7_emit_22 : decode cX7_emit 22 = .ok (.iconst 1, 1) := by decide +kernel
theorem dX7_emit_23 : decode cX7_emit 23 = .ok (.iadd, 1) := by decide +kernel
theorem dX7_emit_24 : decode cX7_emit 24 = .ok (.putfield 41, 3) := by decide +kernel
theorem dX7_emit_27 : decode cX7_emit 27 = .ok (.return_, 1) := by decide +kernel
set_option maxRecDepth 20000 in
theorem k_X7_emit (d : Nat) {T : CT} {σ : MS} {a : Nat} {p1 : Int} (ha : OB T a 7) (h_p1 : -2147483648 ≤ p1 ∧ p1 ≤ 2147483647) (hw : WT T σ) : Tn (d + 2) m_X7_emit 0 T σ [(0, .ref a), (1, .int (iI p1))] [] (fun ro T2 σ2 => ro = none ∧ T = T2 ∧ WT T2 σ2 ∧ FrC T [65, 66] σ σ2 ∧ (FA a σ σ2)) := by
  refine tn_aload_n dX7_emit_0 rfl 0 rfl ?_
  obtain ⟨x1, hx2, hk3, hl4⟩ : ∃ x : Nat, σ.2.1 64 a = (x : Int) ∧ AR T x 1 200 200 := wf_64 hw ha
  have hk3i : IA T x1 := by unfold IA; omega
  refine tn_getR (ci := 7) (i := 9) (n := 64) (x := x1) dX7_emit_1 rfl lay_7 (by decide) fl7_27 ha rfl rfl (hx2) ?_
  refine tn_aload_n dX7_emit_4 rfl 0 rfl ?_
  refine tn_getI (ci := 7) (i := 10) (n := 65) (t := σ.2.1 65 a) dX7_emit_5 rfl lay_7 (by decide) fl7_41 ha rfl rfl (rfl) ?_
  have g5 : ((-2147483648 : Int) ≤ σ.2.1 65 a ∧ σ.2.1 65 a ≤ 2147483647) := wf_65 hw ha
  refine tn_iload_n dX7_emit_8 rfl 1 rfl ?_
  refine tn_callSN (M := m_X7_emit) (pc := 9) (ix := 61) (M' := m_X11_put) (As := [.ref x1, .int (iI (σ.2.1 65 a)), .int (iI p1)]) (rest := []) dX7_emit_9 ok_X11_put stt_X11_put nl7_61 np_X11_put rfl (Nat.le_of_ble_eq_true rfl) (Nat.le_of_ble_eq_true rfl) rfl (k_X11_put (d) (T := T) (σ := σ) (x := x1) (i := σ.2.1 65 a) (y := p1) hk3i (by omega) (by omega) (by omega) hw (nh_k hk3 (by unfold HT; omega)) (vok_1 (by have q9 := hk3; omega) (by omega))) (fun r6 T8 σ7 gt9 hp => ?_)
  obtain ⟨rfl, rfl, w11, F12⟩ := hp
  clear gt9
  show Tn _ _ 12 T σ7 [(0, .ref a), (1, .int (iI p1))] [] _
  refine tn_aload_n dX7_emit_12 rfl 0 rfl ?_
  refine tn_iload_n dX7_emit_13 rfl 1 rfl ?_
  refine tn_putV (ci := 7) (i := 11) (n := 66) (r := false) (v := p1) tyX7 tyX7_ok nmX7 dX7_emit_14 rfl lay_7 (by decide) fl7_44 rfl (tyX7_ok 11 (by decide)) rfl rfl rfl ha rfl rfl ?_
  refine tn_aload_n dX7_emit_17 rfl 0 rfl ?_
  refine tn_dup dX7_emit_18 rfl ?_
  refine tn_getI (ci := 7) (i := 10) (n := 65) (t := σ.2.1 65 a) dX7_emit_19 rfl lay_7 (by decide) fl7_41 ha rfl rfl (rc_o (by decide) (rc_F F12 (Or.inl (by decide)) (by decide) (rfl))) ?_
  refine tn_iconst dX7_emit_22 ?_
  refine tn_iadd dX7_emit_23 ?_
  refine tn_any (fun z13 g14 => ?_)
  have g14r : -2147483648 ≤ z13 ∧ z13 ≤ 2147483647 := g14
  refine tn_putV (ci := 7) (i := 10) (n := 65) (r := false) (v := z13) tyX7 tyX7_ok nmX7 dX7_emit_24 rfl lay_7 (by decide) fl7_41 rfl (tyX7_ok 10 (by decide)) rfl rfl rfl ha rfl rfl ?_
  exact tn_vret rfl dX7_emit_27 ⟨rfl, rfl, ((w11.put (by decide) (by decide) (fo_66 (by omega))).put (by decide) (by decide) (fo_65 (by omega))), (((FrC.rfl.trans (FrC.sub F12 (by decide))).put (by decide) (by decide)).put (by decide) (by decide)), (((FA.rfl.trans (FA.of F12 (by decide))).put).put)⟩
end
section
theorem cd_X7_codeAt : Cond.code yX7_codeAt cX7_codeAt 2 (some (.object "LineKeeper$Code")) ∈ pWW := pw6 (List.mem_of_getElem? (i := 40) rfl) rfl
abbrev m_X7_codeAt : MT := (yX7_codeAt, cX7_codeAt, 2, (some (.object "LineKeeper$Code")))
theorem ok_X7_codeAt : pOk m_X7_codeAt := ⟨⟨cd_X7_codeAt, ini_7⟩, by decide +kernel, ⟨by decide +kernel, by decide +kernel⟩, Nat.le_of_ble_eq_true rfl⟩
theorem np_X7_codeAt : (parseMethodDescriptor yX7_codeAt.desc).map (fun d => d.parameters.length) = some 1 := by decide +kernel
theorem im_X7_codeAt : Cond.instanceMethod yX7_codeAt ∈ pWW := pw6 (List.mem_of_getElem? (i := 39) rfl) rfl
theorem se_X7_codeAt : Cond.selects RX7 yX7_codeAt yX7_codeAt ∈ pWW := pws (List.mem_map.mpr ⟨_, lw_pin 86 rfl, rfl⟩) rfl
theorem fl7_30 : Cond.fieldLink RX7 30 (TX7 0).1 (TX7 0).2.1 (TX7 0).2.2.1 ∈ pWW := pw2 (List.mem_of_getElem? (i := 133) rfl) rfl
theorem dX7_codeAt_0 : decode cX7_codeAt 0 = .ok (.iload_n 1, 1) := by decide +kernel
theorem dX7_codeAt_1 : decode cX7_codeAt 1 = .ok (.ifCond .lt 21, 3) := by decide +kernel
theorem dX7_codeAt_22 : decode cX7_codeAt 22 = .ok (.aconst_null, 1) := by decide +kernel
theorem dX7_codeAt_23 : decode cX7_codeAt 23 = .ok (.areturn, 1) := by decide +kernel
theorem dX7_codeAt_4 : decode cX7_codeAt 4 = .ok (.iload_n 1, 1) := by decide +kernel
theorem dX7_codeAt_5 : decode cX7_codeAt 5 = .ok (.aload_n 0, 1) := by decide +kernel
theorem dX7_codeAt_6 : decode cX7_codeAt 6 = .ok (.getfield 30, 3) := by decide +kernel
theorem dX7_codeAt_9 : decode cX7_codeAt 9 = .ok (.arraylength, 1) := by decide +kernel
theorem dX7_codeAt_10 : decode cX7_codeAt 10 = .ok (.if_icmp .ge 12, 3) := by decide +kernel
theorem dX7_codeAt_13 : decode cX7_codeAt 13 = .ok (.aload_n 0, 1) := by decide +kernel
theorem dX7_codeAt_14 : decode cX7_codeAt 14 = .ok (.getfield 30, 3) := by decide +kernel
theorem dX7_codeAt_17 : decode cX7_codeAt 17 = .ok (.iload_n 1, 1) := by decide +kernel
theorem dX7_codeAt_18 : decode cX7_codeAt 18 = .ok (.aaload, 1) := by decide +kernel
theorem dX7_codeAt_19 : decode cX7_codeAt 19 = .ok (.goto 4, 3) := by decide +kernel
set_option maxRecDepth 20000 in
theorem k_X7_codeAt (d : Nat) {T : CT} {σ : MS} {a : Nat} {r : Int} (ha : OB T a 7) (h_r : -2147483648 ≤ r ∧ r ≤ 2147483647) (hw : WT T σ) : Tn (d + 1) m_X7_codeAt 0 T σ [(0, .ref a), (1, .int (iI r))] [] (fun ro T2 σ2 => ∃ v : Int, ro = some (vl true v) ∧ T = T2 ∧ σ = σ2 ∧ (v < 0 ∨ ∃ x : Nat, v = (x : Int) ∧ OB T2 x 1 ∧ RC T2 a x) ∧ (CAT r v)) := by
  refine tn_iload_n dX7_codeAt_0 rfl 1 rfl ?_
  refine tn_if_lt (tgt := 22) dX7_codeAt_1 (by decide) ⟨by omega, by omega⟩ (fun h1 => ?_) (fun h1 => ?_)
  · refine tn_null dX7_codeAt_22 ?_
    exact tn_aret rfl (Or.inl ⟨_, rfl⟩) (Or.inl rfl) dX7_codeAt_23 ⟨-1, congrArg some (vl_null (by decide)).symm, rfl, rfl, Or.inl (by decide), by unfold CAT; omega⟩
  · refine tn_iload_n dX7_codeAt_4 rfl 1 rfl ?_
    refine tn_aload_n dX7_codeAt_5 rfl 0 rfl ?_
    obtain ⟨x2, hx3, hl5, hk4a, hk4b⟩ := wf_55 hw ha
    have hk4i : (T x2).1 = 4 ∨ (T x2).1 = 5 := by omega
    have hk4c : RROW T a x2 := ⟨hk4a, hk4b⟩
    clear hk4a hk4b
    refine tn_getR (ci := 7) (i := 0) (n := 55) (x := x2) dX7_codeAt_6 rfl lay_7 (by decide) fl7_30 ha rfl rfl (hx3) ?_
    refine tn_alenX dX7_codeAt_9 (by have q9 := hk4i; omega) ?_
    refine tn_icmp_ge (tgt := 22) dX7_codeAt_10 (by decide) ⟨by omega, by omega⟩ ⟨by omega, by omega⟩ (fun h6 => ?_) (fun h6 => ?_)
    · refine tn_null dX7_codeAt_22 ?_
      exact tn_aret rfl (Or.inl ⟨_, rfl⟩) (Or.inl rfl) dX7_codeAt_23 ⟨-1, congrArg some (vl_null (by decide)).symm, rfl, rfl, Or.inl (by decide), by unfold CAT; omega⟩
    · refine tn_aload_n dX7_codeAt_13 rfl 0 rfl ?_
      refine tn_getR (ci := 7) (i := 0) (n := 55) (x := x2) dX7_codeAt_14 rfl lay_7 (by decide) fl7_30 ha rfl rfl (hx3) ?_
      refine tn_iload_n dX7_codeAt_17 rfl 1 rfl ?_
      obtain ⟨x7, hx8, hk9o, hk9⟩ := codeRow (hw) hk4i (i := r) (by omega) (by omega)
      refine tn_aald (z := r) (x := x7) dX7_codeAt_18 hk4i (by omega) (by omega) (by omega) hx8 ?_
      refine tn_goto (tgt := 23) dX7_codeAt_19 (by decide) ?_
      exact tn_aret rfl (Or.inl ⟨_, rfl⟩) (Or.inr ⟨_, rfl⟩) dX7_codeAt_23 ⟨(x7 : Int), congrArg some (vl_ref rfl).symm, rfl, rfl, Or.inr ⟨_, rfl, hk9o, RROW.rc hk4c hk9⟩, by unfold CAT; omega⟩
end
section
theorem cd_X7_homeOfParam : Cond.code yX7_homeOfParam cX7_homeOfParam 2 (some .int) ∈ pWW := pw6 (List.mem_of_getElem? (i := 46) rfl) rfl
abbrev m_X7_homeOfParam : MT := (yX7_homeOfParam, cX7_homeOfParam, 2, (some .int))
theorem ok_X7_homeOfParam : pOk m_X7_homeOfParam := ⟨⟨cd_X7_homeOfParam, ini_7⟩, by decide +kernel, ⟨by decide +kernel, by decide +kernel⟩, Nat.le_of_ble_eq_true rfl⟩
theorem np_X7_homeOfParam : (parseMethodDescriptor yX7_homeOfParam.desc).map (fun d => d.parameters.length) = some 1 := by decide +kernel
theorem im_X7_homeOfParam : Cond.instanceMethod yX7_homeOfParam ∈ pWW := pw6 (List.mem_of_getElem? (i := 45) rfl) rfl
theorem se_X7_homeOfParam : Cond.selects RX7 yX7_homeOfParam yX7_homeOfParam ∈ pWW := pws (List.mem_map.mpr ⟨_, lw_pin 87 rfl, rfl⟩) rfl
theorem fl7_72 : Cond.fieldLink RX7 72 (TX7 14).1 (TX7 14).2.1 (TX7 14).2.2.1 ∈ pWW := pw2 (List.mem_of_getElem? (i := 158) rfl) rfl
theorem fl7_82 : Cond.fieldLink RX7 82 (TX1 3).1 (TX1 3).2.1 (TX1 3).2.2.1 ∈ pWW := pw1 (List.mem_of_getElem? (i := 95) rfl) rfl
theorem ml7_87 : Cond.methodLink RX7 87 yX1_homeOf ∈ pWW := pw6 (List.mem_of_getElem? (i := 47) rfl) rfl
theorem dX7_homeOfParam_0 : decode cX7_homeOfParam 0 = .ok (.aload_n 0, 1) := by decide +kernel
theorem dX7_homeOfParam_1 : decode cX7_homeOfParam 1 = .ok (.getfield 72, 3) := by decide +kernel
theorem dX7_homeOfParam_4 : decode cX7_homeOfParam 4 = .ok (.ifnull 35, 3) := by decide +kernel
theorem dX7_homeOfParam_39 : decode cX7_homeOfParam 39 = .ok (.iconst (-1), 1) := by decide +kernel
theorem dX7_homeOfParam_40 : decode cX7_homeOfParam 40 = .ok (.ireturn, 1) := by decide +kernel
theorem dX7_homeOfParam_7 : decode cX7_homeOfParam 7 = .ok (.iload_n 1, 1) := by decide +kernel
theorem dX7_homeOfParam_8 : decode cX7_homeOfParam 8 = .ok (.aload_n 0, 1) := by decide +kernel
theorem dX7_homeOfParam_9 : decode cX7_homeOfParam 9 = .ok (.getfield 72, 3) := by decide +kernel
theorem dX7_homeOfParam_12 : decode cX7_homeOfParam 12 = .ok (.getfield 82, 3) := by decide +kernel
theorem dX7_homeOfParam_15 : decode cX7_homeOfParam 15 = .ok (.if_icmp .ge 24, 3) := by decide +kernel
theorem dX7_homeOfParam_18 : decode cX7_homeOfParam 18 = .ok (.aload_n 0, 1) := by decide +kernel
theorem dX7_homeOfParam_19 : decode cX7_homeOfParam 19 = .ok (.getfield 65, 3) := by decide +kernel
theorem dX7_homeOfParam_22 : decode cX7_homeOfParam 22 = .ok (.sipush 192, 3) := by decide +kernel
theorem dX7_homeOfParam_25 : decode cX7_homeOfParam 25 = .ok (.imul, 1) := by decide +kernel
theorem dX7_homeOfParam_26 : decode cX7_homeOfParam 26 = .ok (.aload_n 0, 1) := by decide +kernel
theorem dX7_homeOfParam_27 : decode cX7_homeOfParam 27 = .ok (.getfield 72, 3) := by decide +kernel
theorem dX7_homeOfParam_30 : decode cX7_homeOfParam 30 = .ok (.iconst 0, 1) := by decide +kernel
theorem dX7_homeOfParam_31 : decode cX7_homeOfParam 31 = .ok (.iload_n 1, 1) := by decide +kernel
theorem dX7_homeOfParam_32 : decode cX7_homeOfParam 32 = .ok (.invokevirtual 87, 3) := by decide +kernel
theorem dX7_homeOfParam_35 : decode cX7_homeOfParam 35 = .ok (.iadd, 1) := by decide +kernel
theorem dX7_homeOfParam_36 : decode cX7_homeOfParam 36 = .ok (.goto 4, 3) := by decide +kernel
set_option maxRecDepth 20000 in
theorem k_X7_homeOfParam (d : Nat) {T : CT} {σ : MS} {a : Nat} {p1 : Int} (ha : OB T a 7) (h_p1 : -2147483648 ≤ p1 ∧ p1 ≤ 2147483647) (hw : WT T σ) : Tn (d + 3) m_X7_homeOfParam 0 T σ [(0, .ref a), (1, .int (iI p1))] [] (fun ro T2 σ2 => ∃ v : Int, ro = some (.int (iI v)) ∧ T = T2 ∧ σ = σ2 ∧ (-2147483648 ≤ v ∧ v ≤ 2147483647)) := by
  refine tn_aload_n dX7_homeOfParam_0 rfl 0 rfl ?_
  rcases wf_69 hw ha with hx1 | ⟨x2, hx1, hk3a, hk3b⟩
  · refine tn_getN (ci := 7) (i := 14) (n := 69) dX7_homeOfParam_1 rfl lay_7 (by decide) fl7_72 ha rfl rfl (Int.lt_of_le_of_lt (Int.le_of_eq (Eq.refl _)) hx1) ?_
    refine tn_ifnullN (tgt := 39) dX7_homeOfParam_4 (by decide) ?_
    refine tn_iconst dX7_homeOfParam_39 ?_
    exact tn_iret rfl dX7_homeOfParam_40 ⟨_, rfl, rfl, rfl, by omega⟩
  · have hk3o : OB T x2 1 := by
      by_cases q9 : (T a).1 = 57
      · have w9 := hk3a q9; exact ⟨by omega, by rw [w9]; rfl, by omega⟩
      · have w9 := hk3b q9; exact ⟨by omega, by rw [w9]; rfl, by omega⟩
    refine tn_getR (ci := 7) (i := 14) (n := 69) (x := x2) dX7_homeOfParam_1 rfl lay_7 (by decide) fl7_72 ha rfl rfl (hx1) ?_
    refine tn_ifnull dX7_homeOfParam_4 ?_
    refine tn_iload_n dX7_homeOfParam_7 rfl 1 rfl ?_
    refine tn_aload_n dX7_homeOfParam_8 rfl 0 rfl ?_
    refine tn_getR (ci := 7) (i := 14) (n := 69) (x := x2) dX7_homeOfParam_9 rfl lay_7 (by decide) fl7_72 ha rfl rfl (hx1) ?_
    refine tn_getI (ci := 1) (i := 3) (n := 8) (t := σ.2.1 8 x2) dX7_homeOfParam_12 rfl lay_1 (by decide) fl7_82 hk3o rfl rfl (rfl) ?_
    have g5 : ((0 : Int) ≤ σ.2.1 8 x2 ∧ σ.2.1 8 x2 ≤ 4) := wf_8 hw hk3o
    refine tn_icmp_ge (tgt := 39) dX7_homeOfParam_15 (by decide) ⟨by omega, by omega⟩ ⟨by omega, by omega⟩ (fun h6 => ?_) (fun h6 => ?_)
    · refine tn_iconst dX7_homeOfParam_39 ?_
      exact tn_iret rfl dX7_homeOfParam_40 ⟨_, rfl, rfl, rfl, by omega⟩
    · refine tn_aload_n dX7_homeOfParam_18 rfl 0 rfl ?_
      refine tn_getI (ci := 7) (i := 2) (n := 57) (t := σ.2.1 57 a) dX7_homeOfParam_19 rfl lay_7 (by decide) fl7_65 ha rfl rfl (rfl) ?_
      have g7 : ((0 : Int) ≤ σ.2.1 57 a ∧ σ.2.1 57 a ≤ 11184800) ∧ ((T a).1 = 57 → σ.2.1 57 a ≤ 8) := wf_57 hw ha
      have g7x := g7.2
      replace g7 := g7.1
      clear g7x
      refine tn_sipush dX7_homeOfParam_22 (by decide) ?_
      refine tn_imul dX7_homeOfParam_25 ?_
      refine tn_aload_n dX7_homeOfParam_26 rfl 0 rfl ?_
      refine tn_getR (ci := 7) (i := 14) (n := 69) (x := x2) dX7_homeOfParam_27 rfl lay_7 (by decide) fl7_72 ha rfl rfl (hx1) ?_
      refine tn_iconst dX7_homeOfParam_30 ?_
      refine tn_iload_n dX7_homeOfParam_31 rfl 1 rfl ?_
      refine tn_callV (M := m_X7_homeOfParam) (pc := 32) (ix := 87) (ci := 1) (M' := m_X1_homeOf) (As := [.int (iI 0), .int (iI p1)]) (rest := [.int (iI ((σ.2.1 57 a) * 192))]) dX7_homeOfParam_32 ok_X1_homeOf im_X1_homeOf se_X1_homeOf ml7_87 np_X1_homeOf rfl rfl hk3o rfl (Nat.le_of_ble_eq_true rfl) (Nat.le_of_ble_eq_true rfl) rfl (k_X1_homeOf (d) (T := T) (σ := σ) (a := x2) (f := 0) (m := p1) hk3o (by decide) (by omega) hw ) (fun r8 T10 σ9 gt11 hp => ?_)
      obtain ⟨v13, rfl, rfl, rfl, f12⟩ := hp
      clear gt11
      show Tn _ _ 35 T σ [(0, .ref a), (1, .int (iI p1))] [.int (iI v13), .int (iI ((σ.2.1 57 a) * 192))] _
      refine tn_iadd dX7_homeOfParam_35 ?_
      refine tn_any (fun z14 g15 => ?_)
      have g15r : -2147483648 ≤ z14 ∧ z14 ≤ 2147483647 := g15
      refine tn_goto (tgt := 40) dX7_homeOfParam_36 (by decide) ?_
      exact tn_iret rfl dX7_homeOfParam_40 ⟨_, rfl, rfl, rfl, by omega⟩
end
section
theorem cd_X7_operand : Cond.code yX7_operand cX7_operand 4 (some .int) ∈ pWW := pw6 (List.mem_of_getElem? (i := 69) rfl) rfl
abbrev m_X7_operand : MT := (yX7_operand, cX7_operand, 4, (some .int))
theorem ok_X7_operand : pOk m_X7_operand := ⟨⟨cd_X7_operand, ini_7⟩, by decide +kernel, ⟨by decide +kernel, by decide +kernel⟩, Nat.le_of_ble_eq_true rfl⟩
theorem np_X7_operand : (parseMethodDescriptor yX7_operand.desc).map (fun d => d.parameters.length) = some 2 := by decide +kernel
theorem im_X7_operand : Cond.instanceMethod yX7_operand ∈ pWW := pw6 (List.mem_of_getElem? (i := 68) rfl) rfl
theorem se_X7_operand : Cond.selects RX7 yX7_operand yX7_operand ∈ pWW := pws (List.mem_map.mpr ⟨_, lw_pin 88 rfl, rfl⟩) rfl
theorem ml7_117 : Cond.methodLink RX7 117 yX1_get ∈ pWW := pw6 (List.mem_of_getElem? (i := 70) rfl) rfl
theorem fl7_24 : Cond.fieldLink RX7 24 (TX7 8).1 (TX7 8).2.1 (TX7 8).2.2.1 ∈ pWW := pw2 (List.mem_of_getElem? (i := 145) rfl) rfl
theorem dX7_operand_0 : decode cX7_operand 0 = .ok (.aload_n 0, 1) := by decide +kernel
theorem dX7_operand_1 : decode cX7_operand 1 = .ok (.getfield 72, 3) := by decide +kernel
theorem dX7_operand_4 : decode cX7_operand 4 = .ok (.iload_n 1, 1) := by decide +kernel
theorem dX7_operand_5 : decode cX7_operand 5 = .ok (.iload_n 2, 1) := by decide +kernel
theorem dX7_operand_6 : decode cX7_operand 6 = .ok (.iconst 1, 1) := by decide +kernel
theorem dX7_operand_7 : decode cX7_operand 7 = .ok (.iadd, 1) := by decide +kernel
theorem dX7_operand_8 : decode cX7_operand 8 = .ok (.invokevirtual 117, 3) := by decide +kernel
theorem dX7_operand_11 : decode cX7_operand 11 = .ok (.istore_n 3, 1) := by decide +kernel
theorem dX7_operand_12 : decode cX7_operand 12 = .ok (.aload_n 0, 1) := by decide +kernel
theorem dX7_operand_13 : decode cX7_operand 13 = .ok (.getfield 72, 3) := by decide +kernel
theorem dX7_operand_16 : decode cX7_operand 16 = .ok (.iload_n 1, 1) := by decide +kernel
theorem dX7_operand_17 : decode cX7_operand 17 = .ok (.iload_n 2, 1) := by decide +kernel
theorem dX7_operand_18 : decode cX7_operand 18 = .ok (.invokevirtual 117, 3) := by decide +kernel
theorem dX7_operand_21 : decode cX7_operand 21 = .ok (.iconst 2, 1) := by decide +kernel
theorem dX7_operand_22 : decode cX7_operand 22 = .ok (.if_icmp .ne 23, 3) := by decide +kernel
theorem dX7_operand_45 : decode cX7_operand 45 = .ok (.iload_n 3, 1) := by decide +kernel
theorem dX7_operand_46 : decode cX7_operand 46 = .ok (.ireturn, 1) := by decide +kernel
theorem dX7_operand_25 : decode cX7_operand 25 = .ok (.aload_n 0, 1) := by decide +kernel
theorem dX7_operand_26 : decode cX7_operand 26 = .ok (.getfield 24, 3) := by decide +kernel
theorem dX7_operand_29 : decode cX7_operand 29 = .ok (.aload_n 0, 1) := by decide +kernel
theorem dX7_operand_30 : decode cX7_operand 30 = .ok (.getfield 65, 3) := by decide +kernel
theorem dX7_operand_33 : decode cX7_operand 33 = .ok (.sipush 192, 3) := by decide +kernel
theorem dX7_operand_36 : decode cX7_operand 36 = .ok (.imul, 1) := by decide +kernel
theorem dX7_operand_37 : decode cX7_operand 37 = .ok (.iload_n 3, 1) := by decide +kernel
theorem dX7_operand_38 : decode cX7_operand 38 = .ok (.iadd, 1) := by decide +kernel
theorem dX7_operand_39 : decode cX7_operand 39 = .ok (.invokestatic 91, 3) := by decide +kernel
theorem dX7_operand_42 : decode cX7_operand 42 = .ok (.goto 4, 3) := by decide +kernel
set_option maxRecDepth 20000 in
theorem k_X7_operand (d : Nat) {T : CT} {σ : MS} {a : Nat} {k : Int} {c : Int} (ha : OB T a 7) (h_k : -2147483648 ≤ k ∧ k ≤ 2147483647) (h_c : -2147483648 ≤ c ∧ c ≤ 2147483647) (hw : WT T σ) (hn : 0 ≤ σ.2.1 69 a) (hc : 0 ≤ c ∧ c ≤ 11) : Tn (d + 2) m_X7_operand 0 T σ [(0, .ref a), (1, .int (iI k)), (2, .int (iI c))] [] (fun ro T2 σ2 => ∃ v : Int, ro = some (.int (iI v)) ∧ T = T2 ∧ σ = σ2 ∧ (-2147483648 ≤ v ∧ v ≤ 2147483647)) := by
  refine tn_aload_n dX7_operand_0 rfl 0 rfl ?_
  obtain ⟨x5, hx6, hk7a, hk7b⟩ := (wf_69 hw ha).resolve_left (by have q9 := hn; omega)
  have hk7o : OB T x5 1 := (show RC T a x5 from ⟨hk7a, hk7b⟩).ob
  clear hk7a hk7b
  refine tn_getR (ci := 7) (i := 14) (n := 69) (x := x5) dX7_operand_1 rfl lay_7 (by decide) fl7_72 ha rfl rfl (hx6) ?_
  refine tn_iload_n dX7_operand_4 rfl 1 rfl ?_
  refine tn_iload_n dX7_operand_5 rfl 2 rfl ?_
  refine tn_iconst dX7_operand_6 ?_
  refine tn_iadd dX7_operand_7 ?_
  refine tn_callV (M := m_X7_operand) (pc := 8) (ix := 117) (ci := 1) (M' := m_X1_get) (As := [.int (iI k), .int (iI (c + 1))]) (rest := []) dX7_operand_8 ok_X1_get im_X1_get se_X1_get ml7_117 np_X1_get rfl rfl hk7o rfl (Nat.le_of_ble_eq_true rfl) (Nat.le_of_ble_eq_true rfl) rfl (k_X1_get (d) (T := T) (σ := σ) (a := x5) (k := k) (c := c + 1) hk7o (by omega) (by omega) hw (by omega)) (fun r8 T10 σ9 gt11 hp => ?_)
  obtain ⟨v13, rfl, rfl, rfl, f12⟩ := hp
  clear gt11
  show Tn _ _ 11 T σ [(0, .ref a), (1, .int (iI k)), (2, .int (iI c))] [.int (iI v13)] _
  refine tn_istore_n (L' := [(3, .int (iI v13)), (0, .ref a), (1, .int (iI k)), (2, .int (iI c))]) dX7_operand_11 rfl (by decide) rfl ?_
  refine tn_aload_n dX7_operand_12 rfl 1 rfl ?_
  refine tn_getR (ci := 7) (i := 14) (n := 69) (x := x5) dX7_operand_13 rfl lay_7 (by decide) fl7_72 ha rfl rfl (hx6) ?_
  refine tn_iload_n dX7_operand_16 rfl 2 rfl ?_
  refine tn_iload_n dX7_operand_17 rfl 3 rfl ?_
  refine tn_callV (M := m_X7_operand) (pc := 18) (ix := 117) (ci := 1) (M' := m_X1_get) (As := [.int (iI k), .int (iI c)]) (rest := []) dX7_operand_18 ok_X1_get im_X1_get se_X1_get ml7_117 np_X1_get rfl rfl hk7o rfl (Nat.le_of_ble_eq_true rfl) (Nat.le_of_ble_eq_true rfl) rfl (k_X1_get (d) (T := T) (σ := σ) (a := x5) (k := k) (c := c) hk7o (by omega) (by omega) hw (by omega)) (fun r14 T16 σ15 gt17 hp => ?_)
  obtain ⟨v19, rfl, rfl, rfl, f18⟩ := hp
  clear gt17
  show Tn _ _ 21 T σ [(3, .int (iI v13)), (0, .ref a), (1, .int (iI k)), (2, .int (iI c))] [.int (iI v19)] _
  refine tn_iconst dX7_operand_21 ?_
  refine tn_icmp_ne (tgt := 45) dX7_operand_22 (by decide) ⟨by omega, by omega⟩ ⟨by decide, by decide⟩ (fun h20 => ?_) (fun h20 => ?_)
  · refine tn_iload_n dX7_operand_45 rfl 0 rfl ?_
    exact tn_iret rfl dX7_operand_46 ⟨_, rfl, rfl, rfl, by omega⟩
  · refine tn_aload_n dX7_operand_25 rfl 1 rfl ?_
    obtain ⟨x21, hx22, hk23, hl24⟩ : ∃ x : Nat, σ.2.1 63 a = (x : Int) ∧ AR T x 1 1728 1728 := wf_63 hw ha
    have hk23i : IA T x21 := by unfold IA; omega
    refine tn_getR (ci := 7) (i := 8) (n := 63) (x := x21) dX7_operand_26 rfl lay_7 (by decide) fl7_24 ha rfl rfl (hx22) ?_
    refine tn_aload_n dX7_operand_29 rfl 1 rfl ?_
    refine tn_getI (ci := 7) (i := 2) (n := 57) (t := σ.2.1 57 a) dX7_operand_30 rfl lay_7 (by decide) fl7_65 ha rfl rfl (rfl) ?_
    have g25 : ((0 : Int) ≤ σ.2.1 57 a ∧ σ.2.1 57 a ≤ 11184800) ∧ ((T a).1 = 57 → σ.2.1 57 a ≤ 8) := wf_57 hw ha
    have g25x := g25.2
    replace g25 := g25.1
    clear g25x
    refine tn_sipush dX7_operand_33 (by decide) ?_
    refine tn_imul dX7_operand_36 ?_
    refine tn_iload_n dX7_operand_37 rfl 0 rfl ?_
    refine tn_iadd dX7_operand_38 ?_
    refine tn_any (fun z26 g27 => ?_)
    have g27r : -2147483648 ≤ z26 ∧ z26 ≤ 2147483647 := g27
    refine tn_callSN (M := m_X7_operand) (pc := 39) (ix := 91) (M' := m_X11_at) (As := [.ref x21, .int (iI z26)]) (rest := []) dX7_operand_39 ok_X11_at stt_X11_at nl7_91 np_X11_at rfl (Nat.le_of_ble_eq_true rfl) (Nat.le_of_ble_eq_true rfl) rfl (k_X11_at (d) (T := T) (σ := σ) (x := x21) (i := z26) hk23i (by omega) (by omega) hw ) (fun r28 T30 σ29 gt31 hp => ?_)
    obtain ⟨v35, rfl, rfl, rfl, f32, f33, f34⟩ := hp
    clear gt31
    clear f33 f34
    show Tn _ _ 42 T σ [(3, .int (iI v13)), (0, .ref a), (1, .int (iI k)), (2, .int (iI c))] [.int (iI v35)] _
    refine tn_goto (tgt := 46) dX7_operand_42 (by decide) ?_
    exact tn_iret rfl dX7_operand_46 ⟨_, rfl, rfl, rfl, by omega⟩
end
section
theorem cd_X7_reckonAt : Cond.code yX7_reckonAt cX7_reckonAt 4 none ∈ pWW := pw6 (List.mem_of_getElem? (i := 90) rfl) rfl
abbrev m_X7_reckonAt : MT := (yX7_reckonAt, cX7_reckonAt, 4, none)
theorem ok_X7_reckonAt : pOk m_X7_reckonAt := ⟨⟨cd_X7_reckonAt, ini_7⟩, by decide +kernel, ⟨by decide +kernel, by decide +kernel⟩, Nat.le_of_ble_eq_true rfl⟩
theorem np_X7_reckonAt : (parseMethodDescriptor yX7_reckonAt.desc).map (fun d => d.parameters.length) = some 2 := by decide +kernel
theorem im_X7_reckonAt : Cond.instanceMethod yX7_reckonAt ∈ pWW := pw6 (List.mem_of_getElem? (i := 89) rfl) rfl
theorem se_X7_reckonAt : Cond.selects RX7 yX7_reckonAt yX7_reckonAt ∈ pWW := pws (List.mem_map.mpr ⟨_, lw_pin 93 rfl, rfl⟩) rfl
theorem nl7_132 : (RX7, 132, yX11_isPure, "LineKeeper") ∈ nst_M := List.mem_of_getElem? (i := 49) rfl
theorem ml7_110 : Cond.methodLink RX7 110 yX7_operand ∈ pWW := pw6 (List.mem_of_getElem? (i := 66) rfl) rfl
theorem nl7_136 : (RX7, 136, yX11_reckon, "LineKeeper") ∈ nst_M := List.mem_of_getElem? (i := 50) rfl
theorem dX7_reckonAt_0 : decode cX7_reckonAt 0 = .ok (.iload_n 2, 1) := by decide +kernel
theorem dX7_reckonAt_1 : decode cX7_reckonAt 1 = .ok (.invokestatic 132, 3) := by decide +kernel
theorem dX7_reckonAt_4 : decode cX7_reckonAt 4 = .ok (.ifCond .eq 54, 3) := by decide +kernel
theorem dX7_reckonAt_58 : decode cX7_reckonAt 58 = .ok (.return_, 1) := by decide +kernel
theorem dX7_reckonAt_7 : decode cX7_reckonAt 7 = .ok (.iload_n 2, 1) := by decide +kernel
theorem dX7_reckonAt_8 : decode cX7_reckonAt 8 = .ok (.ifCond .ne 7, 3) := by decide +kernel
theorem dX7_reckonAt_15 : decode cX7_reckonAt 15 = .ok (.aload_n 0, 1) := by decide +kernel
theorem dX7_reckonAt_16 : decode cX7_reckonAt 16 = .ok (.iload_n 1, 1) := by decide +kernel
theorem dX7_reckonAt_17 : decode cX7_reckonAt 17 = .ok (.iconst 5, 1) := by decide +kernel
theorem dX7_reckonAt_18 : decode cX7_reckonAt 18 = .ok (.invokevirtual 110, 3) := by decide +kernel
theorem dX7_reckonAt_21 : decode cX7_reckonAt 21 = .ok (.istore_n 3, 1) := by decide +kernel
theorem dX7_reckonAt_22 : decode cX7_reckonAt 22 = .ok (.aload_n 0, 1) := by decide +kernel
theorem dX7_reckonAt_23 : decode cX7_reckonAt 23 = .ok (.getfield 24, 3) := by decide +kernel
theorem dX7_reckonAt_26 : decode cX7_reckonAt 26 = .ok (.aload_n 0, 1) := by decide +kernel
theorem dX7_reckonAt_27 : decode cX7_reckonAt 27 = .ok (.getfield 65, 3) := by decide +kernel
theorem dX7_reckonAt_30 : decode cX7_reckonAt 30 = .ok (.sipush 192, 3) := by decide +kernel
theorem dX7_reckonAt_33 : decode cX7_reckonAt 33 = .ok (.imul, 1) := by decide +kernel
theorem dX7_reckonAt_34 : decode cX7_reckonAt 34 = .ok (.aload_n 0, 1) := by decide +kernel
theorem dX7_reckonAt_35 : decode cX7_reckonAt 35 = .ok (.getfield 72, 3) := by decide +kernel
theorem dX7_reckonAt_38 : decode cX7_reckonAt 38 = .ok (.iload_n 1, 1) := by decide +kernel
theorem dX7_reckonAt_39 : decode cX7_reckonAt 39 = .ok (.iconst 1, 1) := by decide +kernel
theorem dX7_reckonAt_40 : decode cX7_reckonAt 40 = .ok (.invokevirtual 117, 3) := by decide +kernel
theorem dX7_reckonAt_43 : decode cX7_reckonAt 43 = .ok (.iadd, 1) := by decide +kernel
theorem dX7_reckonAt_44 : decode cX7_reckonAt 44 = .ok (.iload_n 2, 1) := by decide +kernel
theorem dX7_reckonAt_45 : decode cX7_reckonAt 45 = .ok (.aload_n 0, 1) := by decide +kernel
theorem dX7_reckonAt_46 : decode cX7_reckonAt 46 = .ok (.iload_n 1, 1) := by decide +kernel
theorem dX7_reckonAt_47 : decode cX7_reckonAt 47 = .ok (.iconst 3, 1) := by decide +kernel
theorem dX7_reckonAt_48 : decode cX7_reckonAt 48 = .ok (.invokevirtual 110, 3) := by decide +kernel
theorem dX7_reckonAt_51 : decode cX7_reckonAt 51 = .ok (.iload_n 3, 1) := by decide +kernel
theorem dX7_reckonAt_52 : decode cX7_reckonAt 52 = .ok (.invokestatic 136, 3) := by decide +kernel
theorem dX7_reckonAt_55 : decode cX7_reckonAt 55 = .ok (.invokestatic 61, 3) := by decide +kernel
theorem dX7_reckonAt_11 : decode cX7_reckonAt 11 = .ok (.iconst 0, 1) := by decide +kernel
theorem dX7_reckonAt_12 : decode cX7_reckonAt 12 = .ok (.goto 9, 3) := by decide +kernel
set_option maxRecDepth 20000 in
theorem k_X7_reckonAt (d : Nat) {T : CT} {σ : MS} {a : Nat} {k : Int} {e : Int} (ha : OB T a 7) (h_k : -2147483648 ≤ k ∧ k ≤ 2147483647) (h_e : -2147483648 ≤ e ∧ e ≤ 2147483647) (hw : WT T σ) (hn : 0 ≤ σ.2.1 69 a) : Tn (d + 3) m_X7_reckonAt 0 T σ [(0, .ref a), (1, .int (iI k)), (2, .int (iI e))] [] (fun ro T2 σ2 => ro = none ∧ T = T2 ∧ WT T2 σ2 ∧ FrC T [] σ σ2) := by
  refine tn_iload_n dX7_reckonAt_0 rfl 2 rfl ?_
  refine tn_callSN (M := m_X7_reckonAt) (pc := 1) (ix := 132) (M' := m_X11_isPure) (As := [.int (iI e)]) (rest := []) dX7_reckonAt_1 ok_X11_isPure stt_X11_isPure nl7_132 np_X11_isPure rfl (Nat.le_of_ble_eq_true rfl) (Nat.le_of_ble_eq_true rfl) rfl (k_X11_isPure (d + 1) (T := T) (σ := σ) (k := e) (by omega) hw ) (fun r1 T3 σ2 gt4 hp => ?_)
  obtain ⟨v6, rfl, rfl, rfl, f5⟩ := hp
  clear gt4
  show Tn _ _ 4 T σ [(0, .ref a), (1, .int (iI k)), (2, .int (iI e))] [.int (iI v6)] _
  refine tn_if_eq (tgt := 58) dX7_reckonAt_4 (by decide) ⟨by omega, by omega⟩ (fun h7 => ?_) (fun h7 => ?_)
  · exact tn_vret rfl dX7_reckonAt_58 ⟨rfl, rfl, hw, FrC.rfl⟩
  · refine tn_iload_n dX7_reckonAt_7 rfl 2 rfl ?_
    refine tn_if_ne (tgt := 15) dX7_reckonAt_8 (by decide) ⟨by omega, by omega⟩ (fun h8 => ?_) (fun h8 => ?_)
    · refine tn_aload_n dX7_reckonAt_15 rfl 0 rfl ?_
      refine tn_iload_n dX7_reckonAt_16 rfl 1 rfl ?_
      refine tn_iconst dX7_reckonAt_17 ?_
      refine tn_callV (M := m_X7_reckonAt) (pc := 18) (ix := 110) (ci := 7) (M' := m_X7_operand) (As := [.int (iI k), .int (iI 5)]) (rest := []) dX7_reckonAt_18 ok_X7_operand im_X7_operand se_X7_operand ml7_110 np_X7_operand rfl rfl ha rfl (Nat.le_of_ble_eq_true rfl) (Nat.le_of_ble_eq_true rfl) rfl (k_X7_operand (d) (T := T) (σ := σ) (a := a) (k := k) (c := 5) ha (by omega) (by decide) hw (by rw [show σ.2.1 69 a = σ.2.1 69 a from rfl]; exact hn) (by omega)) (fun r9 T11 σ10 gt12 hp => ?_)
      obtain ⟨v14, rfl, rfl, rfl, f13⟩ := hp
      clear gt12
      show Tn _ _ 21 T σ [(0, .ref a), (1, .int (iI k)), (2, .int (iI e))] [.int (iI v14)] _
      refine tn_istore_n (L' := [(3, .int (iI v14)), (0, .ref a), (1, .int (iI k)), (2, .int (iI e))]) dX7_reckonAt_21 rfl (by decide) rfl ?_
      refine tn_aload_n dX7_reckonAt_22 rfl 1 rfl ?_
      obtain ⟨x15, hx16, hk17, hl18⟩ : ∃ x : Nat, σ.2.1 63 a = (x : Int) ∧ AR T x 1 1728 1728 := wf_63 hw ha
      have hk17i : IA T x15 := by unfold IA; omega
      refine tn_getR (ci := 7) (i := 8) (n := 63) (x := x15) dX7_reckonAt_23 rfl lay_7 (by decide) fl7_24 ha rfl rfl (hx16) ?_
      refine tn_aload_n dX7_reckonAt_26 rfl 1 rfl ?_
      refine tn_getI (ci := 7) (i := 2) (n := 57) (t := σ.2.1 57 a) dX7_reckonAt_27 rfl lay_7 (by decide) fl7_65 ha rfl rfl (rfl) ?_
      have g19 : ((0 : Int) ≤ σ.2.1 57 a ∧ σ.2.1 57 a ≤ 11184800) ∧ ((T a).1 = 57 → σ.2.1 57 a ≤ 8) := wf_57 hw ha
      have g19x := g19.2
      replace g19 := g19.1
      clear g19x
      refine tn_sipush dX7_reckonAt_30 (by decide) ?_
      refine tn_imul dX7_reckonAt_33 ?_
      refine tn_aload_n dX7_reckonAt_34 rfl 1 rfl ?_
      obtain ⟨x24, hx25, hk26a, hk26b⟩ := (wf_69 hw ha).resolve_left (by have q9 := hn; omega)
      have hk26o : OB T x24 1 := (show RC T a x24 from ⟨hk26a, hk26b⟩).ob
      clear hk26a hk26b
      refine tn_getR (ci := 7) (i := 14) (n := 69) (x := x24) dX7_reckonAt_35 rfl lay_7 (by decide) fl7_72 ha rfl rfl (hx25) ?_
      refine tn_iload_n dX7_reckonAt_38 rfl 2 rfl ?_
      refine tn_iconst dX7_reckonAt_39 ?_
      refine tn_callV (M := m_X7_reckonAt) (pc := 40) (ix := 117) (ci := 1) (M' := m_X1_get) (As := [.int (iI k), .int (iI 1)]) (rest := [.int (iI ((σ.2.1 57 a) * 192)), .ref x15]) dX7_reckonAt_40 ok_X1_get im_X1_get se_X1_get ml7_117 np_X1_get rfl rfl hk26o rfl (Nat.le_of_ble_eq_true rfl) (Nat.le_of_ble_eq_true rfl) rfl (k_X1_get (d + 1) (T := T) (σ := σ) (a := x24) (k := k) (c := 1) hk26o (by omega) (by decide) hw (by omega)) (fun r27 T29 σ28 gt30 hp => ?_)
      obtain ⟨v32, rfl, rfl, rfl, f31⟩ := hp
      clear gt30
      show Tn _ _ 43 T σ [(3, .int (iI v14)), (0, .ref a), (1, .int (iI k)), (2, .int (iI e))] [.int (iI v32), .int (iI ((σ.2.1 57 a) * 192)), .ref x15] _
      refine tn_iadd dX7_reckonAt_43 ?_
      refine tn_any (fun z33 g34 => ?_)
      have g34r : -2147483648 ≤ z33 ∧ z33 ≤ 2147483647 := g34
      refine tn_iload_n dX7_reckonAt_44 rfl 3 rfl ?_
      refine tn_aload_n dX7_reckonAt_45 rfl 1 rfl ?_
      refine tn_iload_n dX7_reckonAt_46 rfl 2 rfl ?_
      refine tn_iconst dX7_reckonAt_47 ?_
      refine tn_callV (M := m_X7_reckonAt) (pc := 48) (ix := 110) (ci := 7) (M' := m_X7_operand) (As := [.int (iI k), .int (iI 3)]) (rest := [.int (iI e), .int (iI z33), .ref x15]) dX7_reckonAt_48 ok_X7_operand im_X7_operand se_X7_operand ml7_110 np_X7_operand rfl rfl ha rfl (Nat.le_of_ble_eq_true rfl) (Nat.le_of_ble_eq_true rfl) rfl (k_X7_operand (d) (T := T) (σ := σ) (a := a) (k := k) (c := 3) ha (by omega) (by decide) hw (by rw [show σ.2.1 69 a = _ from hx25]; omega) (by omega)) (fun r35 T37 σ36 gt38 hp => ?_)
      obtain ⟨v40, rfl, rfl, rfl, f39⟩ := hp
      clear gt38
      show Tn _ _ 51 T σ [(3, .int (iI v14)), (0, .ref a), (1, .int (iI k)), (2, .int (iI e))] [.int (iI v40), .int (iI e), .int (iI z33), .ref x15] _
      refine tn_iload_n dX7_reckonAt_51 rfl 0 rfl ?_
      refine tn_callSN (M := m_X7_reckonAt) (pc := 52) (ix := 136) (M' := m_X11_reckon) (As := [.int (iI e), .int (iI v40), .int (iI v14)]) (rest := [.int (iI z33), .ref x15]) dX7_reckonAt_52 ok_X11_reckon stt_X11_reckon nl7_136 np_X11_reckon rfl (Nat.le_of_ble_eq_true rfl) (Nat.le_of_ble_eq_true rfl) rfl (k_X11_reckon (d + 1) (T := T) (σ := σ) (k := e) (x := v40) (y := v14) (by omega) (by omega) (by omega) hw ) (fun r41 T43 σ42 gt44 hp => ?_)
      obtain ⟨v46, rfl, rfl, rfl, f45⟩ := hp
      clear gt44
      show Tn _ _ 55 T σ [(3, .int (iI v14)), (0, .ref a), (1, .int (iI k)), (2, .int (iI e))] [.int (iI v46), .int (iI z33), .ref x15] _
      refine tn_callSN (M := m_X7_reckonAt) (pc := 55) (ix := 61) (M' := m_X11_put) (As := [.ref x15, .int (iI z33), .int (iI v46)]) (rest := []) dX7_reckonAt_55 ok_X11_put stt_X11_put nl7_61 np_X11_put rfl (Nat.le_of_ble_eq_true rfl) (Nat.le_of_ble_eq_true rfl) rfl (k_X11_put (d + 1) (T := T) (σ := σ) (x := x15) (i := z33) (y := v46) hk17i (by omega) (by omega) (by omega) hw (nh_k hk17 (by unfold HT; omega)) (vok_1 (by have q9 := hk17; omega) (by omega))) (fun r47 T49 σ48 gt50 hp => ?_)
      obtain ⟨rfl, rfl, w52, F53⟩ := hp
      clear gt50
      show Tn _ _ 58 T σ48 [(3, .int (iI v14)), (0, .ref a), (1, .int (iI k)), (2, .int (iI e))] [] _
      exact tn_vret rfl dX7_reckonAt_58 ⟨rfl, rfl, w52, (FrC.rfl.trans (FrC.sub F53 (by decide)))⟩
    · refine tn_iconst dX7_reckonAt_11 ?_
      refine tn_goto (tgt := 21) dX7_reckonAt_12 (by decide) ?_
      refine tn_istore_n (L' := [(3, .int (iI 0)), (0, .ref a), (1, .int (iI k)), (2, .int (iI e))]) dX7_reckonAt_21 rfl (by decide) rfl ?_
      refine tn_aload_n dX7_reckonAt_22 rfl 1 rfl ?_
      obtain ⟨x54, hx55, hk56, hl57⟩ : ∃ x : Nat, σ.2.1 63 a = (x : Int) ∧ AR T x 1 1728 1728 := wf_63 hw ha
      have hk56i : IA T x54 := by unfold IA; omega
      refine tn_getR (ci := 7) (i := 8) (n := 63) (x := x54) dX7_reckonAt_23 rfl lay_7 (by decide) fl7_24 ha rfl rfl (hx55) ?_
      refine tn_aload_n dX7_reckonAt_26 rfl 1 rfl ?_
      refine tn_getI (ci := 7) (i := 2) (n := 57) (t := σ.2.1 57 a) dX7_reckonAt_27 rfl lay_7 (by decide) fl7_65 ha rfl rfl (rfl) ?_
      have g58 : ((0 : Int) ≤ σ.2.1 57 a ∧ σ.2.1 57 a ≤ 11184800) ∧ ((T a).1 = 57 → σ.2.1 57 a ≤ 8) := wf_57 hw ha
      have g58x := g58.2
      replace g58 := g58.1
      clear g58x
      refine tn_sipush dX7_reckonAt_30 (by decide) ?_
      refine tn_imul dX7_reckonAt_33 ?_
      refine tn_aload_n dX7_reckonAt_34 rfl 1 rfl ?_
      obtain ⟨x63, hx64, hk65a, hk65b⟩ := (wf_69 hw ha).resolve_left (by have q9 := hn; omega)
      have hk65o : OB T x63 1 := (show RC T a x63 from ⟨hk65a, hk65b⟩).ob
      clear hk65a hk65b
      refine tn_getR (ci := 7) (i := 14) (n := 69) (x := x63) dX7_reckonAt_35 rfl lay_7 (by decide) fl7_72 ha rfl rfl (hx64) ?_
      refine tn_iload_n dX7_reckonAt_38 rfl 2 rfl ?_
      refine tn_iconst dX7_reckonAt_39 ?_
      refine tn_callV (M := m_X7_reckonAt) (pc := 40) (ix := 117) (ci := 1) (M' := m_X1_get) (As := [.int (iI k), .int (iI 1)]) (rest := [.int (iI ((σ.2.1 57 a) * 192)), .ref x54]) dX7_reckonAt_40 ok_X1_get im_X1_get se_X1_get ml7_117 np_X1_get rfl rfl hk65o rfl (Nat.le_of_ble_eq_true rfl) (Nat.le_of_ble_eq_true rfl) rfl (k_X1_get (d + 1) (T := T) (σ := σ) (a := x63) (k := k) (c := 1) hk65o (by omega) (by decide) hw (by omega)) (fun r66 T68 σ67 gt69 hp => ?_)
      obtain ⟨v71, rfl, rfl, rfl, f70⟩ := hp
      clear gt69
      show Tn _ _ 43 T σ [(3, .int (iI 0)), (0, .ref a), (1, .int (iI k)), (2, .int (iI e))] [.int (iI v71), .int (iI ((σ.2.1 57 a) * 192)), .ref x54] _
      refine tn_iadd dX7_reckonAt_43 ?_
      refine tn_any (fun z72 g73 => ?_)
      have g73r : -2147483648 ≤ z72 ∧ z72 ≤ 2147483647 := g73
      refine tn_iload_n dX7_reckonAt_44 rfl 3 rfl ?_
      refine tn_aload_n dX7_reckonAt_45 rfl 1 rfl ?_
      refine tn_iload_n dX7_reckonAt_46 rfl 2 rfl ?_
      refine tn_iconst dX7_reckonAt_47 ?_
      refine tn_callV (M := m_X7_reckonAt) (pc := 48) (ix := 110) (ci := 7) (M' := m_X7_operand) (As := [.int (iI k), .int (iI 3)]) (rest := [.int (iI e), .int (iI z72), .ref x54]) dX7_reckonAt_48 ok_X7_operand im_X7_operand se_X7_operand ml7_110 np_X7_operand rfl rfl ha rfl (Nat.le_of_ble_eq_true rfl) (Nat.le_of_ble_eq_true rfl) rfl (k_X7_operand (d) (T := T) (σ := σ) (a := a) (k := k) (c := 3) ha (by omega) (by decide) hw (by rw [show σ.2.1 69 a = _ from hx64]; omega) (by omega)) (fun r74 T76 σ75 gt77 hp => ?_)
      obtain ⟨v79, rfl, rfl, rfl, f78⟩ := hp
      clear gt77
      show Tn _ _ 51 T σ [(3, .int (iI 0)), (0, .ref a), (1, .int (iI k)), (2, .int (iI e))] [.int (iI v79), .int (iI e), .int (iI z72), .ref x54] _
      refine tn_iload_n dX7_reckonAt_51 rfl 0 rfl ?_
      refine tn_callSN (M := m_X7_reckonAt) (pc := 52) (ix := 136) (M' := m_X11_reckon) (As := [.int (iI e), .int (iI v79), .int (iI 0)]) (rest := [.int (iI z72), .ref x54]) dX7_reckonAt_52 ok_X11_reckon stt_X11_reckon nl7_136 np_X11_reckon rfl (Nat.le_of_ble_eq_true rfl) (Nat.le_of_ble_eq_true rfl) rfl (k_X11_reckon (d + 1) (T := T) (σ := σ) (k := e) (x := v79) (y := 0) (by omega) (by omega) (by decide) hw ) (fun r80 T82 σ81 gt83 hp => ?_)
      obtain ⟨v85, rfl, rfl, rfl, f84⟩ := hp
      clear gt83
      show Tn _ _ 55 T σ [(3, .int (iI 0)), (0, .ref a), (1, .int (iI k)), (2, .int (iI e))] [.int (iI v85), .int (iI z72), .ref x54] _
      refine tn_callSN (M := m_X7_reckonAt) (pc := 55) (ix := 61) (M' := m_X11_put) (As := [.ref x54, .int (iI z72), .int (iI v85)]) (rest := []) dX7_reckonAt_55 ok_X11_put stt_X11_put nl7_61 np_X11_put rfl (Nat.le_of_ble_eq_true rfl) (Nat.le_of_ble_eq_true rfl) rfl (k_X11_put (d + 1) (T := T) (σ := σ) (x := x54) (i := z72) (y := v85) hk56i (by omega) (by omega) (by omega) hw (nh_k hk56 (by unfold HT; omega)) (vok_1 (by have q9 := hk56; omega) (by omega))) (fun r86 T88 σ87 gt89 hp => ?_)
      obtain ⟨rfl, rfl, w91, F92⟩ := hp
      clear gt89
      show Tn _ _ 58 T σ87 [(3, .int (iI 0)), (0, .ref a), (1, .int (iI k)), (2, .int (iI e))] [] _
      exact tn_vret rfl dX7_reckonAt_58 ⟨rfl, rfl, w91, (FrC.rfl.trans (FrC.sub F92 (by decide)))⟩
end
section
theorem cd_X7_chainOf : Cond.code yX7_chainOf cX7_chainOf 5 (some .int) ∈ pWW := pw6 (List.mem_of_getElem? (i := 86) rfl) rfl
abbrev m_X7_chainOf : MT := (yX7_chainOf, cX7_chainOf, 5, (some .int))
theorem ok_X7_chainOf : pOk m_X7_chainOf := ⟨⟨cd_X7_chainOf, ini_7⟩, by decide +kernel, ⟨by decide +kernel, by decide +kernel⟩, Nat.le_of_ble_eq_true rfl⟩
theorem np_X7_chainOf : (parseMethodDescriptor yX7_chainOf.desc).map (fun d => d.parameters.length) = some 1 := by decide +kernel
theorem im_X7_chainOf : Cond.instanceMethod yX7_chainOf ∈ pWW := pw6 (List.mem_of_getElem? (i := 85) rfl) rfl
theorem se_X7_chainOf : Cond.selects RX7 yX7_chainOf yX7_chainOf ∈ pWW := pws (List.mem_map.mpr ⟨_, lw_pin 92 rfl, rfl⟩) rfl
theorem fl7_9 : Cond.fieldLink RX7 9 (TX7 4).1 (TX7 4).2.1 (TX7 4).2.2.1 ∈ pWW := pw2 (List.mem_of_getElem? (i := 141) rfl) rfl
theorem ml7_68 : Cond.methodLink RX7 68 yX7_codeAt ∈ pWW := pw6 (List.mem_of_getElem? (i := 37) rfl) rfl
theorem fl7_18 : Cond.fieldLink RX7 18 (TX7 6).1 (TX7 6).2.1 (TX7 6).2.2.1 ∈ pWW := pw2 (List.mem_of_getElem? (i := 143) rfl) rfl
theorem dX7_chainOf_0 : decode cX7_chainOf 0 = .ok (.aload_n 0, 1) := by decide +kernel
theorem dX7_chainOf_1 : decode cX7_chainOf 1 = .ok (.aload_n 0, 1) := by decide +kernel
theorem dX7_chainOf_2 : decode cX7_chainOf 2 = .ok (.getfield 9, 3) := by decide +kernel
theorem dX7_chainOf_5 : decode cX7_chainOf 5 = .ok (.iload_n 1, 1) := by decide +kernel
theorem dX7_chainOf_6 : decode cX7_chainOf 6 = .ok (.invokestatic 91, 3) := by decide +kernel
theorem dX7_chainOf_9 : decode cX7_chainOf 9 = .ok (.invokevirtual 68, 3) := by decide +kernel
theorem dX7_chainOf_12 : decode cX7_chainOf 12 = .ok (.astore_n 2, 1) := by decide +kernel
theorem dX7_chainOf_13 : decode cX7_chainOf 13 = .ok (.aload_n 0, 1) := by decide +kernel
theorem dX7_chainOf_14 : decode cX7_chainOf 14 = .ok (.getfield 18, 3) := by decide +kernel
theorem dX7_chainOf_17 : decode cX7_chainOf 17 = .ok (.iload_n 1, 1) := by decide +kernel
theorem dX7_chainOf_18 : decode cX7_chainOf 18 = .ok (.invokestatic 91, 3) := by decide +kernel
theorem dX7_chainOf_21 : decode cX7_chainOf 21 = .ok (.istore_n 3, 1) := by decide +kernel
theorem dX7_chainOf_22 : decode cX7_chainOf 22 = .ok (.iconst 1, 1) := by decide +kernel
theorem dX7_chainOf_23 : decode cX7_chainOf 23 = .ok (.istore 4, 2) := by decide +kernel
theorem dX7_chainOf_25 : decode cX7_chainOf 25 = .ok (.aload_n 2, 1) := by decide +kernel
theorem dX7_chainOf_26 : decode cX7_chainOf 26 = .ok (.ifnull 29, 3) := by decide +kernel
set_option maxRecDepth 20000 in
theorem l_X7_chainOf_25 (d : Nat) {T : CT} {σ : MS} {post : Option Value → CT → MS → Prop} (hw : WT T σ) (hx_55 : ∀ (i3 : Int) (i4 : Int) , (-2147483648 ≤ i3 ∧ i3 ≤ 2147483647) → (1 ≤ i4 ∧ i4 ≤ 2147483647) → Tn (d + 2) m_X7_chainOf 55 T σ [(2, .null), (3, .int (iI i3)), (4, .int (iI i4))] [] post) : ∀ (n : Nat) (i3 : Int) (i4 : Int) , (-2147483648 ≤ i3 ∧ i3 ≤ 2147483647) → (1 ≤ i4 ∧ i4 ≤ 2147483647) → (2147483700 - i4).toNat = n → Tn (d + 2) m_X7_chainOf 25 T σ [(2, .null), (3, .int (iI i3)), (4, .int (iI i4))] [] post := by
  intro n
  induction n using Nat.strongRecOn with
  | _ n ih =>
    intro i3 i4 r_i3 r_i4 hm
    refine tn_aload_nN dX7_chainOf_25 rfl 0 rfl ?_
    refine tn_ifnullN (tgt := 55) dX7_chainOf_26 (by decide) ?_
    exact tn_sub [0, 1, 2] rfl (hx_55 (i3) (i4) (by omega) (by omega))
theorem fl7_126 : Cond.fieldLink RX7 126 (TX1 7).1 (TX1 7).2.1 (TX1 7).2.2.1 ∈ pWW := pw1 (List.mem_of_getElem? (i := 114) rfl) rfl
theorem dX7_chainOf_55 : decode cX7_chainOf 55 = .ok (.iload 4, 2) := by decide +kernel
theorem dX7_chainOf_57 : decode cX7_chainOf 57 = .ok (.ireturn, 1) := by decide +kernel
theorem dX7_chainOf_29 : decode cX7_chainOf 29 = .ok (.iload_n 3, 1) := by decide +kernel
theorem dX7_chainOf_30 : decode cX7_chainOf 30 = .ok (.ifCond .le 25, 3) := by decide +kernel
theorem dX7_chainOf_33 : decode cX7_chainOf 33 = .ok (.iload 4, 2) := by decide +kernel
theorem dX7_chainOf_35 : decode cX7_chainOf 35 = .ok (.bipush 12, 2) := by decide +kernel
theorem dX7_chainOf_37 : decode cX7_chainOf 37 = .ok (.if_icmp .gt 18, 3) := by decide +kernel
theorem dX7_chainOf_40 : decode cX7_chainOf 40 = .ok (.aload_n 2, 1) := by decide +kernel
theorem dX7_chainOf_41 : decode cX7_chainOf 41 = .ok (.getfield 126, 3) := by decide +kernel
theorem dX7_chainOf_44 : decode cX7_chainOf 44 = .ok (.iload_n 3, 1) := by decide +kernel
theorem dX7_chainOf_45 : decode cX7_chainOf 45 = .ok (.invokestatic 91, 3) := by decide +kernel
theorem dX7_chainOf_48 : decode cX7_chainOf 48 = .ok (.istore_n 3, 1) := by decide +kernel
theorem dX7_chainOf_49 : decode cX7_chainOf 49 = .ok (.iinc 4 1, 3) := by decide +kernel
theorem dX7_chainOf_52 : decode cX7_chainOf 52 = .ok (.goto (-27), 3) := by decide +kernel
set_option maxRecDepth 20000 in
theorem l_X7_chainOf_25_1 (d : Nat) {T : CT} {σ : MS} {rx2 : Nat} {post : Option Value → CT → MS → Prop} (h_rx2 : OB T rx2 1) (hw : WT T σ) (hx_55 : ∀ (i3 : Int) (i4 : Int) , (-2147483648 ≤ i3 ∧ i3 ≤ 2147483647) → (1 ≤ i4 ∧ i4 ≤ 2147483647) → Tn (d + 2) m_X7_chainOf 55 T σ [(2, .ref rx2), (3, .int (iI i3)), (4, .int (iI i4))] [] post) : ∀ (n : Nat) (i3 : Int) (i4 : Int) , (-2147483648 ≤ i3 ∧ i3 ≤ 2147483647) → (1 ≤ i4 ∧ i4 ≤ 2147483647) → (2147483700 - i4).toNat = n → Tn (d + 2) m_X7_chainOf 25 T σ [(2, .ref rx2), (3, .int (iI i3)), (4, .int (iI i4))] [] post := by
  intro n
  induction n using Nat.strongRecOn with
  | _ n ih =>
    intro i3 i4 r_i3 r_i4 hm
    refine tn_aload_n dX7_chainOf_25 rfl 0 rfl ?_
    refine tn_ifnull dX7_chainOf_26 ?_
    refine tn_iload_n dX7_chainOf_29 rfl 1 rfl ?_
    refine tn_if_le (tgt := 55) dX7_chainOf_30 (by decide) ⟨by omega, by omega⟩ (fun h1 => ?_) (fun h1 => ?_)
    · exact tn_sub [0, 1, 2] rfl (hx_55 (i3) (i4) (by omega) (by omega))
    · refine tn_iload dX7_chainOf_33 2 rfl ?_
      refine tn_bipush dX7_chainOf_35 (by decide) ?_
      refine tn_icmp_gt (tgt := 55) dX7_chainOf_37 (by decide) ⟨by omega, by omega⟩ ⟨by decide, by decide⟩ (fun h2 => ?_) (fun h2 => ?_)
      · exact tn_sub [0, 1, 2] rfl (hx_55 (i3) (i4) (by omega) (by omega))
      · refine tn_aload_n dX7_chainOf_40 rfl 0 rfl ?_
        obtain ⟨x3, hx4, hk5, hl6⟩ : ∃ x : Nat, σ.2.1 12 rx2 = (x : Int) ∧ AR T x 1 12 12 := wf_12 hw h_rx2
        have hk5i : IA T x3 := by unfold IA; omega
        refine tn_getR (ci := 1) (i := 7) (n := 12) (x := x3) dX7_chainOf_41 rfl lay_1 (by decide) fl7_126 h_rx2 rfl rfl (hx4) ?_
        refine tn_iload_n dX7_chainOf_44 rfl 1 rfl ?_
        refine tn_callSN (M := m_X7_chainOf) (pc := 45) (ix := 91) (M' := m_X11_at) (As := [.ref x3, .int (iI i3)]) (rest := []) dX7_chainOf_45 ok_X11_at stt_X11_at nl7_91 np_X11_at rfl (Nat.le_of_ble_eq_true rfl) (Nat.le_of_ble_eq_true rfl) rfl (k_X11_at (d) (T := T) (σ := σ) (x := x3) (i := i3) hk5i (by omega) (by omega) hw ) (fun r7 T9 σ8 gt10 hp => ?_)
        obtain ⟨v14, rfl, rfl, rfl, f11, f12, f13⟩ := hp
        clear gt10
        clear f12 f13
        show Tn _ _ 48 T σ [(2, .ref rx2), (3, .int (iI i3)), (4, .int (iI i4))] [.int (iI v14)] _
        refine tn_istore_n (L' := [(3, .int (iI v14)), (2, .ref rx2), (4, .int (iI i4))]) dX7_chainOf_48 rfl (by decide) rfl ?_
        refine tn_iinc (q0 := 2) (L' := [(4, .int (iI (i4 + 1))), (3, .int (iI v14)), (2, .ref rx2)]) dX7_chainOf_49 rfl (by decide) rfl ?_
        refine tn_goto (tgt := 25) dX7_chainOf_52 (by decide) ?_
        exact tn_sub [2, 1, 0] rfl (ih _ (by omega) (v14) (i4 + 1) (by omega) (by omega) rfl)
set_option maxRecDepth 20000 in
theorem k_X7_chainOf (d : Nat) {T : CT} {σ : MS} {a : Nat} {p1 : Int} (ha : OB T a 7) (h_p1 : -2147483648 ≤ p1 ∧ p1 ≤ 2147483647) (hw : WT T σ) : Tn (d + 2) m_X7_chainOf 0 T σ [(0, .ref a), (1, .int (iI p1))] [] (fun ro T2 σ2 => ∃ v : Int, ro = some (.int (iI v)) ∧ T = T2 ∧ σ = σ2 ∧ (-2147483648 ≤ v ∧ v ≤ 2147483647)) := by
  refine tn_aload_n dX7_chainOf_0 rfl 0 rfl ?_
  refine tn_aload_n dX7_chainOf_1 rfl 0 rfl ?_
  obtain ⟨x1, hx2, hk3, hl4⟩ : ∃ x : Nat, σ.2.1 59 a = (x : Int) ∧ AR T x 15 9 9 := wf_59 hw ha
  have hk3i : IA T x1 := by unfold IA; omega
  refine tn_getR (ci := 7) (i := 4) (n := 59) (x := x1) dX7_chainOf_2 rfl lay_7 (by decide) fl7_9 ha rfl rfl (hx2) ?_
  refine tn_iload_n dX7_chainOf_5 rfl 1 rfl ?_
  refine tn_callSN (M := m_X7_chainOf) (pc := 6) (ix := 91) (M' := m_X11_at) (As := [.ref x1, .int (iI p1)]) (rest := [.ref a]) dX7_chainOf_6 ok_X11_at stt_X11_at nl7_91 np_X11_at rfl (Nat.le_of_ble_eq_true rfl) (Nat.le_of_ble_eq_true rfl) rfl (k_X11_at (d) (T := T) (σ := σ) (x := x1) (i := p1) hk3i (by omega) (by omega) hw ) (fun r5 T7 σ6 gt8 hp => ?_)
  obtain ⟨v12, rfl, rfl, rfl, f9, f10, f11⟩ := hp
  clear gt8
  clear f10 f11
  show Tn _ _ 9 T σ [(0, .ref a), (1, .int (iI p1))] [.int (iI v12), .ref a] _
  refine tn_callV (M := m_X7_chainOf) (pc := 9) (ix := 68) (ci := 7) (M' := m_X7_codeAt) (As := [.int (iI v12)]) (rest := []) dX7_chainOf_9 ok_X7_codeAt im_X7_codeAt se_X7_codeAt ml7_68 np_X7_codeAt rfl rfl ha rfl (Nat.le_of_ble_eq_true rfl) (Nat.le_of_ble_eq_true rfl) rfl (k_X7_codeAt (d) (T := T) (σ := σ) (a := a) (r := v12) ha (by omega) hw ) (fun r13 T15 σ14 gt16 hp => ?_)
  obtain ⟨v18, rfl, rfl, rfl, rv19, f17⟩ := hp
  clear gt16
  clear f17
  rcases rv19 with rv19 | ⟨x20, rfl, hk21⟩
  · show Tn _ _ 12 T σ [(0, .ref a), (1, .int (iI p1))] (vl true v18 :: []) _
    rw [vl_null rv19]
    refine tn_astore_nN (L' := [(2, .null), (0, .ref a), (1, .int (iI p1))]) dX7_chainOf_12 rfl (by decide) rfl ?_
    refine tn_aload_n dX7_chainOf_13 rfl 1 rfl ?_
    obtain ⟨x22, hx23, hl25, hk24a, hk24b⟩ := wf_61 hw ha
    have hk24i : IA T x22 := by unfold IA; omega
    have hk24n : NH T x22 := by unfold NH HT; omega
    clear hk24a hk24b
    refine tn_getR (ci := 7) (i := 6) (n := 61) (x := x22) dX7_chainOf_14 rfl lay_7 (by decide) fl7_18 ha rfl rfl (hx23) ?_
    refine tn_iload_n dX7_chainOf_17 rfl 2 rfl ?_
    refine tn_callSN (M := m_X7_chainOf) (pc := 18) (ix := 91) (M' := m_X11_at) (As := [.ref x22, .int (iI p1)]) (rest := []) dX7_chainOf_18 ok_X11_at stt_X11_at nl7_91 np_X11_at rfl (Nat.le_of_ble_eq_true rfl) (Nat.le_of_ble_eq_true rfl) rfl (k_X11_at (d) (T := T) (σ := σ) (x := x22) (i := p1) hk24i (by omega) (by omega) hw ) (fun r26 T28 σ27 gt29 hp => ?_)
    obtain ⟨v33, rfl, rfl, rfl, f30, f31, f32⟩ := hp
    clear gt29
    clear f31 f32
    show Tn _ _ 21 T σ [(2, .null), (0, .ref a), (1, .int (iI p1))] [.int (iI v33)] _
    refine tn_istore_n (L' := [(3, .int (iI v33)), (2, .null), (0, .ref a), (1, .int (iI p1))]) dX7_chainOf_21 rfl (by decide) rfl ?_
    refine tn_iconst dX7_chainOf_22 ?_
    refine tn_istore (L' := [(4, .int (iI 1)), (3, .int (iI v33)), (2, .null), (0, .ref a), (1, .int (iI p1))]) dX7_chainOf_23 (by decide) rfl ?_
    refine tn_sub [2, 1, 0] rfl (l_X7_chainOf_25 (d) (T := T) (σ := σ) hw (fun i334 i435 r41 r42 => ?_) _ (v33) (1) (by omega) (by omega) rfl)
    show Tn _ _ 55 T σ [(2, .null), (3, .int (iI i334)), (4, .int (iI i435))] [] _
    refine tn_iload dX7_chainOf_55 2 rfl ?_
    exact tn_iret rfl dX7_chainOf_57 ⟨_, rfl, rfl, rfl, by omega⟩
  · show Tn _ _ 12 T σ [(0, .ref a), (1, .int (iI p1))] (vl true (x20 : Int) :: []) _
    rw [vl_ref rfl]
    have hk21o : OB T x20 1 := hk21.1
    refine tn_astore_n (L' := [(2, .ref x20), (0, .ref a), (1, .int (iI p1))]) dX7_chainOf_12 rfl (by decide) rfl ?_
    refine tn_aload_n dX7_chainOf_13 rfl 1 rfl ?_
    obtain ⟨x43, hx44, hl46, hk45a, hk45b⟩ := wf_61 hw ha
    have hk45i : IA T x43 := by unfold IA; omega
    have hk45n : NH T x43 := by unfold NH HT; omega
    clear hk45a hk45b
    refine tn_getR (ci := 7) (i := 6) (n := 61) (x := x43) dX7_chainOf_14 rfl lay_7 (by decide) fl7_18 ha rfl rfl (hx44) ?_
    refine tn_iload_n dX7_chainOf_17 rfl 2 rfl ?_
    refine tn_callSN (M := m_X7_chainOf) (pc := 18) (ix := 91) (M' := m_X11_at) (As := [.ref x43, .int (iI p1)]) (rest := []) dX7_chainOf_18 ok_X11_at stt_X11_at nl7_91 np_X11_at rfl (Nat.le_of_ble_eq_true rfl) (Nat.le_of_ble_eq_true rfl) rfl (k_X11_at (d) (T := T) (σ := σ) (x := x43) (i := p1) hk45i (by omega) (by omega) hw ) (fun r47 T49 σ48 gt50 hp => ?_)
    obtain ⟨v54, rfl, rfl, rfl, f51, f52, f53⟩ := hp
    clear gt50
    clear f52 f53
    show Tn _ _ 21 T σ [(2, .ref x20), (0, .ref a), (1, .int (iI p1))] [.int (iI v54)] _
    refine tn_istore_n (L' := [(3, .int (iI v54)), (2, .ref x20), (0, .ref a), (1, .int (iI p1))]) dX7_chainOf_21 rfl (by decide) rfl ?_
    refine tn_iconst dX7_chainOf_22 ?_
    refine tn_istore (L' := [(4, .int (iI 1)), (3, .int (iI v54)), (2, .ref x20), (0, .ref a), (1, .int (iI p1))]) dX7_chainOf_23 (by decide) rfl ?_
    refine tn_sub [2, 1, 0] rfl (l_X7_chainOf_25_1 (d) (T := T) (σ := σ) (rx2 := x20) hk21o hw (fun i355 i456 r62 r63 => ?_) _ (v54) (1) (by omega) (by omega) rfl)
    show Tn _ _ 55 T σ [(2, .ref x20), (3, .int (iI i355)), (4, .int (iI i456))] [] _
    refine tn_iload dX7_chainOf_55 2 rfl ?_
    exact tn_iret rfl dX7_chainOf_57 ⟨_, rfl, rfl, rfl, by omega⟩
end
section
set_option maxRecDepth 20000 in
theorem l_X7_chainOf_57_25 (d : Nat) {T : CT} {σ : MS} {post : Option Value → CT → MS → Prop} (hw : WT T σ) (hx_55 : ∀ (i3 : Int) (i4 : Int) , (0 ≤ i3 ∧ i3 ≤ 0) → (1 ≤ i4 ∧ i4 ≤ 1) → Tn (d + 2) m_X7_chainOf 55 T σ [(2, .null), (3, .int (iI i3)), (4, .int (iI i4))] [] post) : ∀ (n : Nat) (i3 : Int) (i4 : Int) , (0 ≤ i3 ∧ i3 ≤ 0) → (1 ≤ i4 ∧ i4 ≤ 1) → (2147483700 - i4).toNat = n → Tn (d + 2) m_X7_chainOf 25 T σ [(2, .null), (3, .int (iI i3)), (4, .int (iI i4))] [] post := by
  intro n
  induction n using Nat.strongRecOn with
  | _ n ih =>
    intro i3 i4 r_i3 r_i4 hm
    refine tn_aload_nN dX7_chainOf_25 rfl 0 rfl ?_
    refine tn_ifnullN (tgt := 55) dX7_chainOf_26 (by decide) ?_
    exact tn_sub [0, 1, 2] rfl (hx_55 (i3) (i4) (by omega) (by omega))
set_option maxRecDepth 20000 in
theorem l_X7_chainOf_57_25_1 (d : Nat) {T : CT} {σ : MS} {rx2 : Nat} {post : Option Value → CT → MS → Prop} (h_rx2 : OB T rx2 1) (hw : WT T σ) (hx_55 : ∀ (i3 : Int) (i4 : Int) , (0 ≤ i3 ∧ i3 ≤ 0) → (1 ≤ i4 ∧ i4 ≤ 1) → Tn (d + 2) m_X7_chainOf 55 T σ [(2, .ref rx2), (3, .int (iI i3)), (4, .int (iI i4))] [] post) : ∀ (n : Nat) (i3 : Int) (i4 : Int) , (0 ≤ i3 ∧ i3 ≤ 0) → (1 ≤ i4 ∧ i4 ≤ 1) → (2147483700 - i4).toNat = n → Tn (d + 2) m_X7_chainOf 25 T σ [(2, .ref rx2), (3, .int (iI i3)), (4, .int (iI i4))] [] post := by
  intro n
  induction n using Nat.strongRecOn with
  | _ n ih =>
    intro i3 i4 r_i3 r_i4 hm
    refine tn_aload_n dX7_chainOf_25 rfl 0 rfl ?_
    refine tn_ifnull dX7_chainOf_26 ?_
    refine tn_iload_n dX7_chainOf_29 rfl 1 rfl ?_
    refine tn_if_le (tgt := 55) dX7_chainOf_30 (by decide) ⟨by omega, by omega⟩ (fun h1 => ?_) (fun h1 => absurd h1 (by omega))
    exact tn_sub [0, 1, 2] rfl (hx_55 (i3) (i4) (by omega) (by omega))
set_option maxRecDepth 20000 in
theorem k_X7_chainOf_57 (d : Nat) {T : CT} {σ : MS} {a : Nat} {p1 : Int} (ha : OB T a 7) (hta : (T a).1 = 57) (h_p1 : -2147483648 ≤ p1 ∧ p1 ≤ 2147483647) (hw : WT T σ) : Tn (d + 2) m_X7_chainOf 0 T σ [(0, .ref a), (1, .int (iI p1))] [] (fun ro T2 σ2 => ∃ v : Int, ro = some (.int (iI v)) ∧ T = T2 ∧ σ = σ2 ∧ (1 ≤ v ∧ v ≤ 1) ∧ (v = 1)) := by
  refine tn_aload_n dX7_chainOf_0 rfl 0 rfl ?_
  refine tn_aload_n dX7_chainOf_1 rfl 0 rfl ?_
  obtain ⟨x1, hx2, hk3, hl4⟩ : ∃ x : Nat, σ.2.1 59 a = (x : Int) ∧ AR T x 15 9 9 := wf_59 hw ha
  have hk3i : IA T x1 := by unfold IA; omega
  refine tn_getR (ci := 7) (i := 4) (n := 59) (x := x1) dX7_chainOf_2 rfl lay_7 (by decide) fl7_9 ha rfl rfl (hx2) ?_
  refine tn_iload_n dX7_chainOf_5 rfl 1 rfl ?_
  refine tn_callSN (M := m_X7_chainOf) (pc := 6) (ix := 91) (M' := m_X11_at) (As := [.ref x1, .int (iI p1)]) (rest := [.ref a]) dX7_chainOf_6 ok_X11_at stt_X11_at nl7_91 np_X11_at rfl (Nat.le_of_ble_eq_true rfl) (Nat.le_of_ble_eq_true rfl) rfl (k_X11_at (d) (T := T) (σ := σ) (x := x1) (i := p1) hk3i (by omega) (by omega) hw ) (fun r5 T7 σ6 gt8 hp => ?_)
  obtain ⟨v12, rfl, rfl, rfl, f9, f10, f11⟩ := hp
  clear gt8
  clear f10 f11
  show Tn _ _ 9 T σ [(0, .ref a), (1, .int (iI p1))] [.int (iI v12), .ref a] _
  refine tn_callV (M := m_X7_chainOf) (pc := 9) (ix := 68) (ci := 7) (M' := m_X7_codeAt) (As := [.int (iI v12)]) (rest := []) dX7_chainOf_9 ok_X7_codeAt im_X7_codeAt se_X7_codeAt ml7_68 np_X7_codeAt rfl rfl ha rfl (Nat.le_of_ble_eq_true rfl) (Nat.le_of_ble_eq_true rfl) rfl (k_X7_codeAt (d) (T := T) (σ := σ) (a := a) (r := v12) ha (by omega) hw ) (fun r13 T15 σ14 gt16 hp => ?_)
  obtain ⟨v18, rfl, rfl, rfl, rv19, f17⟩ := hp
  clear gt16
  clear f17
  rcases rv19 with rv19 | ⟨x20, rfl, hk21⟩
  · show Tn _ _ 12 T σ [(0, .ref a), (1, .int (iI p1))] (vl true v18 :: []) _
    rw [vl_null rv19]
    refine tn_astore_nN (L' := [(2, .null), (0, .ref a), (1, .int (iI p1))]) dX7_chainOf_12 rfl (by decide) rfl ?_
    refine tn_aload_n dX7_chainOf_13 rfl 1 rfl ?_
    obtain ⟨x22, hx23, hl25, hk24a, hk24b⟩ := wf_61 hw ha
    have hk24 : (T x22).1 = 14 := hk24a (by omega)
    clear hk24a hk24b
    have hk24i : IA T x22 := by unfold IA; omega
    refine tn_getR (ci := 7) (i := 6) (n := 61) (x := x22) dX7_chainOf_14 rfl lay_7 (by decide) fl7_18 ha rfl rfl (hx23) ?_
    refine tn_iload_n dX7_chainOf_17 rfl 2 rfl ?_
    refine tn_callSN (M := m_X7_chainOf) (pc := 18) (ix := 91) (M' := m_X11_at) (As := [.ref x22, .int (iI p1)]) (rest := []) dX7_chainOf_18 ok_X11_at stt_X11_at nl7_91 np_X11_at rfl (Nat.le_of_ble_eq_true rfl) (Nat.le_of_ble_eq_true rfl) rfl (k_X11_at (d) (T := T) (σ := σ) (x := x22) (i := p1) hk24i (by omega) (by omega) hw ) (fun r26 T28 σ27 gt29 hp => ?_)
    obtain ⟨v33, rfl, rfl, rfl, f30, f31, f32⟩ := hp
    clear gt29
    have f31n := f31.2.2.2.2 hk24
    clear f31 f32
    show Tn _ _ 21 T σ [(2, .null), (0, .ref a), (1, .int (iI p1))] [.int (iI v33)] _
    refine tn_istore_n (L' := [(3, .int (iI v33)), (2, .null), (0, .ref a), (1, .int (iI p1))]) dX7_chainOf_21 rfl (by decide) rfl ?_
    refine tn_iconst dX7_chainOf_22 ?_
    refine tn_istore (L' := [(4, .int (iI 1)), (3, .int (iI v33)), (2, .null), (0, .ref a), (1, .int (iI p1))]) dX7_chainOf_23 (by decide) rfl ?_
    refine tn_sub [2, 1, 0] rfl (l_X7_chainOf_57_25 (d) (T := T) (σ := σ) hw (fun i334 i435 r41 r42 => ?_) _ (v33) (1) (by omega) (by omega) rfl)
    show Tn _ _ 55 T σ [(2, .null), (3, .int (iI i334)), (4, .int (iI i435))] [] _
    refine tn_iload dX7_chainOf_55 2 rfl ?_
    exact tn_iret rfl dX7_chainOf_57 ⟨_, rfl, rfl, rfl, by omega, by omega⟩
  · show Tn _ _ 12 T σ [(0, .ref a), (1, .int (iI p1))] (vl true (x20 : Int) :: []) _
    rw [vl_ref rfl]
    have hk21o : OB T x20 1 := hk21.1
    refine tn_astore_n (L' := [(2, .ref x20), (0, .ref a), (1, .int (iI p1))]) dX7_chainOf_12 rfl (by decide) rfl ?_
    refine tn_aload_n dX7_chainOf_13 rfl 1 rfl ?_
    obtain ⟨x43, hx44, hl46, hk45a, hk45b⟩ := wf_61 hw ha
    have hk45 : (T x43).1 = 14 := hk45a (by omega)
    clear hk45a hk45b
    have hk45i : IA T x43 := by unfold IA; omega
    refine tn_getR (ci := 7) (i := 6) (n := 61) (x := x43) dX7_chainOf_14 rfl lay_7 (by decide) fl7_18 ha rfl rfl (hx44) ?_
    refine tn_iload_n dX7_chainOf_17 rfl 2 rfl ?_
    refine tn_callSN (M := m_X7_chainOf) (pc := 18) (ix := 91) (M' := m_X11_at) (As := [.ref x43, .int (iI p1)]) (rest := []) dX7_chainOf_18 ok_X11_at stt_X11_at nl7_91 np_X11_at rfl (Nat.le_of_ble_eq_true rfl) (Nat.le_of_ble_eq_true rfl) rfl (k_X11_at (d) (T := T) (σ := σ) (x := x43) (i := p1) hk45i (by omega) (by omega) hw ) (fun r47 T49 σ48 gt50 hp => ?_)
    obtain ⟨v54, rfl, rfl, rfl, f51, f52, f53⟩ := hp
    clear gt50
    have f52n := f52.2.2.2.2 hk45
    clear f52 f53
    show Tn _ _ 21 T σ [(2, .ref x20), (0, .ref a), (1, .int (iI p1))] [.int (iI v54)] _
    refine tn_istore_n (L' := [(3, .int (iI v54)), (2, .ref x20), (0, .ref a), (1, .int (iI p1))]) dX7_chainOf_21 rfl (by decide) rfl ?_
    refine tn_iconst dX7_chainOf_22 ?_
    refine tn_istore (L' := [(4, .int (iI 1)), (3, .int (iI v54)), (2, .ref x20), (0, .ref a), (1, .int (iI p1))]) dX7_chainOf_23 (by decide) rfl ?_
    refine tn_sub [2, 1, 0] rfl (l_X7_chainOf_57_25_1 (d) (T := T) (σ := σ) (rx2 := x20) hk21o hw (fun i355 i456 r62 r63 => ?_) _ (v54) (1) (by omega) (by omega) rfl)
    show Tn _ _ 55 T σ [(2, .ref x20), (3, .int (iI i355)), (4, .int (iI i456))] [] _
    refine tn_iload dX7_chainOf_55 2 rfl ?_
    exact tn_iret rfl dX7_chainOf_57 ⟨_, rfl, rfl, rfl, by omega, by omega⟩
end
section
theorem CAT.neg {r v : Int} (h : CAT r v) (hv : v < 0) : CAT r (-1) := by unfold CAT at *; omega
end
section
theorem cd_X7_openCall : Cond.code yX7_openCall cX7_openCall 4 none ∈ pWW := pw6 (List.mem_of_getElem? (i := 36) rfl) rfl
abbrev m_X7_openCall : MT := (yX7_openCall, cX7_openCall, 4, none)
theorem ok_X7_openCall : pOk m_X7_openCall := ⟨⟨cd_X7_openCall, ini_7⟩, by decide +kernel, ⟨by decide +kernel, by decide +kernel⟩, Nat.le_of_ble_eq_true rfl⟩
theorem np_X7_openCall : (parseMethodDescriptor yX7_openCall.desc).map (fun d => d.parameters.length) = some 2 := by decide +kernel
theorem im_X7_openCall : Cond.instanceMethod yX7_openCall ∈ pWW := pw6 (List.mem_of_getElem? (i := 35) rfl) rfl
theorem se_X7_openCall : Cond.selects RX7 yX7_openCall yX7_openCall ∈ pWW := pws (List.mem_map.mpr ⟨_, lw_pin 85 rfl, rfl⟩) rfl
theorem fl7_21 : Cond.fieldLink RX7 21 (TX7 7).1 (TX7 7).2.1 (TX7 7).2.2.1 ∈ pWW := pw2 (List.mem_of_getElem? (i := 144) rfl) rfl
theorem ml7_76 : Cond.methodLink RX7 76 yJ7_fill_fda19 ∈ pWW := pw6 (List.mem_of_getElem? (i := 42) rfl) rfl
theorem dX7_openCall_0 : decode cX7_openCall 0 = .ok (.aload_n 0, 1) := by decide +kernel
theorem dX7_openCall_1 : decode cX7_openCall 1 = .ok (.iload_n 1, 1) := by decide +kernel
theorem dX7_openCall_2 : decode cX7_openCall 2 = .ok (.putfield 65, 3) := by decide +kernel
theorem dX7_openCall_5 : decode cX7_openCall 5 = .ok (.aload_n 0, 1) := by decide +kernel
theorem dX7_openCall_6 : decode cX7_openCall 6 = .ok (.dup, 1) := by decide +kernel
theorem dX7_openCall_7 : decode cX7_openCall 7 = .ok (.getfield 38, 3) := by decide +kernel
theorem dX7_openCall_10 : decode cX7_openCall 10 = .ok (.iconst 1, 1) := by decide +kernel
theorem dX7_openCall_11 : decode cX7_openCall 11 = .ok (.iadd, 1) := by decide +kernel
theorem dX7_openCall_12 : decode cX7_openCall 12 = .ok (.putfield 38, 3) := by decide +kernel
theorem dX7_openCall_15 : decode cX7_openCall 15 = .ok (.aload_n 0, 1) := by decide +kernel
theorem dX7_openCall_16 : decode cX7_openCall 16 = .ok (.aload_n 0, 1) := by decide +kernel
theorem dX7_openCall_17 : decode cX7_openCall 17 = .ok (.iload_n 2, 1) := by decide +kernel
theorem dX7_openCall_18 : decode cX7_openCall 18 = .ok (.invokevirtual 68, 3) := by decide +kernel
theorem dX7_openCall_21 : decode cX7_openCall 21 = .ok (.putfield 72, 3) := by decide +kernel
theorem dX7_openCall_24 : decode cX7_openCall 24 = .ok (.aload_n 0, 1) := by decide +kernel
theorem dX7_openCall_25 : decode cX7_openCall 25 = .ok (.getfield 9, 3) := by decide +kernel
theorem dX7_openCall_28 : decode cX7_openCall 28 = .ok (.iload_n 1, 1) := by decide +kernel
theorem dX7_openCall_29 : decode cX7_openCall 29 = .ok (.iload_n 2, 1) := by decide +kernel
theorem dX7_openCall_30 : decode cX7_openCall 30 = .ok (.invokestatic 61, 3) := by decide +kernel
theorem dX7_openCall_33 : decode cX7_openCall 33 = .ok (.aload_n 0, 1) := by decide +kernel
theorem dX7_openCall_34 : decode cX7_openCall 34 = .ok (.getfield 15, 3) := by decide +kernel
theorem dX7_openCall_37 : decode cX7_openCall 37 = .ok (.iload_n 1, 1) := by decide +kernel
theorem dX7_openCall_38 : decode cX7_openCall 38 = .ok (.iconst 0, 1) := by decide +kernel
theorem dX7_openCall_39 : decode cX7_openCall 39 = .ok (.invokestatic 61, 3) := by decide +kernel
theorem dX7_openCall_42 : decode cX7_openCall 42 = .ok (.aload_n 0, 1) := by decide +kernel
theorem dX7_openCall_43 : decode cX7_openCall 43 = .ok (.getfield 18, 3) := by decide +kernel
theorem dX7_openCall_46 : decode cX7_openCall 46 = .ok (.iload_n 1, 1) := by decide +kernel
theorem dX7_openCall_47 : decode cX7_openCall 47 = .ok (.iconst 0, 1) := by decide +kernel
theorem dX7_openCall_48 : decode cX7_openCall 48 = .ok (.invokestatic 61, 3) := by decide +kernel
theorem dX7_openCall_51 : decode cX7_openCall 51 = .ok (.aload_n 0, 1) := by decide +kernel
theorem dX7_openCall_52 : decode cX7_openCall 52 = .ok (.getfield 21, 3) := by decide +kernel
theorem dX7_openCall_55 : decode cX7_openCall 55 = .ok (.iload_n 1, 1) := by decide +kernel
theorem dX7_openCall_56 : decode cX7_openCall 56 = .ok (.bipush 12, 2) := by decide +kernel
theorem dX7_openCall_58 : decode cX7_openCall 58 = .ok (.imul, 1) := by decide +kernel
theorem dX7_openCall_59 : decode cX7_openCall 59 = .ok (.iconst 0, 1) := by decide +kernel
theorem dX7_openCall_60 : decode cX7_openCall 60 = .ok (.invokestatic 61, 3) := by decide +kernel
theorem dX7_openCall_63 : decode cX7_openCall 63 = .ok (.iload_n 1, 1) := by decide +kernel
theorem dX7_openCall_64 : decode cX7_openCall 64 = .ok (.sipush 192, 3) := by decide +kernel
theorem dX7_openCall_67 : decode cX7_openCall 67 = .ok (.imul, 1) := by decide +kernel
theorem dX7_openCall_68 : decode cX7_openCall 68 = .ok (.istore_n 3, 1) := by decide +kernel
theorem dX7_openCall_69 : decode cX7_openCall 69 = .ok (.iload_n 3, 1) := by decide +kernel
theorem dX7_openCall_70 : decode cX7_openCall 70 = .ok (.ifCond .lt 30, 3) := by decide +kernel
theorem dX7_openCall_73 : decode cX7_openCall 73 = .ok (.iload_n 3, 1) := by decide +kernel
theorem dX7_openCall_74 : decode cX7_openCall 74 = .ok (.sipush 192, 3) := by decide +kernel
theorem dX7_openCall_77 : decode cX7_openCall 77 = .ok (.iadd, 1) := by decide +kernel
theorem dX7_openCall_78 : decode cX7_openCall 78 = .ok (.aload_n 0, 1) := by decide +kernel
theorem dX7_openCall_79 : decode cX7_openCall 79 = .ok (.getfield 24, 3) := by decide +kernel
theorem dX7_openCall_82 : decode cX7_openCall 82 = .ok (.arraylength, 1) := by decide +kernel
theorem dX7_openCall_83 : decode cX7_openCall 83 = .ok (.if_icmp .gt 17, 3) := by decide +kernel
theorem dX7_openCall_100 : decode cX7_openCall 100 = .ok (.return_, 1) := by decide +kernel
theorem dX7_openCall_86 : decode cX7_openCall 86 = .ok (.aload_n 0, 1) := by decide +kernel
theorem dX7_openCall_87 : decode cX7_openCall 87 = .ok (.getfield 24, 3) := by decide +kernel
theorem dX7_openCall_90 : decode cX7_openCall 90 = .ok (.iload_n 3, 1) := by decide +kernel
theorem dX7_openCall_91 : decode cX7_openCall 91 = .ok (.iload_n 3, 1) := by decide +kernel
theorem dX7_openCall_92 : decode cX7_openCall 92 = .ok (.sipush 192, 3) := by decide +kernel
theorem dX7_openCall_95 : decode cX7_openCall 95 = .ok (.iadd, 1) := by decide +kernel
theorem dX7_openCall_96 : decode cX7_openCall 96 = .ok (.iconst 0, 1) := by decide +kernel
theorem dX7_openCall_97 : decode cX7_openCall 97 = .ok (.invokestatic 76, 3) := by decide +kernel
set_option maxRecDepth 20000 in
theorem k_X7_openCall (d : Nat) {T : CT} {σ : MS} {a : Nat} {c : Int} {r : Int} (ha : OB T a 7) (hta : (T a).1 = 37) (h_c : -2147483648 ≤ c ∧ c ≤ 2147483647) (h_r : -2147483648 ≤ r ∧ r ≤ 2147483647) (hw : WT T σ) (h8 : 0 ≤ c ∧ c ≤ 11184800) : Tn (d + 3) m_X7_openCall 0 T σ [(0, .ref a), (1, .int (iI c)), (2, .int (iI r))] [] (fun ro T2 σ2 => ro = none ∧ T = T2 ∧ WT T2 σ2 ∧ FrC T [57, 58, 69, 515] σ σ2 ∧ (σ2.2.1 57 a = c) ∧ (FA a σ σ2)) := by
  refine tn_aload_n dX7_openCall_0 rfl 0 rfl ?_
  refine tn_iload_n dX7_openCall_1 rfl 1 rfl ?_
  refine tn_putV (ci := 7) (i := 2) (n := 57) (r := false) (v := c) tyX7 tyX7_ok nmX7 dX7_openCall_2 rfl lay_7 (by decide) fl7_65 rfl (tyX7_ok 2 (by decide)) rfl rfl rfl ha rfl rfl ?_
  refine tn_aload_n dX7_openCall_5 rfl 0 rfl ?_
  refine tn_dup dX7_openCall_6 rfl ?_
  refine tn_getI (ci := 7) (i := 3) (n := 58) (t := σ.2.1 58 a) dX7_openCall_7 rfl lay_7 (by decide) fl7_38 ha rfl rfl (rc_o (by decide) (rfl)) ?_
  have g1 : ((-2147483648 : Int) ≤ σ.2.1 58 a ∧ σ.2.1 58 a ≤ 2147483647) := wf_58 hw ha
  refine tn_iconst dX7_openCall_10 ?_
  refine tn_iadd dX7_openCall_11 ?_
  refine tn_any (fun z2 g3 => ?_)
  have g3r : -2147483648 ≤ z2 ∧ z2 ≤ 2147483647 := g3
  refine tn_putV (ci := 7) (i := 3) (n := 58) (r := false) (v := z2) tyX7 tyX7_ok nmX7 dX7_openCall_12 rfl lay_7 (by decide) fl7_38 rfl (tyX7_ok 3 (by decide)) rfl rfl rfl ha rfl rfl ?_
  refine tn_aload_n dX7_openCall_15 rfl 0 rfl ?_
  refine tn_aload_n dX7_openCall_16 rfl 0 rfl ?_
  refine tn_iload_n dX7_openCall_17 rfl 2 rfl ?_
  refine tn_callV (M := m_X7_openCall) (pc := 18) (ix := 68) (ci := 7) (M' := m_X7_codeAt) (As := [.int (iI r)]) (rest := [.ref a]) dX7_openCall_18 ok_X7_codeAt im_X7_codeAt se_X7_codeAt ml7_68 np_X7_codeAt rfl rfl ha rfl (Nat.le_of_ble_eq_true rfl) (Nat.le_of_ble_eq_true rfl) rfl (k_X7_codeAt (d + 1) (T := T) (σ := (sA 58 a (z2) (sA 57 a (c) σ))) (a := a) (r := r) ha (by omega) ((hw.put (by decide) (by decide) (fo_57 ⟨by omega, by omega⟩)).put (by decide) (by decide) (fo_58 (by omega))) ) (fun r4 T6 σ5 gt7 hp => ?_)
  obtain ⟨v9, rfl, rfl, rfl, rv10, f8⟩ := hp
  clear gt7
  clear f8
  rcases rv10 with rv10 | ⟨x11, rfl, hk12⟩
  · show Tn _ _ 21 T (sA 58 a (z2) (sA 57 a (c) σ)) [(0, .ref a), (1, .int (iI c)), (2, .int (iI r))] (vl true v9 :: [.ref a]) _
    rw [vl_null rv10]
    refine tn_putV (ci := 7) (i := 14) (n := 69) (r := true) (v := -1) tyX7 tyX7_ok nmX7 dX7_openCall_21 rfl lay_7 (by decide) fl7_72 rfl (tyX7_ok 14 (by decide)) (vl_null (by decide)).symm rfl rfl ha rfl rfl ?_
    refine tn_aload_n dX7_openCall_24 rfl 0 rfl ?_
    obtain ⟨x13, hx14, hk15, hl16⟩ : ∃ x : Nat, σ.2.1 59 a = (x : Int) ∧ AR T x 15 9 9 := wf_59 hw ha
    have hk15i : IA T x13 := by unfold IA; omega
    refine tn_getR (ci := 7) (i := 4) (n := 59) (x := x13) dX7_openCall_25 rfl lay_7 (by decide) fl7_9 ha rfl rfl (rc_o (by decide) (rc_o (by decide) (rc_o (by decide) (hx14)))) ?_
    refine tn_iload_n dX7_openCall_28 rfl 1 rfl ?_
    refine tn_iload_n dX7_openCall_29 rfl 2 rfl ?_
    refine tn_callSN (M := m_X7_openCall) (pc := 30) (ix := 61) (M' := m_X11_put) (As := [.ref x13, .int (iI c), .int (iI r)]) (rest := []) dX7_openCall_30 ok_X11_put stt_X11_put nl7_61 np_X11_put rfl (Nat.le_of_ble_eq_true rfl) (Nat.le_of_ble_eq_true rfl) rfl (k_X11_put_15 (d + 1) (T := T) (σ := (sA 69 a (-1) (sA 58 a (z2) (sA 57 a (c) σ)))) (x := x13) (i := c) (y := r) hk15i (by omega) hk15 (by omega) (by omega) (((hw.put (by decide) (by decide) (fo_57 ⟨by omega, by omega⟩)).put (by decide) (by decide) (fo_58 (by omega))).put (by decide) (by decide) (fo_69 (Or.inl (by decide)))) ) (fun r17 T19 σ18 gt20 hp => ?_)
    obtain ⟨rfl, rfl, w23, F24, f21⟩ := hp
    clear gt20
    show Tn _ _ 33 T σ18 [(0, .ref a), (1, .int (iI c)), (2, .int (iI r))] [] _
    refine tn_aload_n dX7_openCall_33 rfl 0 rfl ?_
    obtain ⟨x25, hx26, hk27, hl28⟩ : ∃ x : Nat, σ.2.1 60 a = (x : Int) ∧ AR T x 1 9 9 := wf_60 hw ha
    have hk27i : IA T x25 := by unfold IA; omega
    refine tn_getR (ci := 7) (i := 5) (n := 60) (x := x25) dX7_openCall_34 rfl lay_7 (by decide) fl7_15 ha rfl rfl (rc_F F24 (Or.inl (by decide)) (by decide) (rc_o (by decide) (rc_o (by decide) (rc_o (by decide) (hx26))))) ?_
    refine tn_iload_n dX7_openCall_37 rfl 1 rfl ?_
    refine tn_iconst dX7_openCall_38 ?_
    refine tn_callSN (M := m_X7_openCall) (pc := 39) (ix := 61) (M' := m_X11_put) (As := [.ref x25, .int (iI c), .int (iI 0)]) (rest := []) dX7_openCall_39 ok_X11_put stt_X11_put nl7_61 np_X11_put rfl (Nat.le_of_ble_eq_true rfl) (Nat.le_of_ble_eq_true rfl) rfl (k_X11_put (d + 1) (T := T) (σ := σ18) (x := x25) (i := c) (y := 0) hk27i (by omega) (by omega) (by decide) w23 (nh_k hk27 (by unfold HT; omega)) vok_0) (fun r29 T31 σ30 gt32 hp => ?_)
    obtain ⟨rfl, rfl, w34, F35⟩ := hp
    clear gt32
    show Tn _ _ 42 T σ30 [(0, .ref a), (1, .int (iI c)), (2, .int (iI r))] [] _
    refine tn_aload_n dX7_openCall_42 rfl 0 rfl ?_
    obtain ⟨x36, hx37, hl39, hk38a, hk38b⟩ := wf_61 hw ha
    have hk38 : (T x36).1 = 1 := hk38b (by omega)
    clear hk38a hk38b
    have hk38i : IA T x36 := by unfold IA; omega
    refine tn_getR (ci := 7) (i := 6) (n := 61) (x := x36) dX7_openCall_43 rfl lay_7 (by decide) fl7_18 ha rfl rfl (rc_F F35 (Or.inl (by decide)) (by decide) (rc_F F24 (Or.inl (by decide)) (by decide) (rc_o (by decide) (rc_o (by decide) (rc_o (by decide) (hx37)))))) ?_
    refine tn_iload_n dX7_openCall_46 rfl 1 rfl ?_
    refine tn_iconst dX7_openCall_47 ?_
    refine tn_callSN (M := m_X7_openCall) (pc := 48) (ix := 61) (M' := m_X11_put) (As := [.ref x36, .int (iI c), .int (iI 0)]) (rest := []) dX7_openCall_48 ok_X11_put stt_X11_put nl7_61 np_X11_put rfl (Nat.le_of_ble_eq_true rfl) (Nat.le_of_ble_eq_true rfl) rfl (k_X11_put (d + 1) (T := T) (σ := σ30) (x := x36) (i := c) (y := 0) hk38i (by omega) (by omega) (by decide) w34 (nh_k hk38 (by unfold HT; omega)) vok_0) (fun r40 T42 σ41 gt43 hp => ?_)
    obtain ⟨rfl, rfl, w45, F46⟩ := hp
    clear gt43
    show Tn _ _ 51 T σ41 [(0, .ref a), (1, .int (iI c)), (2, .int (iI r))] [] _
    refine tn_aload_n dX7_openCall_51 rfl 0 rfl ?_
    obtain ⟨x47, hx48, hk49, hl50⟩ : ∃ x : Nat, σ.2.1 62 a = (x : Int) ∧ AR T x 1 108 108 := wf_62 hw ha
    have hk49i : IA T x47 := by unfold IA; omega
    refine tn_getR (ci := 7) (i := 7) (n := 62) (x := x47) dX7_openCall_52 rfl lay_7 (by decide) fl7_21 ha rfl rfl (rc_F F46 (Or.inl (by decide)) (by decide) (rc_F F35 (Or.inl (by decide)) (by decide) (rc_F F24 (Or.inl (by decide)) (by decide) (rc_o (by decide) (rc_o (by decide) (rc_o (by decide) (hx48))))))) ?_
    refine tn_iload_n dX7_openCall_55 rfl 1 rfl ?_
    refine tn_bipush dX7_openCall_56 (by decide) ?_
    refine tn_imul dX7_openCall_58 ?_
    refine tn_iconst dX7_openCall_59 ?_
    refine tn_callSN (M := m_X7_openCall) (pc := 60) (ix := 61) (M' := m_X11_put) (As := [.ref x47, .int (iI (c * 12)), .int (iI 0)]) (rest := []) dX7_openCall_60 ok_X11_put stt_X11_put nl7_61 np_X11_put rfl (Nat.le_of_ble_eq_true rfl) (Nat.le_of_ble_eq_true rfl) rfl (k_X11_put (d + 1) (T := T) (σ := σ41) (x := x47) (i := c * 12) (y := 0) hk49i (by omega) (by omega) (by decide) w45 (nh_k hk49 (by unfold HT; omega)) vok_0) (fun r51 T53 σ52 gt54 hp => ?_)
    obtain ⟨rfl, rfl, w56, F57⟩ := hp
    clear gt54
    show Tn _ _ 63 T σ52 [(0, .ref a), (1, .int (iI c)), (2, .int (iI r))] [] _
    refine tn_iload_n dX7_openCall_63 rfl 1 rfl ?_
    refine tn_sipush dX7_openCall_64 (by decide) ?_
    refine tn_imul dX7_openCall_67 ?_
    refine tn_istore_n (L' := [(3, .int (iI (c * 192))), (0, .ref a), (1, .int (iI c)), (2, .int (iI r))]) dX7_openCall_68 rfl (by decide) rfl ?_
    refine tn_iload_n dX7_openCall_69 rfl 0 rfl ?_
    refine tn_if_lt (tgt := 100) dX7_openCall_70 (by decide) ⟨by omega, by omega⟩ (fun h58 => absurd h58 (by omega)) (fun h58 => ?_)
    refine tn_iload_n dX7_openCall_73 rfl 0 rfl ?_
    refine tn_sipush dX7_openCall_74 (by decide) ?_
    refine tn_iadd dX7_openCall_77 ?_
    refine tn_aload_n dX7_openCall_78 rfl 1 rfl ?_
    obtain ⟨x59, hx60, hk61, hl62⟩ : ∃ x : Nat, σ.2.1 63 a = (x : Int) ∧ AR T x 1 1728 1728 := wf_63 hw ha
    have hk61i : IA T x59 := by unfold IA; omega
    refine tn_getR (ci := 7) (i := 8) (n := 63) (x := x59) dX7_openCall_79 rfl lay_7 (by decide) fl7_24 ha rfl rfl (rc_F F57 (Or.inl (by decide)) (by decide) (rc_F F46 (Or.inl (by decide)) (by decide) (rc_F F35 (Or.inl (by decide)) (by decide) (rc_F F24 (Or.inl (by decide)) (by decide) (rc_o (by decide) (rc_o (by decide) (rc_o (by decide) (hx60)))))))) ?_
    refine tn_alenX dX7_openCall_82 (Or.inl hk61i) ?_
    refine tn_icmp_gt (tgt := 100) dX7_openCall_83 (by decide) ⟨by omega, by omega⟩ ⟨by omega, by omega⟩ (fun h63 => ?_) (fun h63 => ?_)
    · have q64 : σ52.2.1 57 a = c := rc_F F57 (Or.inl (by decide)) (by decide) (rc_F F46 (Or.inl (by decide)) (by decide) (rc_F F35 (Or.inl (by decide)) (by decide) (rc_F F24 (Or.inl (by decide)) (by decide) (rc_o (by decide) (rc_o (by decide) (ra_eq))))))
      exact tn_vret rfl dX7_openCall_100 ⟨rfl, rfl, w56, (((((((FrC.rfl.put (by decide) (by decide)).put (by decide) (by decide)).put (by decide) (by decide)).trans (FrC.sub F24 (by decide))).trans (FrC.sub F35 (by decide))).trans (FrC.sub F46 (by decide))).trans (FrC.sub F57 (by decide))), by omega, (((((((FA.rfl.put).put).put).trans (FA.of F24 (by decide))).trans (FA.of F35 (by decide))).trans (FA.of F46 (by decide))).trans (FA.of F57 (by decide)))⟩
    · refine tn_aload_n dX7_openCall_86 rfl 1 rfl ?_
      refine tn_getR (ci := 7) (i := 8) (n := 63) (x := x59) dX7_openCall_87 rfl lay_7 (by decide) fl7_24 ha rfl rfl (rc_F F57 (Or.inl (by decide)) (by decide) (rc_F F46 (Or.inl (by decide)) (by decide) (rc_F F35 (Or.inl (by decide)) (by decide) (rc_F F24 (Or.inl (by decide)) (by decide) (rc_o (by decide) (rc_o (by decide) (rc_o (by decide) (hx60)))))))) ?_
      refine tn_iload_n dX7_openCall_90 rfl 0 rfl ?_
      refine tn_iload_n dX7_openCall_91 rfl 0 rfl ?_
      refine tn_sipush dX7_openCall_92 (by decide) ?_
      refine tn_iadd dX7_openCall_95 ?_
      refine tn_iconst dX7_openCall_96 ?_
      refine tn_callS (M := m_X7_openCall) (pc := 97) (ix := 76) (M' := m_J7_fill_fda19) (As := [.ref x59, .int (iI (c * 192)), .int (iI ((c * 192) + 192)), .int (iI 0)]) (rest := []) dX7_openCall_97 ok_J7_fill_fda19 stt_J7_fill_fda19 ml7_76 np_J7_fill_fda19 rfl (Nat.le_of_ble_eq_true rfl) (Nat.le_of_ble_eq_true rfl) rfl (k_J7_fill_fda19 (d) (T := T) (σ := σ52) (x := x59) (f := c * 192) (t := (c * 192) + 192) (y := 0) hk61i (by omega) (by omega) (by omega) (by decide) w56 (nh_k hk61 (by unfold HT; omega)) (by omega) (by omega)) (fun r65 T67 σ66 gt68 hp => ?_)
      obtain ⟨rfl, rfl, w70, F71⟩ := hp
      clear gt68
      show Tn _ _ 100 T σ66 [(3, .int (iI (c * 192))), (0, .ref a), (1, .int (iI c)), (2, .int (iI r))] [] _
      have q72 : σ66.2.1 57 a = c := rc_F F71 (Or.inl (by decide)) (by decide) (rc_F F57 (Or.inl (by decide)) (by decide) (rc_F F46 (Or.inl (by decide)) (by decide) (rc_F F35 (Or.inl (by decide)) (by decide) (rc_F F24 (Or.inl (by decide)) (by decide) (rc_o (by decide) (rc_o (by decide) (ra_eq)))))))
      exact tn_vret rfl dX7_openCall_100 ⟨rfl, rfl, w70, ((((((((FrC.rfl.put (by decide) (by decide)).put (by decide) (by decide)).put (by decide) (by decide)).trans (FrC.sub F24 (by decide))).trans (FrC.sub F35 (by decide))).trans (FrC.sub F46 (by decide))).trans (FrC.sub F57 (by decide))).trans (FrC.sub F71 (by decide))), by omega, ((((((((FA.rfl.put).put).put).trans (FA.of F24 (by decide))).trans (FA.of F35 (by decide))).trans (FA.of F46 (by decide))).trans (FA.of F57 (by decide))).trans (FA.of F71 (by decide)))⟩
  · show Tn _ _ 21 T (sA 58 a (z2) (sA 57 a (c) σ)) [(0, .ref a), (1, .int (iI c)), (2, .int (iI r))] (vl true (x11 : Int) :: [.ref a]) _
    rw [vl_ref rfl]
    have hk12o : OB T x11 1 := hk12.1
    refine tn_putV (ci := 7) (i := 14) (n := 69) (r := true) (v := (x11 : Int)) tyX7 tyX7_ok nmX7 dX7_openCall_21 rfl lay_7 (by decide) fl7_72 rfl (tyX7_ok 14 (by decide)) (vl_ref rfl).symm rfl rfl ha rfl rfl ?_
    refine tn_aload_n dX7_openCall_24 rfl 0 rfl ?_
    obtain ⟨x73, hx74, hk75, hl76⟩ : ∃ x : Nat, σ.2.1 59 a = (x : Int) ∧ AR T x 15 9 9 := wf_59 hw ha
    have hk75i : IA T x73 := by unfold IA; omega
    refine tn_getR (ci := 7) (i := 4) (n := 59) (x := x73) dX7_openCall_25 rfl lay_7 (by decide) fl7_9 ha rfl rfl (rc_o (by decide) (rc_o (by decide) (rc_o (by decide) (hx74)))) ?_
    refine tn_iload_n dX7_openCall_28 rfl 1 rfl ?_
    refine tn_iload_n dX7_openCall_29 rfl 2 rfl ?_
    refine tn_callSN (M := m_X7_openCall) (pc := 30) (ix := 61) (M' := m_X11_put) (As := [.ref x73, .int (iI c), .int (iI r)]) (rest := []) dX7_openCall_30 ok_X11_put stt_X11_put nl7_61 np_X11_put rfl (Nat.le_of_ble_eq_true rfl) (Nat.le_of_ble_eq_true rfl) rfl (k_X11_put_15 (d + 1) (T := T) (σ := (sA 69 a ((x11 : Int)) (sA 58 a (z2) (sA 57 a (c) σ)))) (x := x73) (i := c) (y := r) hk75i (by omega) hk75 (by omega) (by omega) (((hw.put (by decide) (by decide) (fo_57 ⟨by omega, by omega⟩)).put (by decide) (by decide) (fo_58 (by omega))).put (by decide) (by decide) (fo_69 (Or.inr ⟨_, rfl, hk12.2.1, hk12.2.2⟩))) ) (fun r77 T79 σ78 gt80 hp => ?_)
    obtain ⟨rfl, rfl, w83, F84, f81⟩ := hp
    clear gt80
    show Tn _ _ 33 T σ78 [(0, .ref a), (1, .int (iI c)), (2, .int (iI r))] [] _
    refine tn_aload_n dX7_openCall_33 rfl 0 rfl ?_
    obtain ⟨x85, hx86, hk87, hl88⟩ : ∃ x : Nat, σ.2.1 60 a = (x : Int) ∧ AR T x 1 9 9 := wf_60 hw ha
    have hk87i : IA T x85 := by unfold IA; omega
    refine tn_getR (ci := 7) (i := 5) (n := 60) (x := x85) dX7_openCall_34 rfl lay_7 (by decide) fl7_15 ha rfl rfl (rc_F F84 (Or.inl (by decide)) (by decide) (rc_o (by decide) (rc_o (by decide) (rc_o (by decide) (hx86))))) ?_
    refine tn_iload_n dX7_openCall_37 rfl 1 rfl ?_
    refine tn_iconst dX7_openCall_38 ?_
    refine tn_callSN (M := m_X7_openCall) (pc := 39) (ix := 61) (M' := m_X11_put) (As := [.ref x85, .int (iI c), .int (iI 0)]) (rest := []) dX7_openCall_39 ok_X11_put stt_X11_put nl7_61 np_X11_put rfl (Nat.le_of_ble_eq_true rfl) (Nat.le_of_ble_eq_true rfl) rfl (k_X11_put (d + 1) (T := T) (σ := σ78) (x := x85) (i := c) (y := 0) hk87i (by omega) (by omega) (by decide) w83 (nh_k hk87 (by unfold HT; omega)) vok_0) (fun r89 T91 σ90 gt92 hp => ?_)
    obtain ⟨rfl, rfl, w94, F95⟩ := hp
    clear gt92
    show Tn _ _ 42 T σ90 [(0, .ref a), (1, .int (iI c)), (2, .int (iI r))] [] _
    refine tn_aload_n dX7_openCall_42 rfl 0 rfl ?_
    obtain ⟨x96, hx97, hl99, hk98a, hk98b⟩ := wf_61 hw ha
    have hk98 : (T x96).1 = 1 := hk98b (by omega)
    clear hk98a hk98b
    have hk98i : IA T x96 := by unfold IA; omega
    refine tn_getR (ci := 7) (i := 6) (n := 61) (x := x96) dX7_openCall_43 rfl lay_7 (by decide) fl7_18 ha rfl rfl (rc_F F95 (Or.inl (by decide)) (by decide) (rc_F F84 (Or.inl (by decide)) (by decide) (rc_o (by decide) (rc_o (by decide) (rc_o (by decide) (hx97)))))) ?_
    refine tn_iload_n dX7_openCall_46 rfl 1 rfl ?_
    refine tn_iconst dX7_openCall_47 ?_
    refine tn_callSN (M := m_X7_openCall) (pc := 48) (ix := 61) (M' := m_X11_put) (As := [.ref x96, .int (iI c), .int (iI 0)]) (rest := []) dX7_openCall_48 ok_X11_put stt_X11_put nl7_61 np_X11_put rfl (Nat.le_of_ble_eq_true rfl) (Nat.le_of_ble_eq_true rfl) rfl (k_X11_put (d + 1) (T := T) (σ := σ90) (x := x96) (i := c) (y := 0) hk98i (by omega) (by omega) (by decide) w94 (nh_k hk98 (by unfold HT; omega)) vok_0) (fun r100 T102 σ101 gt103 hp => ?_)
    obtain ⟨rfl, rfl, w105, F106⟩ := hp
    clear gt103
    show Tn _ _ 51 T σ101 [(0, .ref a), (1, .int (iI c)), (2, .int (iI r))] [] _
    refine tn_aload_n dX7_openCall_51 rfl 0 rfl ?_
    obtain ⟨x107, hx108, hk109, hl110⟩ : ∃ x : Nat, σ.2.1 62 a = (x : Int) ∧ AR T x 1 108 108 := wf_62 hw ha
    have hk109i : IA T x107 := by unfold IA; omega
    refine tn_getR (ci := 7) (i := 7) (n := 62) (x := x107) dX7_openCall_52 rfl lay_7 (by decide) fl7_21 ha rfl rfl (rc_F F106 (Or.inl (by decide)) (by decide) (rc_F F95 (Or.inl (by decide)) (by decide) (rc_F F84 (Or.inl (by decide)) (by decide) (rc_o (by decide) (rc_o (by decide) (rc_o (by decide) (hx108))))))) ?_
    refine tn_iload_n dX7_openCall_55 rfl 1 rfl ?_
    refine tn_bipush dX7_openCall_56 (by decide) ?_
    refine tn_imul dX7_openCall_58 ?_
    refine tn_iconst dX7_openCall_59 ?_
    refine tn_callSN (M := m_X7_openCall) (pc := 60) (ix := 61) (M' := m_X11_put) (As := [.ref x107, .int (iI (c * 12)), .int (iI 0)]) (rest := []) dX7_openCall_60 ok_X11_put stt_X11_put nl7_61 np_X11_put rfl (Nat.le_of_ble_eq_true rfl) (Nat.le_of_ble_eq_true rfl) rfl (k_X11_put (d + 1) (T := T) (σ := σ101) (x := x107) (i := c * 12) (y := 0) hk109i (by omega) (by omega) (by decide) w105 (nh_k hk109 (by unfold HT; omega)) vok_0) (fun r111 T113 σ112 gt114 hp => ?_)
    obtain ⟨rfl, rfl, w116, F117⟩ := hp
    clear gt114
    show Tn _ _ 63 T σ112 [(0, .ref a), (1, .int (iI c)), (2, .int (iI r))] [] _
    refine tn_iload_n dX7_openCall_63 rfl 1 rfl ?_
    refine tn_sipush dX7_openCall_64 (by decide) ?_
    refine tn_imul dX7_openCall_67 ?_
    refine tn_istore_n (L' := [(3, .int (iI (c * 192))), (0, .ref a), (1, .int (iI c)), (2, .int (iI r))]) dX7_openCall_68 rfl (by decide) rfl ?_
    refine tn_iload_n dX7_openCall_69 rfl 0 rfl ?_
    refine tn_if_lt (tgt := 100) dX7_openCall_70 (by decide) ⟨by omega, by omega⟩ (fun h118 => absurd h118 (by omega)) (fun h118 => ?_)
    refine tn_iload_n dX7_openCall_73 rfl 0 rfl ?_
    refine tn_sipush dX7_openCall_74 (by decide) ?_
    refine tn_iadd dX7_openCall_77 ?_
    refine tn_aload_n dX7_openCall_78 rfl 1 rfl ?_
    obtain ⟨x119, hx120, hk121, hl122⟩ : ∃ x : Nat, σ.2.1 63 a = (x : Int) ∧ AR T x 1 1728 1728 := wf_63 hw ha
    have hk121i : IA T x119 := by unfold IA; omega
    refine tn_getR (ci := 7) (i := 8) (n := 63) (x := x119) dX7_openCall_79 rfl lay_7 (by decide) fl7_24 ha rfl rfl (rc_F F117 (Or.inl (by decide)) (by decide) (rc_F F106 (Or.inl (by decide)) (by decide) (rc_F F95 (Or.inl (by decide)) (by decide) (rc_F F84 (Or.inl (by decide)) (by decide) (rc_o (by decide) (rc_o (by decide) (rc_o (by decide) (hx120)))))))) ?_
    refine tn_alenX dX7_openCall_82 (Or.inl hk121i) ?_
    refine tn_icmp_gt (tgt := 100) dX7_openCall_83 (by decide) ⟨by omega, by omega⟩ ⟨by omega, by omega⟩ (fun h123 => ?_) (fun h123 => ?_)
    · have q124 : σ112.2.1 57 a = c := rc_F F117 (Or.inl (by decide)) (by decide) (rc_F F106 (Or.inl (by decide)) (by decide) (rc_F F95 (Or.inl (by decide)) (by decide) (rc_F F84 (Or.inl (by decide)) (by decide) (rc_o (by decide) (rc_o (by decide) (ra_eq))))))
      exact tn_vret rfl dX7_openCall_100 ⟨rfl, rfl, w116, (((((((FrC.rfl.put (by decide) (by decide)).put (by decide) (by decide)).put (by decide) (by decide)).trans (FrC.sub F84 (by decide))).trans (FrC.sub F95 (by decide))).trans (FrC.sub F106 (by decide))).trans (FrC.sub F117 (by decide))), by omega, (((((((FA.rfl.put).put).put).trans (FA.of F84 (by decide))).trans (FA.of F95 (by decide))).trans (FA.of F106 (by decide))).trans (FA.of F117 (by decide)))⟩
    · refine tn_aload_n dX7_openCall_86 rfl 1 rfl ?_
      refine tn_getR (ci := 7) (i := 8) (n := 63) (x := x119) dX7_openCall_87 rfl lay_7 (by decide) fl7_24 ha rfl rfl (rc_F F117 (Or.inl (by decide)) (by decide) (rc_F F106 (Or.inl (by decide)) (by decide) (rc_F F95 (Or.inl (by decide)) (by decide) (rc_F F84 (Or.inl (by decide)) (by decide) (rc_o (by decide) (rc_o (by decide) (rc_o (by decide) (hx120)))))))) ?_
      refine tn_iload_n dX7_openCall_90 rfl 0 rfl ?_
      refine tn_iload_n dX7_openCall_91 rfl 0 rfl ?_
      refine tn_sipush dX7_openCall_92 (by decide) ?_
      refine tn_iadd dX7_openCall_95 ?_
      refine tn_iconst dX7_openCall_96 ?_
      refine tn_callS (M := m_X7_openCall) (pc := 97) (ix := 76) (M' := m_J7_fill_fda19) (As := [.ref x119, .int (iI (c * 192)), .int (iI ((c * 192) + 192)), .int (iI 0)]) (rest := []) dX7_openCall_97 ok_J7_fill_fda19 stt_J7_fill_fda19 ml7_76 np_J7_fill_fda19 rfl (Nat.le_of_ble_eq_true rfl) (Nat.le_of_ble_eq_true rfl) rfl (k_J7_fill_fda19 (d) (T := T) (σ := σ112) (x := x119) (f := c * 192) (t := (c * 192) + 192) (y := 0) hk121i (by omega) (by omega) (by omega) (by decide) w116 (nh_k hk121 (by unfold HT; omega)) (by omega) (by omega)) (fun r125 T127 σ126 gt128 hp => ?_)
      obtain ⟨rfl, rfl, w130, F131⟩ := hp
      clear gt128
      show Tn _ _ 100 T σ126 [(3, .int (iI (c * 192))), (0, .ref a), (1, .int (iI c)), (2, .int (iI r))] [] _
      have q132 : σ126.2.1 57 a = c := rc_F F131 (Or.inl (by decide)) (by decide) (rc_F F117 (Or.inl (by decide)) (by decide) (rc_F F106 (Or.inl (by decide)) (by decide) (rc_F F95 (Or.inl (by decide)) (by decide) (rc_F F84 (Or.inl (by decide)) (by decide) (rc_o (by decide) (rc_o (by decide) (ra_eq)))))))
      exact tn_vret rfl dX7_openCall_100 ⟨rfl, rfl, w130, ((((((((FrC.rfl.put (by decide) (by decide)).put (by decide) (by decide)).put (by decide) (by decide)).trans (FrC.sub F84 (by decide))).trans (FrC.sub F95 (by decide))).trans (FrC.sub F106 (by decide))).trans (FrC.sub F117 (by decide))).trans (FrC.sub F131 (by decide))), by omega, ((((((((FA.rfl.put).put).put).trans (FA.of F84 (by decide))).trans (FA.of F95 (by decide))).trans (FA.of F106 (by decide))).trans (FA.of F117 (by decide))).trans (FA.of F131 (by decide)))⟩
end
section
set_option maxRecDepth 20000 in
theorem k_X7_openCall_57 (d : Nat) {T : CT} {σ : MS} {a : Nat} {c : Int} {r : Int} (ha : OB T a 7) (hta : (T a).1 = 57) (h_c : -2147483648 ≤ c ∧ c ≤ 2147483647) (h_r : -2147483648 ≤ r ∧ r ≤ 2147483647) (hw : WT T σ) (h8 : 0 ≤ c ∧ c ≤ 8) (hd : 0 ≤ σ.2.1 58 a ∧ σ.2.1 58 a ≤ 100) : Tn (d + 3) m_X7_openCall 0 T σ [(0, .ref a), (1, .int (iI c)), (2, .int (iI r))] [] (fun ro T2 σ2 => ro = none ∧ T = T2 ∧ WT T2 σ2 ∧ FrC T [57, 58, 69, 515] σ σ2 ∧ (σ2.2.1 57 a = c) ∧ (σ2.2.1 58 a = σ.2.1 58 a + 1) ∧ (FA a σ σ2)) := by
  refine tn_aload_n dX7_openCall_0 rfl 0 rfl ?_
  refine tn_iload_n dX7_openCall_1 rfl 1 rfl ?_
  refine tn_putV (ci := 7) (i := 2) (n := 57) (r := false) (v := c) tyX7 tyX7_ok nmX7 dX7_openCall_2 rfl lay_7 (by decide) fl7_65 rfl (tyX7_ok 2 (by decide)) rfl rfl rfl ha rfl rfl ?_
  refine tn_aload_n dX7_openCall_5 rfl 0 rfl ?_
  refine tn_dup dX7_openCall_6 rfl ?_
  refine tn_getI (ci := 7) (i := 3) (n := 58) (t := σ.2.1 58 a) dX7_openCall_7 rfl lay_7 (by decide) fl7_38 ha rfl rfl (rc_o (by decide) (rfl)) ?_
  have g1 : ((-2147483648 : Int) ≤ σ.2.1 58 a ∧ σ.2.1 58 a ≤ 2147483647) := wf_58 hw ha
  refine tn_iconst dX7_openCall_10 ?_
  refine tn_iadd dX7_openCall_11 ?_
  refine tn_putV (ci := 7) (i := 3) (n := 58) (r := false) (v := (σ.2.1 58 a) + 1) tyX7 tyX7_ok nmX7 dX7_openCall_12 rfl lay_7 (by decide) fl7_38 rfl (tyX7_ok 3 (by decide)) rfl rfl rfl ha rfl rfl ?_
  refine tn_aload_n dX7_openCall_15 rfl 0 rfl ?_
  refine tn_aload_n dX7_openCall_16 rfl 0 rfl ?_
  refine tn_iload_n dX7_openCall_17 rfl 2 rfl ?_
  refine tn_callV (M := m_X7_openCall) (pc := 18) (ix := 68) (ci := 7) (M' := m_X7_codeAt) (As := [.int (iI r)]) (rest := [.ref a]) dX7_openCall_18 ok_X7_codeAt im_X7_codeAt se_X7_codeAt ml7_68 np_X7_codeAt rfl rfl ha rfl (Nat.le_of_ble_eq_true rfl) (Nat.le_of_ble_eq_true rfl) rfl (k_X7_codeAt (d + 1) (T := T) (σ := (sA 58 a ((σ.2.1 58 a) + 1) (sA 57 a (c) σ))) (a := a) (r := r) ha (by omega) ((hw.put (by decide) (by decide) (fo_57 ⟨by omega, by omega⟩)).put (by decide) (by decide) (fo_58 (by omega))) ) (fun r2 T4 σ3 gt5 hp => ?_)
  obtain ⟨v7, rfl, rfl, rfl, rv8, f6⟩ := hp
  clear gt5
  clear f6
  rcases rv8 with rv8 | ⟨x9, rfl, hk10⟩
  · show Tn _ _ 21 T (sA 58 a ((σ.2.1 58 a) + 1) (sA 57 a (c) σ)) [(0, .ref a), (1, .int (iI c)), (2, .int (iI r))] (vl true v7 :: [.ref a]) _
    rw [vl_null rv8]
    refine tn_putV (ci := 7) (i := 14) (n := 69) (r := true) (v := -1) tyX7 tyX7_ok nmX7 dX7_openCall_21 rfl lay_7 (by decide) fl7_72 rfl (tyX7_ok 14 (by decide)) (vl_null (by decide)).symm rfl rfl ha rfl rfl ?_
    refine tn_aload_n dX7_openCall_24 rfl 0 rfl ?_
    obtain ⟨x11, hx12, hk13, hl14⟩ : ∃ x : Nat, σ.2.1 59 a = (x : Int) ∧ AR T x 15 9 9 := wf_59 hw ha
    have hk13i : IA T x11 := by unfold IA; omega
    refine tn_getR (ci := 7) (i := 4) (n := 59) (x := x11) dX7_openCall_25 rfl lay_7 (by decide) fl7_9 ha rfl rfl (rc_o (by decide) (rc_o (by decide) (rc_o (by decide) (hx12)))) ?_
    refine tn_iload_n dX7_openCall_28 rfl 1 rfl ?_
    refine tn_iload_n dX7_openCall_29 rfl 2 rfl ?_
    refine tn_callSN (M := m_X7_openCall) (pc := 30) (ix := 61) (M' := m_X11_put) (As := [.ref x11, .int (iI c), .int (iI r)]) (rest := []) dX7_openCall_30 ok_X11_put stt_X11_put nl7_61 np_X11_put rfl (Nat.le_of_ble_eq_true rfl) (Nat.le_of_ble_eq_true rfl) rfl (k_X11_put_15 (d + 1) (T := T) (σ := (sA 69 a (-1) (sA 58 a ((σ.2.1 58 a) + 1) (sA 57 a (c) σ)))) (x := x11) (i := c) (y := r) hk13i (by omega) hk13 (by omega) (by omega) (((hw.put (by decide) (by decide) (fo_57 ⟨by omega, by omega⟩)).put (by decide) (by decide) (fo_58 (by omega))).put (by decide) (by decide) (fo_69 (Or.inl (by decide)))) ) (fun r15 T17 σ16 gt18 hp => ?_)
    obtain ⟨rfl, rfl, w21, F22, f19⟩ := hp
    clear gt18
    show Tn _ _ 33 T σ16 [(0, .ref a), (1, .int (iI c)), (2, .int (iI r))] [] _
    refine tn_aload_n dX7_openCall_33 rfl 0 rfl ?_
    obtain ⟨x23, hx24, hk25, hl26⟩ : ∃ x : Nat, σ.2.1 60 a = (x : Int) ∧ AR T x 1 9 9 := wf_60 hw ha
    have hk25i : IA T x23 := by unfold IA; omega
    refine tn_getR (ci := 7) (i := 5) (n := 60) (x := x23) dX7_openCall_34 rfl lay_7 (by decide) fl7_15 ha rfl rfl (rc_F F22 (Or.inl (by decide)) (by decide) (rc_o (by decide) (rc_o (by decide) (rc_o (by decide) (hx24))))) ?_
    refine tn_iload_n dX7_openCall_37 rfl 1 rfl ?_
    refine tn_iconst dX7_openCall_38 ?_
    refine tn_callSN (M := m_X7_openCall) (pc := 39) (ix := 61) (M' := m_X11_put) (As := [.ref x23, .int (iI c), .int (iI 0)]) (rest := []) dX7_openCall_39 ok_X11_put stt_X11_put nl7_61 np_X11_put rfl (Nat.le_of_ble_eq_true rfl) (Nat.le_of_ble_eq_true rfl) rfl (k_X11_put (d + 1) (T := T) (σ := σ16) (x := x23) (i := c) (y := 0) hk25i (by omega) (by omega) (by decide) w21 (nh_k hk25 (by unfold HT; omega)) vok_0) (fun r27 T29 σ28 gt30 hp => ?_)
    obtain ⟨rfl, rfl, w32, F33⟩ := hp
    clear gt30
    show Tn _ _ 42 T σ28 [(0, .ref a), (1, .int (iI c)), (2, .int (iI r))] [] _
    refine tn_aload_n dX7_openCall_42 rfl 0 rfl ?_
    obtain ⟨x34, hx35, hl37, hk36a, hk36b⟩ := wf_61 hw ha
    have hk36 : (T x34).1 = 14 := hk36a (by omega)
    clear hk36a hk36b
    have hk36i : IA T x34 := by unfold IA; omega
    refine tn_getR (ci := 7) (i := 6) (n := 61) (x := x34) dX7_openCall_43 rfl lay_7 (by decide) fl7_18 ha rfl rfl (rc_F F33 (Or.inl (by decide)) (by decide) (rc_F F22 (Or.inl (by decide)) (by decide) (rc_o (by decide) (rc_o (by decide) (rc_o (by decide) (hx35)))))) ?_
    refine tn_iload_n dX7_openCall_46 rfl 1 rfl ?_
    refine tn_iconst dX7_openCall_47 ?_
    refine tn_callSN (M := m_X7_openCall) (pc := 48) (ix := 61) (M' := m_X11_put) (As := [.ref x34, .int (iI c), .int (iI 0)]) (rest := []) dX7_openCall_48 ok_X11_put stt_X11_put nl7_61 np_X11_put rfl (Nat.le_of_ble_eq_true rfl) (Nat.le_of_ble_eq_true rfl) rfl (k_X11_put (d + 1) (T := T) (σ := σ28) (x := x34) (i := c) (y := 0) hk36i (by omega) (by omega) (by decide) w32 (nh_k hk36 (by unfold HT; omega)) vok_0) (fun r38 T40 σ39 gt41 hp => ?_)
    obtain ⟨rfl, rfl, w43, F44⟩ := hp
    clear gt41
    show Tn _ _ 51 T σ39 [(0, .ref a), (1, .int (iI c)), (2, .int (iI r))] [] _
    refine tn_aload_n dX7_openCall_51 rfl 0 rfl ?_
    obtain ⟨x45, hx46, hk47, hl48⟩ : ∃ x : Nat, σ.2.1 62 a = (x : Int) ∧ AR T x 1 108 108 := wf_62 hw ha
    have hk47i : IA T x45 := by unfold IA; omega
    refine tn_getR (ci := 7) (i := 7) (n := 62) (x := x45) dX7_openCall_52 rfl lay_7 (by decide) fl7_21 ha rfl rfl (rc_F F44 (Or.inl (by decide)) (by decide) (rc_F F33 (Or.inl (by decide)) (by decide) (rc_F F22 (Or.inl (by decide)) (by decide) (rc_o (by decide) (rc_o (by decide) (rc_o (by decide) (hx46))))))) ?_
    refine tn_iload_n dX7_openCall_55 rfl 1 rfl ?_
    refine tn_bipush dX7_openCall_56 (by decide) ?_
    refine tn_imul dX7_openCall_58 ?_
    refine tn_iconst dX7_openCall_59 ?_
    refine tn_callSN (M := m_X7_openCall) (pc := 60) (ix := 61) (M' := m_X11_put) (As := [.ref x45, .int (iI (c * 12)), .int (iI 0)]) (rest := []) dX7_openCall_60 ok_X11_put stt_X11_put nl7_61 np_X11_put rfl (Nat.le_of_ble_eq_true rfl) (Nat.le_of_ble_eq_true rfl) rfl (k_X11_put (d + 1) (T := T) (σ := σ39) (x := x45) (i := c * 12) (y := 0) hk47i (by omega) (by omega) (by decide) w43 (nh_k hk47 (by unfold HT; omega)) vok_0) (fun r49 T51 σ50 gt52 hp => ?_)
    obtain ⟨rfl, rfl, w54, F55⟩ := hp
    clear gt52
    show Tn _ _ 63 T σ50 [(0, .ref a), (1, .int (iI c)), (2, .int (iI r))] [] _
    refine tn_iload_n dX7_openCall_63 rfl 1 rfl ?_
    refine tn_sipush dX7_openCall_64 (by decide) ?_
    refine tn_imul dX7_openCall_67 ?_
    refine tn_istore_n (L' := [(3, .int (iI (c * 192))), (0, .ref a), (1, .int (iI c)), (2, .int (iI r))]) dX7_openCall_68 rfl (by decide) rfl ?_
    refine tn_iload_n dX7_openCall_69 rfl 0 rfl ?_
    refine tn_if_lt (tgt := 100) dX7_openCall_70 (by decide) ⟨by omega, by omega⟩ (fun h56 => absurd h56 (by omega)) (fun h56 => ?_)
    refine tn_iload_n dX7_openCall_73 rfl 0 rfl ?_
    refine tn_sipush dX7_openCall_74 (by decide) ?_
    refine tn_iadd dX7_openCall_77 ?_
    refine tn_aload_n dX7_openCall_78 rfl 1 rfl ?_
    obtain ⟨x57, hx58, hk59, hl60⟩ : ∃ x : Nat, σ.2.1 63 a = (x : Int) ∧ AR T x 1 1728 1728 := wf_63 hw ha
    have hk59i : IA T x57 := by unfold IA; omega
    refine tn_getR (ci := 7) (i := 8) (n := 63) (x := x57) dX7_openCall_79 rfl lay_7 (by decide) fl7_24 ha rfl rfl (rc_F F55 (Or.inl (by decide)) (by decide) (rc_F F44 (Or.inl (by decide)) (by decide) (rc_F F33 (Or.inl (by decide)) (by decide) (rc_F F22 (Or.inl (by decide)) (by decide) (rc_o (by decide) (rc_o (by decide) (rc_o (by decide) (hx58)))))))) ?_
    refine tn_alenX dX7_openCall_82 (Or.inl hk59i) ?_
    refine tn_icmp_gt (tgt := 100) dX7_openCall_83 (by decide) ⟨by omega, by omega⟩ ⟨by omega, by omega⟩ (fun h61 => absurd h61 (by omega)) (fun h61 => ?_)
    refine tn_aload_n dX7_openCall_86 rfl 1 rfl ?_
    refine tn_getR (ci := 7) (i := 8) (n := 63) (x := x57) dX7_openCall_87 rfl lay_7 (by decide) fl7_24 ha rfl rfl (rc_F F55 (Or.inl (by decide)) (by decide) (rc_F F44 (Or.inl (by decide)) (by decide) (rc_F F33 (Or.inl (by decide)) (by decide) (rc_F F22 (Or.inl (by decide)) (by decide) (rc_o (by decide) (rc_o (by decide) (rc_o (by decide) (hx58)))))))) ?_
    refine tn_iload_n dX7_openCall_90 rfl 0 rfl ?_
    refine tn_iload_n dX7_openCall_91 rfl 0 rfl ?_
    refine tn_sipush dX7_openCall_92 (by decide) ?_
    refine tn_iadd dX7_openCall_95 ?_
    refine tn_iconst dX7_openCall_96 ?_
    refine tn_callS (M := m_X7_openCall) (pc := 97) (ix := 76) (M' := m_J7_fill_fda19) (As := [.ref x57, .int (iI (c * 192)), .int (iI ((c * 192) + 192)), .int (iI 0)]) (rest := []) dX7_openCall_97 ok_J7_fill_fda19 stt_J7_fill_fda19 ml7_76 np_J7_fill_fda19 rfl (Nat.le_of_ble_eq_true rfl) (Nat.le_of_ble_eq_true rfl) rfl (k_J7_fill_fda19 (d) (T := T) (σ := σ50) (x := x57) (f := c * 192) (t := (c * 192) + 192) (y := 0) hk59i (by omega) (by omega) (by omega) (by decide) w54 (nh_k hk59 (by unfold HT; omega)) (by omega) (by omega)) (fun r62 T64 σ63 gt65 hp => ?_)
    obtain ⟨rfl, rfl, w67, F68⟩ := hp
    clear gt65
    show Tn _ _ 100 T σ63 [(3, .int (iI (c * 192))), (0, .ref a), (1, .int (iI c)), (2, .int (iI r))] [] _
    have q69 : σ63.2.1 57 a = c := rc_F F68 (Or.inl (by decide)) (by decide) (rc_F F55 (Or.inl (by decide)) (by decide) (rc_F F44 (Or.inl (by decide)) (by decide) (rc_F F33 (Or.inl (by decide)) (by decide) (rc_F F22 (Or.inl (by decide)) (by decide) (rc_o (by decide) (rc_o (by decide) (ra_eq)))))))
    have q70 : σ63.2.1 58 a = (σ.2.1 58 a) + 1 := rc_F F68 (Or.inl (by decide)) (by decide) (rc_F F55 (Or.inl (by decide)) (by decide) (rc_F F44 (Or.inl (by decide)) (by decide) (rc_F F33 (Or.inl (by decide)) (by decide) (rc_F F22 (Or.inl (by decide)) (by decide) (rc_o (by decide) (ra_eq))))))
    exact tn_vret rfl dX7_openCall_100 ⟨rfl, rfl, w67, ((((((((FrC.rfl.put (by decide) (by decide)).put (by decide) (by decide)).put (by decide) (by decide)).trans (FrC.sub F22 (by decide))).trans (FrC.sub F33 (by decide))).trans (FrC.sub F44 (by decide))).trans (FrC.sub F55 (by decide))).trans (FrC.sub F68 (by decide))), by omega, by omega, ((((((((FA.rfl.put).put).put).trans (FA.of F22 (by decide))).trans (FA.of F33 (by decide))).trans (FA.of F44 (by decide))).trans (FA.of F55 (by decide))).trans (FA.of F68 (by decide)))⟩
  · show Tn _ _ 21 T (sA 58 a ((σ.2.1 58 a) + 1) (sA 57 a (c) σ)) [(0, .ref a), (1, .int (iI c)), (2, .int (iI r))] (vl true (x9 : Int) :: [.ref a]) _
    rw [vl_ref rfl]
    have hk10o : OB T x9 1 := hk10.1
    refine tn_putV (ci := 7) (i := 14) (n := 69) (r := true) (v := (x9 : Int)) tyX7 tyX7_ok nmX7 dX7_openCall_21 rfl lay_7 (by decide) fl7_72 rfl (tyX7_ok 14 (by decide)) (vl_ref rfl).symm rfl rfl ha rfl rfl ?_
    refine tn_aload_n dX7_openCall_24 rfl 0 rfl ?_
    obtain ⟨x71, hx72, hk73, hl74⟩ : ∃ x : Nat, σ.2.1 59 a = (x : Int) ∧ AR T x 15 9 9 := wf_59 hw ha
    have hk73i : IA T x71 := by unfold IA; omega
    refine tn_getR (ci := 7) (i := 4) (n := 59) (x := x71) dX7_openCall_25 rfl lay_7 (by decide) fl7_9 ha rfl rfl (rc_o (by decide) (rc_o (by decide) (rc_o (by decide) (hx72)))) ?_
    refine tn_iload_n dX7_openCall_28 rfl 1 rfl ?_
    refine tn_iload_n dX7_openCall_29 rfl 2 rfl ?_
    refine tn_callSN (M := m_X7_openCall) (pc := 30) (ix := 61) (M' := m_X11_put) (As := [.ref x71, .int (iI c), .int (iI r)]) (rest := []) dX7_openCall_30 ok_X11_put stt_X11_put nl7_61 np_X11_put rfl (Nat.le_of_ble_eq_true rfl) (Nat.le_of_ble_eq_true rfl) rfl (k_X11_put_15 (d + 1) (T := T) (σ := (sA 69 a ((x9 : Int)) (sA 58 a ((σ.2.1 58 a) + 1) (sA 57 a (c) σ)))) (x := x71) (i := c) (y := r) hk73i (by omega) hk73 (by omega) (by omega) (((hw.put (by decide) (by decide) (fo_57 ⟨by omega, by omega⟩)).put (by decide) (by decide) (fo_58 (by omega))).put (by decide) (by decide) (fo_69 (Or.inr ⟨_, rfl, hk10.2.1, hk10.2.2⟩))) ) (fun r75 T77 σ76 gt78 hp => ?_)
    obtain ⟨rfl, rfl, w81, F82, f79⟩ := hp
    clear gt78
    show Tn _ _ 33 T σ76 [(0, .ref a), (1, .int (iI c)), (2, .int (iI r))] [] _
    refine tn_aload_n dX7_openCall_33 rfl 0 rfl ?_
    obtain ⟨x83, hx84, hk85, hl86⟩ : ∃ x : Nat, σ.2.1 60 a = (x : Int) ∧ AR T x 1 9 9 := wf_60 hw ha
    have hk85i : IA T x83 := by unfold IA; omega
    refine tn_getR (ci := 7) (i := 5) (n := 60) (x := x83) dX7_openCall_34 rfl lay_7 (by decide) fl7_15 ha rfl rfl (rc_F F82 (Or.inl (by decide)) (by decide) (rc_o (by decide) (rc_o (by decide) (rc_o (by decide) (hx84))))) ?_
    refine tn_iload_n dX7_openCall_37 rfl 1 rfl ?_
    refine tn_iconst dX7_openCall_38 ?_
    refine tn_callSN (M := m_X7_openCall) (pc := 39) (ix := 61) (M' := m_X11_put) (As := [.ref x83, .int (iI c), .int (iI 0)]) (rest := []) dX7_openCall_39 ok_X11_put stt_X11_put nl7_61 np_X11_put rfl (Nat.le_of_ble_eq_true rfl) (Nat.le_of_ble_eq_true rfl) rfl (k_X11_put (d + 1) (T := T) (σ := σ76) (x := x83) (i := c) (y := 0) hk85i (by omega) (by omega) (by decide) w81 (nh_k hk85 (by unfold HT; omega)) vok_0) (fun r87 T89 σ88 gt90 hp => ?_)
    obtain ⟨rfl, rfl, w92, F93⟩ := hp
    clear gt90
    show Tn _ _ 42 T σ88 [(0, .ref a), (1, .int (iI c)), (2, .int (iI r))] [] _
    refine tn_aload_n dX7_openCall_42 rfl 0 rfl ?_
    obtain ⟨x94, hx95, hl97, hk96a, hk96b⟩ := wf_61 hw ha
    have hk96 : (T x94).1 = 14 := hk96a (by omega)
    clear hk96a hk96b
    have hk96i : IA T x94 := by unfold IA; omega
    refine tn_getR (ci := 7) (i := 6) (n := 61) (x := x94) dX7_openCall_43 rfl lay_7 (by decide) fl7_18 ha rfl rfl (rc_F F93 (Or.inl (by decide)) (by decide) (rc_F F82 (Or.inl (by decide)) (by decide) (rc_o (by decide) (rc_o (by decide) (rc_o (by decide) (hx95)))))) ?_
    refine tn_iload_n dX7_openCall_46 rfl 1 rfl ?_
    refine tn_iconst dX7_openCall_47 ?_
    refine tn_callSN (M := m_X7_openCall) (pc := 48) (ix := 61) (M' := m_X11_put) (As := [.ref x94, .int (iI c), .int (iI 0)]) (rest := []) dX7_openCall_48 ok_X11_put stt_X11_put nl7_61 np_X11_put rfl (Nat.le_of_ble_eq_true rfl) (Nat.le_of_ble_eq_true rfl) rfl (k_X11_put (d + 1) (T := T) (σ := σ88) (x := x94) (i := c) (y := 0) hk96i (by omega) (by omega) (by decide) w92 (nh_k hk96 (by unfold HT; omega)) vok_0) (fun r98 T100 σ99 gt101 hp => ?_)
    obtain ⟨rfl, rfl, w103, F104⟩ := hp
    clear gt101
    show Tn _ _ 51 T σ99 [(0, .ref a), (1, .int (iI c)), (2, .int (iI r))] [] _
    refine tn_aload_n dX7_openCall_51 rfl 0 rfl ?_
    obtain ⟨x105, hx106, hk107, hl108⟩ : ∃ x : Nat, σ.2.1 62 a = (x : Int) ∧ AR T x 1 108 108 := wf_62 hw ha
    have hk107i : IA T x105 := by unfold IA; omega
    refine tn_getR (ci := 7) (i := 7) (n := 62) (x := x105) dX7_openCall_52 rfl lay_7 (by decide) fl7_21 ha rfl rfl (rc_F F104 (Or.inl (by decide)) (by decide) (rc_F F93 (Or.inl (by decide)) (by decide) (rc_F F82 (Or.inl (by decide)) (by decide) (rc_o (by decide) (rc_o (by decide) (rc_o (by decide) (hx106))))))) ?_
    refine tn_iload_n dX7_openCall_55 rfl 1 rfl ?_
    refine tn_bipush dX7_openCall_56 (by decide) ?_
    refine tn_imul dX7_openCall_58 ?_
    refine tn_iconst dX7_openCall_59 ?_
    refine tn_callSN (M := m_X7_openCall) (pc := 60) (ix := 61) (M' := m_X11_put) (As := [.ref x105, .int (iI (c * 12)), .int (iI 0)]) (rest := []) dX7_openCall_60 ok_X11_put stt_X11_put nl7_61 np_X11_put rfl (Nat.le_of_ble_eq_true rfl) (Nat.le_of_ble_eq_true rfl) rfl (k_X11_put (d + 1) (T := T) (σ := σ99) (x := x105) (i := c * 12) (y := 0) hk107i (by omega) (by omega) (by decide) w103 (nh_k hk107 (by unfold HT; omega)) vok_0) (fun r109 T111 σ110 gt112 hp => ?_)
    obtain ⟨rfl, rfl, w114, F115⟩ := hp
    clear gt112
    show Tn _ _ 63 T σ110 [(0, .ref a), (1, .int (iI c)), (2, .int (iI r))] [] _
    refine tn_iload_n dX7_openCall_63 rfl 1 rfl ?_
    refine tn_sipush dX7_openCall_64 (by decide) ?_
    refine tn_imul dX7_openCall_67 ?_
    refine tn_istore_n (L' := [(3, .int (iI (c * 192))), (0, .ref a), (1, .int (iI c)), (2, .int (iI r))]) dX7_openCall_68 rfl (by decide) rfl ?_
    refine tn_iload_n dX7_openCall_69 rfl 0 rfl ?_
    refine tn_if_lt (tgt := 100) dX7_openCall_70 (by decide) ⟨by omega, by omega⟩ (fun h116 => absurd h116 (by omega)) (fun h116 => ?_)
    refine tn_iload_n dX7_openCall_73 rfl 0 rfl ?_
    refine tn_sipush dX7_openCall_74 (by decide) ?_
    refine tn_iadd dX7_openCall_77 ?_
    refine tn_aload_n dX7_openCall_78 rfl 1 rfl ?_
    obtain ⟨x117, hx118, hk119, hl120⟩ : ∃ x : Nat, σ.2.1 63 a = (x : Int) ∧ AR T x 1 1728 1728 := wf_63 hw ha
    have hk119i : IA T x117 := by unfold IA; omega
    refine tn_getR (ci := 7) (i := 8) (n := 63) (x := x117) dX7_openCall_79 rfl lay_7 (by decide) fl7_24 ha rfl rfl (rc_F F115 (Or.inl (by decide)) (by decide) (rc_F F104 (Or.inl (by decide)) (by decide) (rc_F F93 (Or.inl (by decide)) (by decide) (rc_F F82 (Or.inl (by decide)) (by decide) (rc_o (by decide) (rc_o (by decide) (rc_o (by decide) (hx118)))))))) ?_
    refine tn_alenX dX7_openCall_82 (Or.inl hk119i) ?_
    refine tn_icmp_gt (tgt := 100) dX7_openCall_83 (by decide) ⟨by omega, by omega⟩ ⟨by omega, by omega⟩ (fun h121 => absurd h121 (by omega)) (fun h121 => ?_)
    refine tn_aload_n dX7_openCall_86 rfl 1 rfl ?_
    refine tn_getR (ci := 7) (i := 8) (n := 63) (x := x117) dX7_openCall_87 rfl lay_7 (by decide) fl7_24 ha rfl rfl (rc_F F115 (Or.inl (by decide)) (by decide) (rc_F F104 (Or.inl (by decide)) (by decide) (rc_F F93 (Or.inl (by decide)) (by decide) (rc_F F82 (Or.inl (by decide)) (by decide) (rc_o (by decide) (rc_o (by decide) (rc_o (by decide) (hx118)))))))) ?_
    refine tn_iload_n dX7_openCall_90 rfl 0 rfl ?_
    refine tn_iload_n dX7_openCall_91 rfl 0 rfl ?_
    refine tn_sipush dX7_openCall_92 (by decide) ?_
    refine tn_iadd dX7_openCall_95 ?_
    refine tn_iconst dX7_openCall_96 ?_
    refine tn_callS (M := m_X7_openCall) (pc := 97) (ix := 76) (M' := m_J7_fill_fda19) (As := [.ref x117, .int (iI (c * 192)), .int (iI ((c * 192) + 192)), .int (iI 0)]) (rest := []) dX7_openCall_97 ok_J7_fill_fda19 stt_J7_fill_fda19 ml7_76 np_J7_fill_fda19 rfl (Nat.le_of_ble_eq_true rfl) (Nat.le_of_ble_eq_true rfl) rfl (k_J7_fill_fda19 (d) (T := T) (σ := σ110) (x := x117) (f := c * 192) (t := (c * 192) + 192) (y := 0) hk119i (by omega) (by omega) (by omega) (by decide) w114 (nh_k hk119 (by unfold HT; omega)) (by omega) (by omega)) (fun r122 T124 σ123 gt125 hp => ?_)
    obtain ⟨rfl, rfl, w127, F128⟩ := hp
    clear gt125
    show Tn _ _ 100 T σ123 [(3, .int (iI (c * 192))), (0, .ref a), (1, .int (iI c)), (2, .int (iI r))] [] _
    have q129 : σ123.2.1 57 a = c := rc_F F128 (Or.inl (by decide)) (by decide) (rc_F F115 (Or.inl (by decide)) (by decide) (rc_F F104 (Or.inl (by decide)) (by decide) (rc_F F93 (Or.inl (by decide)) (by decide) (rc_F F82 (Or.inl (by decide)) (by decide) (rc_o (by decide) (rc_o (by decide) (ra_eq)))))))
    have q130 : σ123.2.1 58 a = (σ.2.1 58 a) + 1 := rc_F F128 (Or.inl (by decide)) (by decide) (rc_F F115 (Or.inl (by decide)) (by decide) (rc_F F104 (Or.inl (by decide)) (by decide) (rc_F F93 (Or.inl (by decide)) (by decide) (rc_F F82 (Or.inl (by decide)) (by decide) (rc_o (by decide) (ra_eq))))))
    exact tn_vret rfl dX7_openCall_100 ⟨rfl, rfl, w127, ((((((((FrC.rfl.put (by decide) (by decide)).put (by decide) (by decide)).put (by decide) (by decide)).trans (FrC.sub F82 (by decide))).trans (FrC.sub F93 (by decide))).trans (FrC.sub F104 (by decide))).trans (FrC.sub F115 (by decide))).trans (FrC.sub F128 (by decide))), by omega, by omega, ((((((((FA.rfl.put).put).put).trans (FA.of F82 (by decide))).trans (FA.of F93 (by decide))).trans (FA.of F104 (by decide))).trans (FA.of F115 (by decide))).trans (FA.of F128 (by decide)))⟩
end
section
theorem cd_X7_begin : Cond.code yX7_begin cX7_begin 6 none ∈ pWW := pw6 (List.mem_of_getElem? (i := 32) rfl) rfl
abbrev m_X7_begin : MT := (yX7_begin, cX7_begin, 6, none)
theorem ok_X7_begin : pOk m_X7_begin := ⟨⟨cd_X7_begin, ini_7⟩, by decide +kernel, ⟨by decide +kernel, by decide +kernel⟩, Nat.le_of_ble_eq_true rfl⟩
theorem np_X7_begin : (parseMethodDescriptor yX7_begin.desc).map (fun d => d.parameters.length) = some 5 := by decide +kernel
theorem im_X7_begin : Cond.instanceMethod yX7_begin ∈ pWW := pw6 (List.mem_of_getElem? (i := 30) rfl) rfl
theorem se_X7_begin : Cond.selects RX7 yX7_begin yX7_begin ∈ pWW := pw6 (List.mem_of_getElem? (i := 31) rfl) rfl
theorem fl7_47 : Cond.fieldLink RX7 47 (TX7 12).1 (TX7 12).2.1 (TX7 12).2.2.1 ∈ pWW := pw2 (List.mem_of_getElem? (i := 153) rfl) rfl
theorem fl7_50 : Cond.fieldLink RX7 50 (TX7 13).1 (TX7 13).2.1 (TX7 13).2.2.1 ∈ pWW := pw2 (List.mem_of_getElem? (i := 156) rfl) rfl
theorem ml7_53 : Cond.methodLink RX7 53 yX7_openCall ∈ pWW := pw6 (List.mem_of_getElem? (i := 33) rfl) rfl
theorem ml7_57 : Cond.methodLink RX7 57 yX7_homeOfParam ∈ pWW := pw6 (List.mem_of_getElem? (i := 43) rfl) rfl
theorem dX7_begin_0 : decode cX7_begin 0 = .ok (.aload_n 0, 1) := by decide +kernel
theorem dX7_begin_1 : decode cX7_begin 1 = .ok (.iconst 1, 1) := by decide +kernel
theorem dX7_begin_2 : decode cX7_begin 2 = .ok (.putfield 34, 3) := by decide +kernel
theorem dX7_begin_5 : decode cX7_begin 5 = .ok (.aload_n 0, 1) := by decide +kernel
theorem dX7_begin_6 : decode cX7_begin 6 = .ok (.iconst 0, 1) := by decide +kernel
theorem dX7_begin_7 : decode cX7_begin 7 = .ok (.putfield 38, 3) := by decide +kernel
theorem dX7_begin_10 : decode cX7_begin 10 = .ok (.aload_n 0, 1) := by decide +kernel
theorem dX7_begin_11 : decode cX7_begin 11 = .ok (.iconst 0, 1) := by decide +kernel
theorem dX7_begin_12 : decode cX7_begin 12 = .ok (.putfield 41, 3) := by decide +kernel
theorem dX7_begin_15 : decode cX7_begin 15 = .ok (.aload_n 0, 1) := by decide +kernel
theorem dX7_begin_16 : decode cX7_begin 16 = .ok (.iconst 0, 1) := by decide +kernel
theorem dX7_begin_17 : decode cX7_begin 17 = .ok (.putfield 44, 3) := by decide +kernel
theorem dX7_begin_20 : decode cX7_begin 20 = .ok (.aload_n 0, 1) := by decide +kernel
theorem dX7_begin_21 : decode cX7_begin 21 = .ok (.iconst 0, 1) := by decide +kernel
theorem dX7_begin_22 : decode cX7_begin 22 = .ok (.putfield 47, 3) := by decide +kernel
theorem dX7_begin_25 : decode cX7_begin 25 = .ok (.aload_n 0, 1) := by decide +kernel
theorem dX7_begin_26 : decode cX7_begin 26 = .ok (.iconst 0, 1) := by decide +kernel
theorem dX7_begin_27 : decode cX7_begin 27 = .ok (.putfield 50, 3) := by decide +kernel
theorem dX7_begin_30 : decode cX7_begin 30 = .ok (.aload_n 0, 1) := by decide +kernel
theorem dX7_begin_31 : decode cX7_begin 31 = .ok (.iconst 0, 1) := by decide +kernel
theorem dX7_begin_32 : decode cX7_begin 32 = .ok (.iload_n 1, 1) := by decide +kernel
theorem dX7_begin_33 : decode cX7_begin 33 = .ok (.invokevirtual 53, 3) := by decide +kernel
theorem dX7_begin_36 : decode cX7_begin 36 = .ok (.aload_n 0, 1) := by decide +kernel
theorem dX7_begin_37 : decode cX7_begin 37 = .ok (.getfield 24, 3) := by decide +kernel
theorem dX7_begin_40 : decode cX7_begin 40 = .ok (.aload_n 0, 1) := by decide +kernel
theorem dX7_begin_41 : decode cX7_begin 41 = .ok (.iconst 0, 1) := by decide +kernel
theorem dX7_begin_42 : decode cX7_begin 42 = .ok (.invokevirtual 57, 3) := by decide +kernel
theorem dX7_begin_45 : decode cX7_begin 45 = .ok (.iload_n 2, 1) := by decide +kernel
theorem dX7_begin_46 : decode cX7_begin 46 = .ok (.invokestatic 61, 3) := by decide +kernel
theorem dX7_begin_49 : decode cX7_begin 49 = .ok (.aload_n 0, 1) := by decide +kernel
theorem dX7_begin_50 : decode cX7_begin 50 = .ok (.getfield 24, 3) := by decide +kernel
theorem dX7_begin_53 : decode cX7_begin 53 = .ok (.aload_n 0, 1) := by decide +kernel
theorem dX7_begin_54 : decode cX7_begin 54 = .ok (.iconst 1, 1) := by decide +kernel
theorem dX7_begin_55 : decode cX7_begin 55 = .ok (.invokevirtual 57, 3) := by decide +kernel
theorem dX7_begin_58 : decode cX7_begin 58 = .ok (.iload_n 3, 1) := by decide +kernel
theorem dX7_begin_59 : decode cX7_begin 59 = .ok (.invokestatic 61, 3) := by decide +kernel
theorem dX7_begin_62 : decode cX7_begin 62 = .ok (.aload_n 0, 1) := by decide +kernel
theorem dX7_begin_63 : decode cX7_begin 63 = .ok (.getfield 24, 3) := by decide +kernel
theorem dX7_begin_66 : decode cX7_begin 66 = .ok (.aload_n 0, 1) := by decide +kernel
theorem dX7_begin_67 : decode cX7_begin 67 = .ok (.iconst 2, 1) := by decide +kernel
theorem dX7_begin_68 : decode cX7_begin 68 = .ok (.invokevirtual 57, 3) := by decide +kernel
theorem dX7_begin_71 : decode cX7_begin 71 = .ok (.iload 4, 2) := by decide +kernel
theorem dX7_begin_73 : decode cX7_begin 73 = .ok (.invokestatic 61, 3) := by decide +kernel
theorem dX7_begin_76 : decode cX7_begin 76 = .ok (.aload_n 0, 1) := by decide +kernel
theorem dX7_begin_77 : decode cX7_begin 77 = .ok (.getfield 24, 3) := by decide +kernel
theorem dX7_begin_80 : decode cX7_begin 80 = .ok (.aload_n 0, 1) := by decide +kernel
theorem dX7_begin_81 : decode cX7_begin 81 = .ok (.iconst 3, 1) := by decide +kernel
theorem dX7_begin_82 : decode cX7_begin 82 = .ok (.invokevirtual 57, 3) := by decide +kernel
theorem dX7_begin_85 : decode cX7_begin 85 = .ok (.iload 5, 2) := by decide +kernel
theorem dX7_begin_87 : decode cX7_begin 87 = .ok (.invokestatic 61, 3) := by decide +kernel
theorem dX7_begin_90 : decode cX7_begin 90 = .ok (.return_, 1) := by decide +kernel
set_option maxRecDepth 20000 in
theorem k_X7_begin (d : Nat) {T : CT} {σ : MS} {a : Nat} {p1 : Int} {p2 : Int} {p3 : Int} {p4 : Int} {p5 : Int} (ha : OB T a 7) (hta : (T a).1 = 37) (h_p1 : -2147483648 ≤ p1 ∧ p1 ≤ 2147483647) (h_p2 : -2147483648 ≤ p2 ∧ p2 ≤ 2147483647) (h_p3 : -2147483648 ≤ p3 ∧ p3 ≤ 2147483647) (h_p4 : -2147483648 ≤ p4 ∧ p4 ≤ 2147483647) (h_p5 : -2147483648 ≤ p5 ∧ p5 ≤ 2147483647) (hw : WT T σ) : Tn (d + 4) m_X7_begin 0 T σ [(0, .ref a), (1, .int (iI p1)), (2, .int (iI p2)), (3, .int (iI p3)), (4, .int (iI p4)), (5, .int (iI p5))] [] (fun ro T2 σ2 => ro = none ∧ T = T2 ∧ WT T2 σ2 ∧ FrC T [56, 57, 58, 65, 66, 67, 68, 69, 515] σ σ2 ∧ (σ2.2.1 57 a = 0) ∧ (FA a σ σ2)) := by
  refine tn_aload_n dX7_begin_0 rfl 0 rfl ?_
  refine tn_iconst dX7_begin_1 ?_
  refine tn_putV (ci := 7) (i := 1) (n := 56) (r := false) (v := 1) tyX7 tyX7_ok nmX7 dX7_begin_2 rfl lay_7 (by decide) fl7_34 rfl (tyX7_ok 1 (by decide)) rfl rfl rfl ha rfl rfl ?_
  refine tn_aload_n dX7_begin_5 rfl 0 rfl ?_
  refine tn_iconst dX7_begin_6 ?_
  refine tn_putV (ci := 7) (i := 3) (n := 58) (r := false) (v := 0) tyX7 tyX7_ok nmX7 dX7_begin_7 rfl lay_7 (by decide) fl7_38 rfl (tyX7_ok 3 (by decide)) rfl rfl rfl ha rfl rfl ?_
  refine tn_aload_n dX7_begin_10 rfl 0 rfl ?_
  refine tn_iconst dX7_begin_11 ?_
  refine tn_putV (ci := 7) (i := 10) (n := 65) (r := false) (v := 0) tyX7 tyX7_ok nmX7 dX7_begin_12 rfl lay_7 (by decide) fl7_41 rfl (tyX7_ok 10 (by decide)) rfl rfl rfl ha rfl rfl ?_
  refine tn_aload_n dX7_begin_15 rfl 0 rfl ?_
  refine tn_iconst dX7_begin_16 ?_
  refine tn_putV (ci := 7) (i := 11) (n := 66) (r := false) (v := 0) tyX7 tyX7_ok nmX7 dX7_begin_17 rfl lay_7 (by decide) fl7_44 rfl (tyX7_ok 11 (by decide)) rfl rfl rfl ha rfl rfl ?_
  refine tn_aload_n dX7_begin_20 rfl 0 rfl ?_
  refine tn_iconst dX7_begin_21 ?_
  refine tn_putV (ci := 7) (i := 12) (n := 67) (r := false) (v := 0) tyX7 tyX7_ok nmX7 dX7_begin_22 rfl lay_7 (by decide) fl7_47 rfl (tyX7_ok 12 (by decide)) rfl rfl rfl ha rfl rfl ?_
  refine tn_aload_n dX7_begin_25 rfl 0 rfl ?_
  refine tn_iconst dX7_begin_26 ?_
  refine tn_putV (ci := 7) (i := 13) (n := 68) (r := false) (v := 0) tyX7 tyX7_ok nmX7 dX7_begin_27 rfl lay_7 (by decide) fl7_50 rfl (tyX7_ok 13 (by decide)) rfl rfl rfl ha rfl rfl ?_
  refine tn_aload_n dX7_begin_30 rfl 0 rfl ?_
  refine tn_iconst dX7_begin_31 ?_
  refine tn_iload_n dX7_begin_32 rfl 1 rfl ?_
  refine tn_callV (M := m_X7_begin) (pc := 33) (ix := 53) (ci := 7) (M' := m_X7_openCall) (As := [.int (iI 0), .int (iI p1)]) (rest := []) dX7_begin_33 ok_X7_openCall im_X7_openCall se_X7_openCall ml7_53 np_X7_openCall rfl rfl ha rfl (Nat.le_of_ble_eq_true rfl) (Nat.le_of_ble_eq_true rfl) rfl (k_X7_openCall (d) (T := T) (σ := (sA 68 a (0) (sA 67 a (0) (sA 66 a (0) (sA 65 a (0) (sA 58 a (0) (sA 56 a (1) σ))))))) (a := a) (c := 0) (r := p1) ha hta (by decide) (by omega) ((((((hw.put (by decide) (by decide) (fo_56 (by omega))).put (by decide) (by decide) (fo_58 (by omega))).put (by decide) (by decide) (fo_65 (by omega))).put (by decide) (by decide) (fo_66 (by omega))).put (by decide) (by decide) (fo_67 (by omega))).put (by decide) (by decide) (fo_68 (by omega))) (by omega)) (fun r1 T3 σ2 gt4 hp => ?_)
  obtain ⟨rfl, rfl, w8, F9, f5, f6⟩ := hp
  clear gt4
  show Tn _ _ 36 T σ2 [(0, .ref a), (1, .int (iI p1)), (2, .int (iI p2)), (3, .int (iI p3)), (4, .int (iI p4)), (5, .int (iI p5))] [] _
  refine tn_aload_n dX7_begin_36 rfl 0 rfl ?_
  obtain ⟨x10, hx11, hk12, hl13⟩ : ∃ x : Nat, σ.2.1 63 a = (x : Int) ∧ AR T x 1 1728 1728 := wf_63 hw ha
  have hk12i : IA T x10 := by unfold IA; omega
  refine tn_getR (ci := 7) (i := 8) (n := 63) (x := x10) dX7_begin_37 rfl lay_7 (by decide) fl7_24 ha rfl rfl (rc_F F9 (Or.inl (by decide)) (by decide) (rc_o (by decide) (rc_o (by decide) (rc_o (by decide) (rc_o (by decide) (rc_o (by decide) (rc_o (by decide) (hx11)))))))) ?_
  refine tn_aload_n dX7_begin_40 rfl 0 rfl ?_
  refine tn_iconst dX7_begin_41 ?_
  refine tn_callV (M := m_X7_begin) (pc := 42) (ix := 57) (ci := 7) (M' := m_X7_homeOfParam) (As := [.int (iI 0)]) (rest := [.ref x10]) dX7_begin_42 ok_X7_homeOfParam im_X7_homeOfParam se_X7_homeOfParam ml7_57 np_X7_homeOfParam rfl rfl ha rfl (Nat.le_of_ble_eq_true rfl) (Nat.le_of_ble_eq_true rfl) rfl (k_X7_homeOfParam (d) (T := T) (σ := σ2) (a := a) (p1 := 0) ha (by decide) w8 ) (fun r14 T16 σ15 gt17 hp => ?_)
  obtain ⟨v19, rfl, rfl, rfl, f18⟩ := hp
  clear gt17
  show Tn _ _ 45 T σ2 [(0, .ref a), (1, .int (iI p1)), (2, .int (iI p2)), (3, .int (iI p3)), (4, .int (iI p4)), (5, .int (iI p5))] [.int (iI v19), .ref x10] _
  refine tn_iload_n dX7_begin_45 rfl 2 rfl ?_
  refine tn_callSN (M := m_X7_begin) (pc := 46) (ix := 61) (M' := m_X11_put) (As := [.ref x10, .int (iI v19), .int (iI p2)]) (rest := []) dX7_begin_46 ok_X11_put stt_X11_put nl7_61 np_X11_put rfl (Nat.le_of_ble_eq_true rfl) (Nat.le_of_ble_eq_true rfl) rfl (k_X11_put (d + 2) (T := T) (σ := σ2) (x := x10) (i := v19) (y := p2) hk12i (by omega) (by omega) (by omega) w8 (nh_k hk12 (by unfold HT; omega)) (vok_1 (by have q9 := hk12; omega) (by omega))) (fun r20 T22 σ21 gt23 hp => ?_)
  obtain ⟨rfl, rfl, w25, F26⟩ := hp
  clear gt23
  show Tn _ _ 49 T σ21 [(0, .ref a), (1, .int (iI p1)), (2, .int (iI p2)), (3, .int (iI p3)), (4, .int (iI p4)), (5, .int (iI p5))] [] _
  refine tn_aload_n dX7_begin_49 rfl 0 rfl ?_
  refine tn_getR (ci := 7) (i := 8) (n := 63) (x := x10) dX7_begin_50 rfl lay_7 (by decide) fl7_24 ha rfl rfl (rc_F F26 (Or.inl (by decide)) (by decide) (rc_F F9 (Or.inl (by decide)) (by decide) (rc_o (by decide) (rc_o (by decide) (rc_o (by decide) (rc_o (by decide) (rc_o (by decide) (rc_o (by decide) (hx11))))))))) ?_
  refine tn_aload_n dX7_begin_53 rfl 0 rfl ?_
  refine tn_iconst dX7_begin_54 ?_
  refine tn_callV (M := m_X7_begin) (pc := 55) (ix := 57) (ci := 7) (M' := m_X7_homeOfParam) (As := [.int (iI 1)]) (rest := [.ref x10]) dX7_begin_55 ok_X7_homeOfParam im_X7_homeOfParam se_X7_homeOfParam ml7_57 np_X7_homeOfParam rfl rfl ha rfl (Nat.le_of_ble_eq_true rfl) (Nat.le_of_ble_eq_true rfl) rfl (k_X7_homeOfParam (d) (T := T) (σ := σ21) (a := a) (p1 := 1) ha (by decide) w25 ) (fun r27 T29 σ28 gt30 hp => ?_)
  obtain ⟨v32, rfl, rfl, rfl, f31⟩ := hp
  clear gt30
  show Tn _ _ 58 T σ21 [(0, .ref a), (1, .int (iI p1)), (2, .int (iI p2)), (3, .int (iI p3)), (4, .int (iI p4)), (5, .int (iI p5))] [.int (iI v32), .ref x10] _
  refine tn_iload_n dX7_begin_58 rfl 3 rfl ?_
  refine tn_callSN (M := m_X7_begin) (pc := 59) (ix := 61) (M' := m_X11_put) (As := [.ref x10, .int (iI v32), .int (iI p3)]) (rest := []) dX7_begin_59 ok_X11_put stt_X11_put nl7_61 np_X11_put rfl (Nat.le_of_ble_eq_true rfl) (Nat.le_of_ble_eq_true rfl) rfl (k_X11_put (d + 2) (T := T) (σ := σ21) (x := x10) (i := v32) (y := p3) hk12i (by omega) (by omega) (by omega) w25 (nh_k hk12 (by unfold HT; omega)) (vok_1 (by have q9 := hk12; omega) (by omega))) (fun r33 T35 σ34 gt36 hp => ?_)
  obtain ⟨rfl, rfl, w38, F39⟩ := hp
  clear gt36
  show Tn _ _ 62 T σ34 [(0, .ref a), (1, .int (iI p1)), (2, .int (iI p2)), (3, .int (iI p3)), (4, .int (iI p4)), (5, .int (iI p5))] [] _
  refine tn_aload_n dX7_begin_62 rfl 0 rfl ?_
  refine tn_getR (ci := 7) (i := 8) (n := 63) (x := x10) dX7_begin_63 rfl lay_7 (by decide) fl7_24 ha rfl rfl (rc_F F39 (Or.inl (by decide)) (by decide) (rc_F F26 (Or.inl (by decide)) (by decide) (rc_F F9 (Or.inl (by decide)) (by decide) (rc_o (by decide) (rc_o (by decide) (rc_o (by decide) (rc_o (by decide) (rc_o (by decide) (rc_o (by decide) (hx11)))))))))) ?_
  refine tn_aload_n dX7_begin_66 rfl 0 rfl ?_
  refine tn_iconst dX7_begin_67 ?_
  refine tn_callV (M := m_X7_begin) (pc := 68) (ix := 57) (ci := 7) (M' := m_X7_homeOfParam) (As := [.int (iI 2)]) (rest := [.ref x10]) dX7_begin_68 ok_X7_homeOfParam im_X7_homeOfParam se_X7_homeOfParam ml7_57 np_X7_homeOfParam rfl rfl ha rfl (Nat.le_of_ble_eq_true rfl) (Nat.le_of_ble_eq_true rfl) rfl (k_X7_homeOfParam (d) (T := T) (σ := σ34) (a := a) (p1 := 2) ha (by decide) w38 ) (fun r40 T42 σ41 gt43 hp => ?_)
  obtain ⟨v45, rfl, rfl, rfl, f44⟩ := hp
  clear gt43
  show Tn _ _ 71 T σ34 [(0, .ref a), (1, .int (iI p1)), (2, .int (iI p2)), (3, .int (iI p3)), (4, .int (iI p4)), (5, .int (iI p5))] [.int (iI v45), .ref x10] _
  refine tn_iload dX7_begin_71 4 rfl ?_
  refine tn_callSN (M := m_X7_begin) (pc := 73) (ix := 61) (M' := m_X11_put) (As := [.ref x10, .int (iI v45), .int (iI p4)]) (rest := []) dX7_begin_73 ok_X11_put stt_X11_put nl7_61 np_X11_put rfl (Nat.le_of_ble_eq_true rfl) (Nat.le_of_ble_eq_true rfl) rfl (k_X11_put (d + 2) (T := T) (σ := σ34) (x := x10) (i := v45) (y := p4) hk12i (by omega) (by omega) (by omega) w38 (nh_k hk12 (by unfold HT; omega)) (vok_1 (by have q9 := hk12; omega) (by omega))) (fun r46 T48 σ47 gt49 hp => ?_)
  obtain ⟨rfl, rfl, w51, F52⟩ := hp
  clear gt49
  show Tn _ _ 76 T σ47 [(0, .ref a), (1, .int (iI p1)), (2, .int (iI p2)), (3, .int (iI p3)), (4, .int (iI p4)), (5, .int (iI p5))] [] _
  refine tn_aload_n dX7_begin_76 rfl 0 rfl ?_
  refine tn_getR (ci := 7) (i := 8) (n := 63) (x := x10) dX7_begin_77 rfl lay_7 (by decide) fl7_24 ha rfl rfl (rc_F F52 (Or.inl (by decide)) (by decide) (rc_F F39 (Or.inl (by decide)) (by decide) (rc_F F26 (Or.inl (by decide)) (by decide) (rc_F F9 (Or.inl (by decide)) (by decide) (rc_o (by decide) (rc_o (by decide) (rc_o (by decide) (rc_o (by decide) (rc_o (by decide) (rc_o (by decide) (hx11))))))))))) ?_
  refine tn_aload_n dX7_begin_80 rfl 0 rfl ?_
  refine tn_iconst dX7_begin_81 ?_
  refine tn_callV (M := m_X7_begin) (pc := 82) (ix := 57) (ci := 7) (M' := m_X7_homeOfParam) (As := [.int (iI 3)]) (rest := [.ref x10]) dX7_begin_82 ok_X7_homeOfParam im_X7_homeOfParam se_X7_homeOfParam ml7_57 np_X7_homeOfParam rfl rfl ha rfl (Nat.le_of_ble_eq_true rfl) (Nat.le_of_ble_eq_true rfl) rfl (k_X7_homeOfParam (d) (T := T) (σ := σ47) (a := a) (p1 := 3) ha (by decide) w51 ) (fun r53 T55 σ54 gt56 hp => ?_)
  obtain ⟨v58, rfl, rfl, rfl, f57⟩ := hp
  clear gt56
  show Tn _ _ 85 T σ47 [(0, .ref a), (1, .int (iI p1)), (2, .int (iI p2)), (3, .int (iI p3)), (4, .int (iI p4)), (5, .int (iI p5))] [.int (iI v58), .ref x10] _
  refine tn_iload dX7_begin_85 5 rfl ?_
  refine tn_callSN (M := m_X7_begin) (pc := 87) (ix := 61) (M' := m_X11_put) (As := [.ref x10, .int (iI v58), .int (iI p5)]) (rest := []) dX7_begin_87 ok_X11_put stt_X11_put nl7_61 np_X11_put rfl (Nat.le_of_ble_eq_true rfl) (Nat.le_of_ble_eq_true rfl) rfl (k_X11_put (d + 2) (T := T) (σ := σ47) (x := x10) (i := v58) (y := p5) hk12i (by omega) (by omega) (by omega) w51 (nh_k hk12 (by unfold HT; omega)) (vok_1 (by have q9 := hk12; omega) (by omega))) (fun r59 T61 σ60 gt62 hp => ?_)
  obtain ⟨rfl, rfl, w64, F65⟩ := hp
  clear gt62
  show Tn _ _ 90 T σ60 [(0, .ref a), (1, .int (iI p1)), (2, .int (iI p2)), (3, .int (iI p3)), (4, .int (iI p4)), (5, .int (iI p5))] [] _
  have q66 : σ60.2.1 57 a = σ2.2.1 57 a := rc_F F65 (Or.inl (by decide)) (by decide) (rc_F F52 (Or.inl (by decide)) (by decide) (rc_F F39 (Or.inl (by decide)) (by decide) (rc_F F26 (Or.inl (by decide)) (by decide) (rfl))))
  exact tn_vret rfl dX7_begin_90 ⟨rfl, rfl, w64, (((((((((((FrC.rfl.put (by decide) (by decide)).put (by decide) (by decide)).put (by decide) (by decide)).put (by decide) (by decide)).put (by decide) (by decide)).put (by decide) (by decide)).trans (FrC.sub F9 (by decide))).trans (FrC.sub F26 (by decide))).trans (FrC.sub F39 (by decide))).trans (FrC.sub F52 (by decide))).trans (FrC.sub F65 (by decide))), by omega, (((((((((((FA.rfl.put).put).put).put).put).put).trans f6).trans (FA.of F26 (by decide))).trans (FA.of F39 (by decide))).trans (FA.of F52 (by decide))).trans (FA.of F65 (by decide)))⟩
end
section
set_option maxRecDepth 20000 in
theorem k_X7_begin_57 (d : Nat) {T : CT} {σ : MS} {a : Nat} {p1 : Int} {p2 : Int} {p3 : Int} {p4 : Int} {p5 : Int} (ha : OB T a 7) (hta : (T a).1 = 57) (h_p1 : -2147483648 ≤ p1 ∧ p1 ≤ 2147483647) (h_p2 : -2147483648 ≤ p2 ∧ p2 ≤ 2147483647) (h_p3 : -2147483648 ≤ p3 ∧ p3 ≤ 2147483647) (h_p4 : -2147483648 ≤ p4 ∧ p4 ≤ 2147483647) (h_p5 : -2147483648 ≤ p5 ∧ p5 ≤ 2147483647) (hw : WT T σ) : Tn (d + 4) m_X7_begin 0 T σ [(0, .ref a), (1, .int (iI p1)), (2, .int (iI p2)), (3, .int (iI p3)), (4, .int (iI p4)), (5, .int (iI p5))] [] (fun ro T2 σ2 => ro = none ∧ T = T2 ∧ WT T2 σ2 ∧ FrC T [56, 57, 58, 65, 66, 67, 68, 69, 515] σ σ2 ∧ (σ2.2.1 57 a = 0) ∧ (σ2.2.1 58 a = 1) ∧ (σ2.2.1 56 a = 1) ∧ (FA a σ σ2)) := by
  refine tn_aload_n dX7_begin_0 rfl 0 rfl ?_
  refine tn_iconst dX7_begin_1 ?_
  refine tn_putV (ci := 7) (i := 1) (n := 56) (r := false) (v := 1) tyX7 tyX7_ok nmX7 dX7_begin_2 rfl lay_7 (by decide) fl7_34 rfl (tyX7_ok 1 (by decide)) rfl rfl rfl ha rfl rfl ?_
  refine tn_aload_n dX7_begin_5 rfl 0 rfl ?_
  refine tn_iconst dX7_begin_6 ?_
  refine tn_putV (ci := 7) (i := 3) (n := 58) (r := false) (v := 0) tyX7 tyX7_ok nmX7 dX7_begin_7 rfl lay_7 (by decide) fl7_38 rfl (tyX7_ok 3 (by decide)) rfl rfl rfl ha rfl rfl ?_
  refine tn_aload_n dX7_begin_10 rfl 0 rfl ?_
  refine tn_iconst dX7_begin_11 ?_
  refine tn_putV (ci := 7) (i := 10) (n := 65) (r := false) (v := 0) tyX7 tyX7_ok nmX7 dX7_begin_12 rfl lay_7 (by decide) fl7_41 rfl (tyX7_ok 10 (by decide)) rfl rfl rfl ha rfl rfl ?_
  refine tn_aload_n dX7_begin_15 rfl 0 rfl ?_
  refine tn_iconst dX7_begin_16 ?_
  refine tn_putV (ci := 7) (i := 11) (n := 66) (r := false) (v := 0) tyX7 tyX7_ok nmX7 dX7_begin_17 rfl lay_7 (by decide) fl7_44 rfl (tyX7_ok 11 (by decide)) rfl rfl rfl ha rfl rfl ?_
  refine tn_aload_n dX7_begin_20 rfl 0 rfl ?_
  refine tn_iconst dX7_begin_21 ?_
  refine tn_putV (ci := 7) (i := 12) (n := 67) (r := false) (v := 0) tyX7 tyX7_ok nmX7 dX7_begin_22 rfl lay_7 (by decide) fl7_47 rfl (tyX7_ok 12 (by decide)) rfl rfl rfl ha rfl rfl ?_
  refine tn_aload_n dX7_begin_25 rfl 0 rfl ?_
  refine tn_iconst dX7_begin_26 ?_
  refine tn_putV (ci := 7) (i := 13) (n := 68) (r := false) (v := 0) tyX7 tyX7_ok nmX7 dX7_begin_27 rfl lay_7 (by decide) fl7_50 rfl (tyX7_ok 13 (by decide)) rfl rfl rfl ha rfl rfl ?_
  refine tn_aload_n dX7_begin_30 rfl 0 rfl ?_
  refine tn_iconst dX7_begin_31 ?_
  refine tn_iload_n dX7_begin_32 rfl 1 rfl ?_
  have q5 : (sA 68 a (0) (sA 67 a (0) (sA 66 a (0) (sA 65 a (0) (sA 58 a (0) (sA 56 a (1) σ)))))).2.1 58 a = 0 := rc_o (by decide) (rc_o (by decide) (rc_o (by decide) (rc_o (by decide) (ra_eq))))
  refine tn_callV (M := m_X7_begin) (pc := 33) (ix := 53) (ci := 7) (M' := m_X7_openCall) (As := [.int (iI 0), .int (iI p1)]) (rest := []) dX7_begin_33 ok_X7_openCall im_X7_openCall se_X7_openCall ml7_53 np_X7_openCall rfl rfl ha rfl (Nat.le_of_ble_eq_true rfl) (Nat.le_of_ble_eq_true rfl) rfl (k_X7_openCall_57 (d) (T := T) (σ := (sA 68 a (0) (sA 67 a (0) (sA 66 a (0) (sA 65 a (0) (sA 58 a (0) (sA 56 a (1) σ))))))) (a := a) (c := 0) (r := p1) ha hta (by decide) (by omega) ((((((hw.put (by decide) (by decide) (fo_56 (by omega))).put (by decide) (by decide) (fo_58 (by omega))).put (by decide) (by decide) (fo_65 (by omega))).put (by decide) (by decide) (fo_66 (by omega))).put (by decide) (by decide) (fo_67 (by omega))).put (by decide) (by decide) (fo_68 (by omega))) (by omega) (by rw [show (sA 68 a (0) (sA 67 a (0) (sA 66 a (0) (sA 65 a (0) (sA 58 a (0) (sA 56 a (1) σ)))))).2.1 58 a = 0 from rc_o (by decide) (rc_o (by decide) (rc_o (by decide) (rc_o (by decide) (ra_eq))))]; omega)) (fun r1 T3 σ2 gt4 hp => ?_)
  obtain ⟨rfl, rfl, w10, F11, f6, f7, f8⟩ := hp
  clear gt4
  show Tn _ _ 36 T σ2 [(0, .ref a), (1, .int (iI p1)), (2, .int (iI p2)), (3, .int (iI p3)), (4, .int (iI p4)), (5, .int (iI p5))] [] _
  refine tn_aload_n dX7_begin_36 rfl 0 rfl ?_
  obtain ⟨x12, hx13, hk14, hl15⟩ : ∃ x : Nat, σ.2.1 63 a = (x : Int) ∧ AR T x 1 1728 1728 := wf_63 hw ha
  have hk14i : IA T x12 := by unfold IA; omega
  refine tn_getR (ci := 7) (i := 8) (n := 63) (x := x12) dX7_begin_37 rfl lay_7 (by decide) fl7_24 ha rfl rfl (rc_F F11 (Or.inl (by decide)) (by decide) (rc_o (by decide) (rc_o (by decide) (rc_o (by decide) (rc_o (by decide) (rc_o (by decide) (rc_o (by decide) (hx13)))))))) ?_
  refine tn_aload_n dX7_begin_40 rfl 0 rfl ?_
  refine tn_iconst dX7_begin_41 ?_
  refine tn_callV (M := m_X7_begin) (pc := 42) (ix := 57) (ci := 7) (M' := m_X7_homeOfParam) (As := [.int (iI 0)]) (rest := [.ref x12]) dX7_begin_42 ok_X7_homeOfParam im_X7_homeOfParam se_X7_homeOfParam ml7_57 np_X7_homeOfParam rfl rfl ha rfl (Nat.le_of_ble_eq_true rfl) (Nat.le_of_ble_eq_true rfl) rfl (k_X7_homeOfParam (d) (T := T) (σ := σ2) (a := a) (p1 := 0) ha (by decide) w10 ) (fun r16 T18 σ17 gt19 hp => ?_)
  obtain ⟨v21, rfl, rfl, rfl, f20⟩ := hp
  clear gt19
  show Tn _ _ 45 T σ2 [(0, .ref a), (1, .int (iI p1)), (2, .int (iI p2)), (3, .int (iI p3)), (4, .int (iI p4)), (5, .int (iI p5))] [.int (iI v21), .ref x12] _
  refine tn_iload_n dX7_begin_45 rfl 2 rfl ?_
  refine tn_callSN (M := m_X7_begin) (pc := 46) (ix := 61) (M' := m_X11_put) (As := [.ref x12, .int (iI v21), .int (iI p2)]) (rest := []) dX7_begin_46 ok_X11_put stt_X11_put nl7_61 np_X11_put rfl (Nat.le_of_ble_eq_true rfl) (Nat.le_of_ble_eq_true rfl) rfl (k_X11_put (d + 2) (T := T) (σ := σ2) (x := x12) (i := v21) (y := p2) hk14i (by omega) (by omega) (by omega) w10 (nh_k hk14 (by unfold HT; omega)) (vok_1 (by have q9 := hk14; omega) (by omega))) (fun r22 T24 σ23 gt25 hp => ?_)
  obtain ⟨rfl, rfl, w27, F28⟩ := hp
  clear gt25
  show Tn _ _ 49 T σ23 [(0, .ref a), (1, .int (iI p1)), (2, .int (iI p2)), (3, .int (iI p3)), (4, .int (iI p4)), (5, .int (iI p5))] [] _
  refine tn_aload_n dX7_begin_49 rfl 0 rfl ?_
  refine tn_getR (ci := 7) (i := 8) (n := 63) (x := x12) dX7_begin_50 rfl lay_7 (by decide) fl7_24 ha rfl rfl (rc_F F28 (Or.inl (by decide)) (by decide) (rc_F F11 (Or.inl (by decide)) (by decide) (rc_o (by decide) (rc_o (by decide) (rc_o (by decide) (rc_o (by decide) (rc_o (by decide) (rc_o (by decide) (hx13))))))))) ?_
  refine tn_aload_n dX7_begin_53 rfl 0 rfl ?_
  refine tn_iconst dX7_begin_54 ?_
  refine tn_callV (M := m_X7_begin) (pc := 55) (ix := 57) (ci := 7) (M' := m_X7_homeOfParam) (As := [.int (iI 1)]) (rest := [.ref x12]) dX7_begin_55 ok_X7_homeOfParam im_X7_homeOfParam se_X7_homeOfParam ml7_57 np_X7_homeOfParam rfl rfl ha rfl (Nat.le_of_ble_eq_true rfl) (Nat.le_of_ble_eq_true rfl) rfl (k_X7_homeOfParam (d) (T := T) (σ := σ23) (a := a) (p1 := 1) ha (by decide) w27 ) (fun r29 T31 σ30 gt32 hp => ?_)
  obtain ⟨v34, rfl, rfl, rfl, f33⟩ := hp
  clear gt32
  show Tn _ _ 58 T σ23 [(0, .ref a), (1, .int (iI p1)), (2, .int (iI p2)), (3, .int (iI p3)), (4, .int (iI p4)), (5, .int (iI p5))] [.int (iI v34), .ref x12] _
  refine tn_iload_n dX7_begin_58 rfl 3 rfl ?_
  refine tn_callSN (M := m_X7_begin) (pc := 59) (ix := 61) (M' := m_X11_put) (As := [.ref x12, .int (iI v34), .int (iI p3)]) (rest := []) dX7_begin_59 ok_X11_put stt_X11_put nl7_61 np_X11_put rfl (Nat.le_of_ble_eq_true rfl) (Nat.le_of_ble_eq_true rfl) rfl (k_X11_put (d + 2) (T := T) (σ := σ23) (x := x12) (i := v34) (y := p3) hk14i (by omega) (by omega) (by omega) w27 (nh_k hk14 (by unfold HT; omega)) (vok_1 (by have q9 := hk14; omega) (by omega))) (fun r35 T37 σ36 gt38 hp => ?_)
  obtain ⟨rfl, rfl, w40, F41⟩ := hp
  clear gt38
  show Tn _ _ 62 T σ36 [(0, .ref a), (1, .int (iI p1)), (2, .int (iI p2)), (3, .int (iI p3)), (4, .int (iI p4)), (5, .int (iI p5))] [] _
  refine tn_aload_n dX7_begin_62 rfl 0 rfl ?_
  refine tn_getR (ci := 7) (i := 8) (n := 63) (x := x12) dX7_begin_63 rfl lay_7 (by decide) fl7_24 ha rfl rfl (rc_F F41 (Or.inl (by decide)) (by decide) (rc_F F28 (Or.inl (by decide)) (by decide) (rc_F F11 (Or.inl (by decide)) (by decide) (rc_o (by decide) (rc_o (by decide) (rc_o (by decide) (rc_o (by decide) (rc_o (by decide) (rc_o (by decide) (hx13)))))))))) ?_
  refine tn_aload_n dX7_begin_66 rfl 0 rfl ?_
  refine tn_iconst dX7_begin_67 ?_
  refine tn_callV (M := m_X7_begin) (pc := 68) (ix := 57) (ci := 7) (M' := m_X7_homeOfParam) (As := [.int (iI 2)]) (rest := [.ref x12]) dX7_begin_68 ok_X7_homeOfParam im_X7_homeOfParam se_X7_homeOfParam ml7_57 np_X7_homeOfParam rfl rfl ha rfl (Nat.le_of_ble_eq_true rfl) (Nat.le_of_ble_eq_true rfl) rfl (k_X7_homeOfParam (d) (T := T) (σ := σ36) (a := a) (p1 := 2) ha (by decide) w40 ) (fun r42 T44 σ43 gt45 hp => ?_)
  obtain ⟨v47, rfl, rfl, rfl, f46⟩ := hp
  clear gt45
  show Tn _ _ 71 T σ36 [(0, .ref a), (1, .int (iI p1)), (2, .int (iI p2)), (3, .int (iI p3)), (4, .int (iI p4)), (5, .int (iI p5))] [.int (iI v47), .ref x12] _
  refine tn_iload dX7_begin_71 4 rfl ?_
  refine tn_callSN (M := m_X7_begin) (pc := 73) (ix := 61) (M' := m_X11_put) (As := [.ref x12, .int (iI v47), .int (iI p4)]) (rest := []) dX7_begin_73 ok_X11_put stt_X11_put nl7_61 np_X11_put rfl (Nat.le_of_ble_eq_true rfl) (Nat.le_of_ble_eq_true rfl) rfl (k_X11_put (d + 2) (T := T) (σ := σ36) (x := x12) (i := v47) (y := p4) hk14i (by omega) (by omega) (by omega) w40 (nh_k hk14 (by unfold HT; omega)) (vok_1 (by have q9 := hk14; omega) (by omega))) (fun r48 T50 σ49 gt51 hp => ?_)
  obtain ⟨rfl, rfl, w53, F54⟩ := hp
  clear gt51
  show Tn _ _ 76 T σ49 [(0, .ref a), (1, .int (iI p1)), (2, .int (iI p2)), (3, .int (iI p3)), (4, .int (iI p4)), (5, .int (iI p5))] [] _
  refine tn_aload_n dX7_begin_76 rfl 0 rfl ?_
  refine tn_getR (ci := 7) (i := 8) (n := 63) (x := x12) dX7_begin_77 rfl lay_7 (by decide) fl7_24 ha rfl rfl (rc_F F54 (Or.inl (by decide)) (by decide) (rc_F F41 (Or.inl (by decide)) (by decide) (rc_F F28 (Or.inl (by decide)) (by decide) (rc_F F11 (Or.inl (by decide)) (by decide) (rc_o (by decide) (rc_o (by decide) (rc_o (by decide) (rc_o (by decide) (rc_o (by decide) (rc_o (by decide) (hx13))))))))))) ?_
  refine tn_aload_n dX7_begin_80 rfl 0 rfl ?_
  refine tn_iconst dX7_begin_81 ?_
  refine tn_callV (M := m_X7_begin) (pc := 82) (ix := 57) (ci := 7) (M' := m_X7_homeOfParam) (As := [.int (iI 3)]) (rest := [.ref x12]) dX7_begin_82 ok_X7_homeOfParam im_X7_homeOfParam se_X7_homeOfParam ml7_57 np_X7_homeOfParam rfl rfl ha rfl (Nat.le_of_ble_eq_true rfl) (Nat.le_of_ble_eq_true rfl) rfl (k_X7_homeOfParam (d) (T := T) (σ := σ49) (a := a) (p1 := 3) ha (by decide) w53 ) (fun r55 T57 σ56 gt58 hp => ?_)
  obtain ⟨v60, rfl, rfl, rfl, f59⟩ := hp
  clear gt58
  show Tn _ _ 85 T σ49 [(0, .ref a), (1, .int (iI p1)), (2, .int (iI p2)), (3, .int (iI p3)), (4, .int (iI p4)), (5, .int (iI p5))] [.int (iI v60), .ref x12] _
  refine tn_iload dX7_begin_85 5 rfl ?_
  refine tn_callSN (M := m_X7_begin) (pc := 87) (ix := 61) (M' := m_X11_put) (As := [.ref x12, .int (iI v60), .int (iI p5)]) (rest := []) dX7_begin_87 ok_X11_put stt_X11_put nl7_61 np_X11_put rfl (Nat.le_of_ble_eq_true rfl) (Nat.le_of_ble_eq_true rfl) rfl (k_X11_put (d + 2) (T := T) (σ := σ49) (x := x12) (i := v60) (y := p5) hk14i (by omega) (by omega) (by omega) w53 (nh_k hk14 (by unfold HT; omega)) (vok_1 (by have q9 := hk14; omega) (by omega))) (fun r61 T63 σ62 gt64 hp => ?_)
  obtain ⟨rfl, rfl, w66, F67⟩ := hp
  clear gt64
  show Tn _ _ 90 T σ62 [(0, .ref a), (1, .int (iI p1)), (2, .int (iI p2)), (3, .int (iI p3)), (4, .int (iI p4)), (5, .int (iI p5))] [] _
  have q68 : σ62.2.1 57 a = σ2.2.1 57 a := rc_F F67 (Or.inl (by decide)) (by decide) (rc_F F54 (Or.inl (by decide)) (by decide) (rc_F F41 (Or.inl (by decide)) (by decide) (rc_F F28 (Or.inl (by decide)) (by decide) (rfl))))
  have q69 : σ62.2.1 58 a = σ2.2.1 58 a := rc_F F67 (Or.inl (by decide)) (by decide) (rc_F F54 (Or.inl (by decide)) (by decide) (rc_F F41 (Or.inl (by decide)) (by decide) (rc_F F28 (Or.inl (by decide)) (by decide) (rfl))))
  have q70 : σ62.2.1 56 a = 1 := rc_F F67 (Or.inl (by decide)) (by decide) (rc_F F54 (Or.inl (by decide)) (by decide) (rc_F F41 (Or.inl (by decide)) (by decide) (rc_F F28 (Or.inl (by decide)) (by decide) (rc_F F11 (Or.inl (by decide)) (by decide) (rc_o (by decide) (rc_o (by decide) (rc_o (by decide) (rc_o (by decide) (rc_o (by decide) (ra_eq))))))))))
  exact tn_vret rfl dX7_begin_90 ⟨rfl, rfl, w66, (((((((((((FrC.rfl.put (by decide) (by decide)).put (by decide) (by decide)).put (by decide) (by decide)).put (by decide) (by decide)).put (by decide) (by decide)).put (by decide) (by decide)).trans (FrC.sub F11 (by decide))).trans (FrC.sub F28 (by decide))).trans (FrC.sub F41 (by decide))).trans (FrC.sub F54 (by decide))).trans (FrC.sub F67 (by decide))), by omega, by omega, by omega, (((((((((((FA.rfl.put).put).put).put).put).put).trans f8).trans (FA.of F28 (by decide))).trans (FA.of F41 (by decide))).trans (FA.of F54 (by decide))).trans (FA.of F67 (by decide)))⟩
end
section
theorem cd_X7_callFrom : Cond.code yX7_callFrom cX7_callFrom 6 none ∈ pWW := pw6 (List.mem_of_getElem? (i := 78) rfl) rfl
abbrev m_X7_callFrom : MT := (yX7_callFrom, cX7_callFrom, 6, none)
theorem ok_X7_callFrom : pOk m_X7_callFrom := ⟨⟨cd_X7_callFrom, ini_7⟩, by decide +kernel, ⟨by decide +kernel, by decide +kernel⟩, Nat.le_of_ble_eq_true rfl⟩
theorem np_X7_callFrom : (parseMethodDescriptor yX7_callFrom.desc).map (fun d => d.parameters.length) = some 1 := by decide +kernel
theorem im_X7_callFrom : Cond.instanceMethod yX7_callFrom ∈ pWW := pw6 (List.mem_of_getElem? (i := 77) rfl) rfl
theorem se_X7_callFrom : Cond.selects RX7 yX7_callFrom yX7_callFrom ∈ pWW := pws (List.mem_map.mpr ⟨_, lw_pin 90 rfl, rfl⟩) rfl
theorem dX7_callFrom_0 : decode cX7_callFrom 0 = .ok (.aload_n 0, 1) := by decide +kernel
theorem dX7_callFrom_1 : decode cX7_callFrom 1 = .ok (.iload_n 1, 1) := by decide +kernel
theorem dX7_callFrom_2 : decode cX7_callFrom 2 = .ok (.iconst 3, 1) := by decide +kernel
theorem dX7_callFrom_3 : decode cX7_callFrom 3 = .ok (.invokevirtual 110, 3) := by decide +kernel
theorem dX7_callFrom_6 : decode cX7_callFrom 6 = .ok (.istore_n 2, 1) := by decide +kernel
theorem dX7_callFrom_7 : decode cX7_callFrom 7 = .ok (.aload_n 0, 1) := by decide +kernel
theorem dX7_callFrom_8 : decode cX7_callFrom 8 = .ok (.iload_n 1, 1) := by decide +kernel
theorem dX7_callFrom_9 : decode cX7_callFrom 9 = .ok (.iconst 5, 1) := by decide +kernel
theorem dX7_callFrom_10 : decode cX7_callFrom 10 = .ok (.invokevirtual 110, 3) := by decide +kernel
theorem dX7_callFrom_13 : decode cX7_callFrom 13 = .ok (.istore_n 3, 1) := by decide +kernel
theorem dX7_callFrom_14 : decode cX7_callFrom 14 = .ok (.aload_n 0, 1) := by decide +kernel
theorem dX7_callFrom_15 : decode cX7_callFrom 15 = .ok (.iload_n 1, 1) := by decide +kernel
theorem dX7_callFrom_16 : decode cX7_callFrom 16 = .ok (.bipush 7, 2) := by decide +kernel
theorem dX7_callFrom_18 : decode cX7_callFrom 18 = .ok (.invokevirtual 110, 3) := by decide +kernel
theorem dX7_callFrom_21 : decode cX7_callFrom 21 = .ok (.istore 4, 2) := by decide +kernel
theorem dX7_callFrom_23 : decode cX7_callFrom 23 = .ok (.aload_n 0, 1) := by decide +kernel
theorem dX7_callFrom_24 : decode cX7_callFrom 24 = .ok (.iload_n 1, 1) := by decide +kernel
theorem dX7_callFrom_25 : decode cX7_callFrom 25 = .ok (.bipush 9, 2) := by decide +kernel
theorem dX7_callFrom_27 : decode cX7_callFrom 27 = .ok (.invokevirtual 110, 3) := by decide +kernel
theorem dX7_callFrom_30 : decode cX7_callFrom 30 = .ok (.istore 5, 2) := by decide +kernel
theorem dX7_callFrom_32 : decode cX7_callFrom 32 = .ok (.aload_n 0, 1) := by decide +kernel
theorem dX7_callFrom_33 : decode cX7_callFrom 33 = .ok (.aload_n 0, 1) := by decide +kernel
theorem dX7_callFrom_34 : decode cX7_callFrom 34 = .ok (.getfield 65, 3) := by decide +kernel
theorem dX7_callFrom_37 : decode cX7_callFrom 37 = .ok (.iconst 1, 1) := by decide +kernel
theorem dX7_callFrom_38 : decode cX7_callFrom 38 = .ok (.iadd, 1) := by decide +kernel
theorem dX7_callFrom_39 : decode cX7_callFrom 39 = .ok (.aload_n 0, 1) := by decide +kernel
theorem dX7_callFrom_40 : decode cX7_callFrom 40 = .ok (.getfield 72, 3) := by decide +kernel
theorem dX7_callFrom_43 : decode cX7_callFrom 43 = .ok (.iload_n 1, 1) := by decide +kernel
theorem dX7_callFrom_44 : decode cX7_callFrom 44 = .ok (.iconst 2, 1) := by decide +kernel
theorem dX7_callFrom_45 : decode cX7_callFrom 45 = .ok (.invokevirtual 117, 3) := by decide +kernel
theorem dX7_callFrom_48 : decode cX7_callFrom 48 = .ok (.invokevirtual 53, 3) := by decide +kernel
theorem dX7_callFrom_51 : decode cX7_callFrom 51 = .ok (.aload_n 0, 1) := by decide +kernel
theorem dX7_callFrom_52 : decode cX7_callFrom 52 = .ok (.getfield 24, 3) := by decide +kernel
theorem dX7_callFrom_55 : decode cX7_callFrom 55 = .ok (.aload_n 0, 1) := by decide +kernel
theorem dX7_callFrom_56 : decode cX7_callFrom 56 = .ok (.iconst 0, 1) := by decide +kernel
theorem dX7_callFrom_57 : decode cX7_callFrom 57 = .ok (.invokevirtual 57, 3) := by decide +kernel
theorem dX7_callFrom_60 : decode cX7_callFrom 60 = .ok (.iload_n 2, 1) := by decide +kernel
theorem dX7_callFrom_61 : decode cX7_callFrom 61 = .ok (.invokestatic 61, 3) := by decide +kernel
theorem dX7_callFrom_64 : decode cX7_callFrom 64 = .ok (.aload_n 0, 1) := by decide +kernel
theorem dX7_callFrom_65 : decode cX7_callFrom 65 = .ok (.getfield 24, 3) := by decide +kernel
theorem dX7_callFrom_68 : decode cX7_callFrom 68 = .ok (.aload_n 0, 1) := by decide +kernel
theorem dX7_callFrom_69 : decode cX7_callFrom 69 = .ok (.iconst 1, 1) := by decide +kernel
theorem dX7_callFrom_70 : decode cX7_callFrom 70 = .ok (.invokevirtual 57, 3) := by decide +kernel
theorem dX7_callFrom_73 : decode cX7_callFrom 73 = .ok (.iload_n 3, 1) := by decide +kernel
theorem dX7_callFrom_74 : decode cX7_callFrom 74 = .ok (.invokestatic 61, 3) := by decide +kernel
theorem dX7_callFrom_77 : decode cX7_callFrom 77 = .ok (.aload_n 0, 1) := by decide +kernel
theorem dX7_callFrom_78 : decode cX7_callFrom 78 = .ok (.getfield 24, 3) := by decide +kernel
theorem dX7_callFrom_81 : decode cX7_callFrom 81 = .ok (.aload_n 0, 1) := by decide +kernel
theorem dX7_callFrom_82 : decode cX7_callFrom 82 = .ok (.iconst 2, 1) := by decide +kernel
theorem dX7_callFrom_83 : decode cX7_callFrom 83 = .ok (.invokevirtual 57, 3) := by decide +kernel
theorem dX7_callFrom_86 : decode cX7_callFrom 86 = .ok (.iload 4, 2) := by decide +kernel
theorem dX7_callFrom_88 : decode cX7_callFrom 88 = .ok (.invokestatic 61, 3) := by decide +kernel
theorem dX7_callFrom_91 : decode cX7_callFrom 91 = .ok (.aload_n 0, 1) := by decide +kernel
theorem dX7_callFrom_92 : decode cX7_callFrom 92 = .ok (.getfield 24, 3) := by decide +kernel
theorem dX7_callFrom_95 : decode cX7_callFrom 95 = .ok (.aload_n 0, 1) := by decide +kernel
theorem dX7_callFrom_96 : decode cX7_callFrom 96 = .ok (.iconst 3, 1) := by decide +kernel
theorem dX7_callFrom_97 : decode cX7_callFrom 97 = .ok (.invokevirtual 57, 3) := by decide +kernel
theorem dX7_callFrom_100 : decode cX7_callFrom 100 = .ok (.iload 5, 2) := by decide +kernel
theorem dX7_callFrom_102 : decode cX7_callFrom 102 = .ok (.invokestatic 61, 3) := by decide +kernel
theorem dX7_callFrom_105 : decode cX7_callFrom 105 = .ok (.return_, 1) := by decide +kernel
set_option maxRecDepth 20000 in
theorem k_X7_callFrom (d : Nat) {T : CT} {σ : MS} {a : Nat} {k : Int} (ha : OB T a 7) (hta : (T a).1 = 37) (h_k : -2147483648 ≤ k ∧ k ≤ 2147483647) (hw : WT T σ) (hn : 0 ≤ σ.2.1 69 a) (h8 : σ.2.1 57 a ≤ 11184799) : Tn (d + 4) m_X7_callFrom 0 T σ [(0, .ref a), (1, .int (iI k))] [] (fun ro T2 σ2 => ro = none ∧ T = T2 ∧ WT T2 σ2 ∧ FrC T [57, 58, 69, 515] σ σ2 ∧ (σ2.2.1 57 a = σ.2.1 57 a + 1) ∧ (FA a σ σ2)) := by
  refine tn_aload_n dX7_callFrom_0 rfl 0 rfl ?_
  refine tn_iload_n dX7_callFrom_1 rfl 1 rfl ?_
  refine tn_iconst dX7_callFrom_2 ?_
  refine tn_callV (M := m_X7_callFrom) (pc := 3) (ix := 110) (ci := 7) (M' := m_X7_operand) (As := [.int (iI k), .int (iI 3)]) (rest := []) dX7_callFrom_3 ok_X7_operand im_X7_operand se_X7_operand ml7_110 np_X7_operand rfl rfl ha rfl (Nat.le_of_ble_eq_true rfl) (Nat.le_of_ble_eq_true rfl) rfl (k_X7_operand (d + 1) (T := T) (σ := σ) (a := a) (k := k) (c := 3) ha (by omega) (by decide) hw (by rw [show σ.2.1 69 a = σ.2.1 69 a from rfl]; exact hn) (by omega)) (fun r1 T3 σ2 gt4 hp => ?_)
  obtain ⟨v6, rfl, rfl, rfl, f5⟩ := hp
  clear gt4
  show Tn _ _ 6 T σ [(0, .ref a), (1, .int (iI k))] [.int (iI v6)] _
  refine tn_istore_n (L' := [(2, .int (iI v6)), (0, .ref a), (1, .int (iI k))]) dX7_callFrom_6 rfl (by decide) rfl ?_
  refine tn_aload_n dX7_callFrom_7 rfl 1 rfl ?_
  refine tn_iload_n dX7_callFrom_8 rfl 2 rfl ?_
  refine tn_iconst dX7_callFrom_9 ?_
  refine tn_callV (M := m_X7_callFrom) (pc := 10) (ix := 110) (ci := 7) (M' := m_X7_operand) (As := [.int (iI k), .int (iI 5)]) (rest := []) dX7_callFrom_10 ok_X7_operand im_X7_operand se_X7_operand ml7_110 np_X7_operand rfl rfl ha rfl (Nat.le_of_ble_eq_true rfl) (Nat.le_of_ble_eq_true rfl) rfl (k_X7_operand (d + 1) (T := T) (σ := σ) (a := a) (k := k) (c := 5) ha (by omega) (by decide) hw (by rw [show σ.2.1 69 a = σ.2.1 69 a from rfl]; exact hn) (by omega)) (fun r7 T9 σ8 gt10 hp => ?_)
  obtain ⟨v12, rfl, rfl, rfl, f11⟩ := hp
  clear gt10
  show Tn _ _ 13 T σ [(2, .int (iI v6)), (0, .ref a), (1, .int (iI k))] [.int (iI v12)] _
  refine tn_istore_n (L' := [(3, .int (iI v12)), (2, .int (iI v6)), (0, .ref a), (1, .int (iI k))]) dX7_callFrom_13 rfl (by decide) rfl ?_
  refine tn_aload_n dX7_callFrom_14 rfl 2 rfl ?_
  refine tn_iload_n dX7_callFrom_15 rfl 3 rfl ?_
  refine tn_bipush dX7_callFrom_16 (by decide) ?_
  refine tn_callV (M := m_X7_callFrom) (pc := 18) (ix := 110) (ci := 7) (M' := m_X7_operand) (As := [.int (iI k), .int (iI 7)]) (rest := []) dX7_callFrom_18 ok_X7_operand im_X7_operand se_X7_operand ml7_110 np_X7_operand rfl rfl ha rfl (Nat.le_of_ble_eq_true rfl) (Nat.le_of_ble_eq_true rfl) rfl (k_X7_operand (d + 1) (T := T) (σ := σ) (a := a) (k := k) (c := 7) ha (by omega) (by decide) hw (by rw [show σ.2.1 69 a = σ.2.1 69 a from rfl]; exact hn) (by omega)) (fun r13 T15 σ14 gt16 hp => ?_)
  obtain ⟨v18, rfl, rfl, rfl, f17⟩ := hp
  clear gt16
  show Tn _ _ 21 T σ [(3, .int (iI v12)), (2, .int (iI v6)), (0, .ref a), (1, .int (iI k))] [.int (iI v18)] _
  refine tn_istore (L' := [(4, .int (iI v18)), (3, .int (iI v12)), (2, .int (iI v6)), (0, .ref a), (1, .int (iI k))]) dX7_callFrom_21 (by decide) rfl ?_
  refine tn_aload_n dX7_callFrom_23 rfl 3 rfl ?_
  refine tn_iload_n dX7_callFrom_24 rfl 4 rfl ?_
  refine tn_bipush dX7_callFrom_25 (by decide) ?_
  refine tn_callV (M := m_X7_callFrom) (pc := 27) (ix := 110) (ci := 7) (M' := m_X7_operand) (As := [.int (iI k), .int (iI 9)]) (rest := []) dX7_callFrom_27 ok_X7_operand im_X7_operand se_X7_operand ml7_110 np_X7_operand rfl rfl ha rfl (Nat.le_of_ble_eq_true rfl) (Nat.le_of_ble_eq_true rfl) rfl (k_X7_operand (d + 1) (T := T) (σ := σ) (a := a) (k := k) (c := 9) ha (by omega) (by decide) hw (by rw [show σ.2.1 69 a = σ.2.1 69 a from rfl]; exact hn) (by omega)) (fun r19 T21 σ20 gt22 hp => ?_)
  obtain ⟨v24, rfl, rfl, rfl, f23⟩ := hp
  clear gt22
  show Tn _ _ 30 T σ [(4, .int (iI v18)), (3, .int (iI v12)), (2, .int (iI v6)), (0, .ref a), (1, .int (iI k))] [.int (iI v24)] _
  refine tn_istore (L' := [(5, .int (iI v24)), (4, .int (iI v18)), (3, .int (iI v12)), (2, .int (iI v6)), (0, .ref a), (1, .int (iI k))]) dX7_callFrom_30 (by decide) rfl ?_
  refine tn_aload_n dX7_callFrom_32 rfl 4 rfl ?_
  refine tn_aload_n dX7_callFrom_33 rfl 4 rfl ?_
  refine tn_getI (ci := 7) (i := 2) (n := 57) (t := σ.2.1 57 a) dX7_callFrom_34 rfl lay_7 (by decide) fl7_65 ha rfl rfl (rfl) ?_
  have g25 : ((0 : Int) ≤ σ.2.1 57 a ∧ σ.2.1 57 a ≤ 11184800) ∧ ((T a).1 = 57 → σ.2.1 57 a ≤ 8) := wf_57 hw ha
  have g25x := g25.2
  replace g25 := g25.1
  clear g25x
  refine tn_iconst dX7_callFrom_37 ?_
  refine tn_iadd dX7_callFrom_38 ?_
  refine tn_aload_n dX7_callFrom_39 rfl 4 rfl ?_
  obtain ⟨x30, hx31, hk32a, hk32b⟩ := (wf_69 hw ha).resolve_left (by have q9 := hn; omega)
  have hk32 : (T x30).1 = 50 := hk32b (by omega)
  clear hk32a hk32b
  have hk32o : OB T x30 1 := ⟨by omega, by rw [hk32]; rfl, by omega⟩
  refine tn_getR (ci := 7) (i := 14) (n := 69) (x := x30) dX7_callFrom_40 rfl lay_7 (by decide) fl7_72 ha rfl rfl (hx31) ?_
  refine tn_iload_n dX7_callFrom_43 rfl 5 rfl ?_
  refine tn_iconst dX7_callFrom_44 ?_
  refine tn_callV (M := m_X7_callFrom) (pc := 45) (ix := 117) (ci := 1) (M' := m_X1_get) (As := [.int (iI k), .int (iI 2)]) (rest := [.int (iI ((σ.2.1 57 a) + 1)), .ref a]) dX7_callFrom_45 ok_X1_get im_X1_get se_X1_get ml7_117 np_X1_get rfl rfl hk32o rfl (Nat.le_of_ble_eq_true rfl) (Nat.le_of_ble_eq_true rfl) rfl (k_X1_get (d + 2) (T := T) (σ := σ) (a := x30) (k := k) (c := 2) hk32o (by omega) (by decide) hw (by omega)) (fun r33 T35 σ34 gt36 hp => ?_)
  obtain ⟨v38, rfl, rfl, rfl, f37⟩ := hp
  clear gt36
  show Tn _ _ 48 T σ [(5, .int (iI v24)), (4, .int (iI v18)), (3, .int (iI v12)), (2, .int (iI v6)), (0, .ref a), (1, .int (iI k))] [.int (iI v38), .int (iI ((σ.2.1 57 a) + 1)), .ref a] _
  refine tn_callV (M := m_X7_callFrom) (pc := 48) (ix := 53) (ci := 7) (M' := m_X7_openCall) (As := [.int (iI ((σ.2.1 57 a) + 1)), .int (iI v38)]) (rest := []) dX7_callFrom_48 ok_X7_openCall im_X7_openCall se_X7_openCall ml7_53 np_X7_openCall rfl rfl ha rfl (Nat.le_of_ble_eq_true rfl) (Nat.le_of_ble_eq_true rfl) rfl (k_X7_openCall (d) (T := T) (σ := σ) (a := a) (c := (σ.2.1 57 a) + 1) (r := v38) ha hta (by omega) (by omega) hw (by omega)) (fun r39 T41 σ40 gt42 hp => ?_)
  obtain ⟨rfl, rfl, w46, F47, f43, f44⟩ := hp
  clear gt42
  show Tn _ _ 51 T σ40 [(5, .int (iI v24)), (4, .int (iI v18)), (3, .int (iI v12)), (2, .int (iI v6)), (0, .ref a), (1, .int (iI k))] [] _
  refine tn_aload_n dX7_callFrom_51 rfl 4 rfl ?_
  obtain ⟨x48, hx49, hk50, hl51⟩ : ∃ x : Nat, σ.2.1 63 a = (x : Int) ∧ AR T x 1 1728 1728 := wf_63 hw ha
  have hk50i : IA T x48 := by unfold IA; omega
  refine tn_getR (ci := 7) (i := 8) (n := 63) (x := x48) dX7_callFrom_52 rfl lay_7 (by decide) fl7_24 ha rfl rfl (rc_F F47 (Or.inl (by decide)) (by decide) (hx49)) ?_
  refine tn_aload_n dX7_callFrom_55 rfl 4 rfl ?_
  refine tn_iconst dX7_callFrom_56 ?_
  refine tn_callV (M := m_X7_callFrom) (pc := 57) (ix := 57) (ci := 7) (M' := m_X7_homeOfParam) (As := [.int (iI 0)]) (rest := [.ref x48]) dX7_callFrom_57 ok_X7_homeOfParam im_X7_homeOfParam se_X7_homeOfParam ml7_57 np_X7_homeOfParam rfl rfl ha rfl (Nat.le_of_ble_eq_true rfl) (Nat.le_of_ble_eq_true rfl) rfl (k_X7_homeOfParam (d) (T := T) (σ := σ40) (a := a) (p1 := 0) ha (by decide) w46 ) (fun r52 T54 σ53 gt55 hp => ?_)
  obtain ⟨v57, rfl, rfl, rfl, f56⟩ := hp
  clear gt55
  show Tn _ _ 60 T σ40 [(5, .int (iI v24)), (4, .int (iI v18)), (3, .int (iI v12)), (2, .int (iI v6)), (0, .ref a), (1, .int (iI k))] [.int (iI v57), .ref x48] _
  refine tn_iload_n dX7_callFrom_60 rfl 3 rfl ?_
  refine tn_callSN (M := m_X7_callFrom) (pc := 61) (ix := 61) (M' := m_X11_put) (As := [.ref x48, .int (iI v57), .int (iI v6)]) (rest := []) dX7_callFrom_61 ok_X11_put stt_X11_put nl7_61 np_X11_put rfl (Nat.le_of_ble_eq_true rfl) (Nat.le_of_ble_eq_true rfl) rfl (k_X11_put (d + 2) (T := T) (σ := σ40) (x := x48) (i := v57) (y := v6) hk50i (by omega) (by omega) (by omega) w46 (nh_k hk50 (by unfold HT; omega)) (vok_1 (by have q9 := hk50; omega) (by omega))) (fun r58 T60 σ59 gt61 hp => ?_)
  obtain ⟨rfl, rfl, w63, F64⟩ := hp
  clear gt61
  show Tn _ _ 64 T σ59 [(5, .int (iI v24)), (4, .int (iI v18)), (3, .int (iI v12)), (2, .int (iI v6)), (0, .ref a), (1, .int (iI k))] [] _
  refine tn_aload_n dX7_callFrom_64 rfl 4 rfl ?_
  refine tn_getR (ci := 7) (i := 8) (n := 63) (x := x48) dX7_callFrom_65 rfl lay_7 (by decide) fl7_24 ha rfl rfl (rc_F F64 (Or.inl (by decide)) (by decide) (rc_F F47 (Or.inl (by decide)) (by decide) (hx49))) ?_
  refine tn_aload_n dX7_callFrom_68 rfl 4 rfl ?_
  refine tn_iconst dX7_callFrom_69 ?_
  refine tn_callV (M := m_X7_callFrom) (pc := 70) (ix := 57) (ci := 7) (M' := m_X7_homeOfParam) (As := [.int (iI 1)]) (rest := [.ref x48]) dX7_callFrom_70 ok_X7_homeOfParam im_X7_homeOfParam se_X7_homeOfParam ml7_57 np_X7_homeOfParam rfl rfl ha rfl (Nat.le_of_ble_eq_true rfl) (Nat.le_of_ble_eq_true rfl) rfl (k_X7_homeOfParam (d) (T := T) (σ := σ59) (a := a) (p1 := 1) ha (by decide) w63 ) (fun r65 T67 σ66 gt68 hp => ?_)
  obtain ⟨v70, rfl, rfl, rfl, f69⟩ := hp
  clear gt68
  show Tn _ _ 73 T σ59 [(5, .int (iI v24)), (4, .int (iI v18)), (3, .int (iI v12)), (2, .int (iI v6)), (0, .ref a), (1, .int (iI k))] [.int (iI v70), .ref x48] _
  refine tn_iload_n dX7_callFrom_73 rfl 2 rfl ?_
  refine tn_callSN (M := m_X7_callFrom) (pc := 74) (ix := 61) (M' := m_X11_put) (As := [.ref x48, .int (iI v70), .int (iI v12)]) (rest := []) dX7_callFrom_74 ok_X11_put stt_X11_put nl7_61 np_X11_put rfl (Nat.le_of_ble_eq_true rfl) (Nat.le_of_ble_eq_true rfl) rfl (k_X11_put (d + 2) (T := T) (σ := σ59) (x := x48) (i := v70) (y := v12) hk50i (by omega) (by omega) (by omega) w63 (nh_k hk50 (by unfold HT; omega)) (vok_1 (by have q9 := hk50; omega) (by omega))) (fun r71 T73 σ72 gt74 hp => ?_)
  obtain ⟨rfl, rfl, w76, F77⟩ := hp
  clear gt74
  show Tn _ _ 77 T σ72 [(5, .int (iI v24)), (4, .int (iI v18)), (3, .int (iI v12)), (2, .int (iI v6)), (0, .ref a), (1, .int (iI k))] [] _
  refine tn_aload_n dX7_callFrom_77 rfl 4 rfl ?_
  refine tn_getR (ci := 7) (i := 8) (n := 63) (x := x48) dX7_callFrom_78 rfl lay_7 (by decide) fl7_24 ha rfl rfl (rc_F F77 (Or.inl (by decide)) (by decide) (rc_F F64 (Or.inl (by decide)) (by decide) (rc_F F47 (Or.inl (by decide)) (by decide) (hx49)))) ?_
  refine tn_aload_n dX7_callFrom_81 rfl 4 rfl ?_
  refine tn_iconst dX7_callFrom_82 ?_
  refine tn_callV (M := m_X7_callFrom) (pc := 83) (ix := 57) (ci := 7) (M' := m_X7_homeOfParam) (As := [.int (iI 2)]) (rest := [.ref x48]) dX7_callFrom_83 ok_X7_homeOfParam im_X7_homeOfParam se_X7_homeOfParam ml7_57 np_X7_homeOfParam rfl rfl ha rfl (Nat.le_of_ble_eq_true rfl) (Nat.le_of_ble_eq_true rfl) rfl (k_X7_homeOfParam (d) (T := T) (σ := σ72) (a := a) (p1 := 2) ha (by decide) w76 ) (fun r78 T80 σ79 gt81 hp => ?_)
  obtain ⟨v83, rfl, rfl, rfl, f82⟩ := hp
  clear gt81
  show Tn _ _ 86 T σ72 [(5, .int (iI v24)), (4, .int (iI v18)), (3, .int (iI v12)), (2, .int (iI v6)), (0, .ref a), (1, .int (iI k))] [.int (iI v83), .ref x48] _
  refine tn_iload dX7_callFrom_86 1 rfl ?_
  refine tn_callSN (M := m_X7_callFrom) (pc := 88) (ix := 61) (M' := m_X11_put) (As := [.ref x48, .int (iI v83), .int (iI v18)]) (rest := []) dX7_callFrom_88 ok_X11_put stt_X11_put nl7_61 np_X11_put rfl (Nat.le_of_ble_eq_true rfl) (Nat.le_of_ble_eq_true rfl) rfl (k_X11_put (d + 2) (T := T) (σ := σ72) (x := x48) (i := v83) (y := v18) hk50i (by omega) (by omega) (by omega) w76 (nh_k hk50 (by unfold HT; omega)) (vok_1 (by have q9 := hk50; omega) (by omega))) (fun r84 T86 σ85 gt87 hp => ?_)
  obtain ⟨rfl, rfl, w89, F90⟩ := hp
  clear gt87
  show Tn _ _ 91 T σ85 [(5, .int (iI v24)), (4, .int (iI v18)), (3, .int (iI v12)), (2, .int (iI v6)), (0, .ref a), (1, .int (iI k))] [] _
  refine tn_aload_n dX7_callFrom_91 rfl 4 rfl ?_
  refine tn_getR (ci := 7) (i := 8) (n := 63) (x := x48) dX7_callFrom_92 rfl lay_7 (by decide) fl7_24 ha rfl rfl (rc_F F90 (Or.inl (by decide)) (by decide) (rc_F F77 (Or.inl (by decide)) (by decide) (rc_F F64 (Or.inl (by decide)) (by decide) (rc_F F47 (Or.inl (by decide)) (by decide) (hx49))))) ?_
  refine tn_aload_n dX7_callFrom_95 rfl 4 rfl ?_
  refine tn_iconst dX7_callFrom_96 ?_
  refine tn_callV (M := m_X7_callFrom) (pc := 97) (ix := 57) (ci := 7) (M' := m_X7_homeOfParam) (As := [.int (iI 3)]) (rest := [.ref x48]) dX7_callFrom_97 ok_X7_homeOfParam im_X7_homeOfParam se_X7_homeOfParam ml7_57 np_X7_homeOfParam rfl rfl ha rfl (Nat.le_of_ble_eq_true rfl) (Nat.le_of_ble_eq_true rfl) rfl (k_X7_homeOfParam (d) (T := T) (σ := σ85) (a := a) (p1 := 3) ha (by decide) w89 ) (fun r91 T93 σ92 gt94 hp => ?_)
  obtain ⟨v96, rfl, rfl, rfl, f95⟩ := hp
  clear gt94
  show Tn _ _ 100 T σ85 [(5, .int (iI v24)), (4, .int (iI v18)), (3, .int (iI v12)), (2, .int (iI v6)), (0, .ref a), (1, .int (iI k))] [.int (iI v96), .ref x48] _
  refine tn_iload dX7_callFrom_100 0 rfl ?_
  refine tn_callSN (M := m_X7_callFrom) (pc := 102) (ix := 61) (M' := m_X11_put) (As := [.ref x48, .int (iI v96), .int (iI v24)]) (rest := []) dX7_callFrom_102 ok_X11_put stt_X11_put nl7_61 np_X11_put rfl (Nat.le_of_ble_eq_true rfl) (Nat.le_of_ble_eq_true rfl) rfl (k_X11_put (d + 2) (T := T) (σ := σ85) (x := x48) (i := v96) (y := v24) hk50i (by omega) (by omega) (by omega) w89 (nh_k hk50 (by unfold HT; omega)) (vok_1 (by have q9 := hk50; omega) (by omega))) (fun r97 T99 σ98 gt100 hp => ?_)
  obtain ⟨rfl, rfl, w102, F103⟩ := hp
  clear gt100
  show Tn _ _ 105 T σ98 [(5, .int (iI v24)), (4, .int (iI v18)), (3, .int (iI v12)), (2, .int (iI v6)), (0, .ref a), (1, .int (iI k))] [] _
  have q104 : σ98.2.1 57 a = σ40.2.1 57 a := rc_F F103 (Or.inl (by decide)) (by decide) (rc_F F90 (Or.inl (by decide)) (by decide) (rc_F F77 (Or.inl (by decide)) (by decide) (rc_F F64 (Or.inl (by decide)) (by decide) (rfl))))
  exact tn_vret rfl dX7_callFrom_105 ⟨rfl, rfl, w102, (((((FrC.rfl.trans (FrC.sub F47 (by decide))).trans (FrC.sub F64 (by decide))).trans (FrC.sub F77 (by decide))).trans (FrC.sub F90 (by decide))).trans (FrC.sub F103 (by decide))), by omega, (((((FA.rfl.trans f44).trans (FA.of F64 (by decide))).trans (FA.of F77 (by decide))).trans (FA.of F90 (by decide))).trans (FA.of F103 (by decide)))⟩
end
section
set_option maxRecDepth 20000 in
theorem k_X7_callFrom_57 (d : Nat) {T : CT} {σ : MS} {a : Nat} {k : Int} (ha : OB T a 7) (hta : (T a).1 = 57) (h_k : -2147483648 ≤ k ∧ k ≤ 2147483647) (hw : WT T σ) (hn : 0 ≤ σ.2.1 69 a) (h8 : σ.2.1 57 a ≤ 7) (hd : 0 ≤ σ.2.1 58 a ∧ σ.2.1 58 a ≤ 100) : Tn (d + 4) m_X7_callFrom 0 T σ [(0, .ref a), (1, .int (iI k))] [] (fun ro T2 σ2 => ro = none ∧ T = T2 ∧ WT T2 σ2 ∧ FrC T [57, 58, 69, 515] σ σ2 ∧ (σ2.2.1 57 a = σ.2.1 57 a + 1) ∧ (σ2.2.1 58 a = σ.2.1 58 a + 1) ∧ (FA a σ σ2)) := by
  refine tn_aload_n dX7_callFrom_0 rfl 0 rfl ?_
  refine tn_iload_n dX7_callFrom_1 rfl 1 rfl ?_
  refine tn_iconst dX7_callFrom_2 ?_
  refine tn_callV (M := m_X7_callFrom) (pc := 3) (ix := 110) (ci := 7) (M' := m_X7_operand) (As := [.int (iI k), .int (iI 3)]) (rest := []) dX7_callFrom_3 ok_X7_operand im_X7_operand se_X7_operand ml7_110 np_X7_operand rfl rfl ha rfl (Nat.le_of_ble_eq_true rfl) (Nat.le_of_ble_eq_true rfl) rfl (k_X7_operand (d + 1) (T := T) (σ := σ) (a := a) (k := k) (c := 3) ha (by omega) (by decide) hw (by rw [show σ.2.1 69 a = σ.2.1 69 a from rfl]; exact hn) (by omega)) (fun r1 T3 σ2 gt4 hp => ?_)
  obtain ⟨v6, rfl, rfl, rfl, f5⟩ := hp
  clear gt4
  show Tn _ _ 6 T σ [(0, .ref a), (1, .int (iI k))] [.int (iI v6)] _
  refine tn_istore_n (L' := [(2, .int (iI v6)), (0, .ref a), (1, .int (iI k))]) dX7_callFrom_6 rfl (by decide) rfl ?_
  refine tn_aload_n dX7_callFrom_7 rfl 1 rfl ?_
  refine tn_iload_n dX7_callFrom_8 rfl 2 rfl ?_
  refine tn_iconst dX7_callFrom_9 ?_
  refine tn_callV (M := m_X7_callFrom) (pc := 10) (ix := 110) (ci := 7) (M' := m_X7_operand) (As := [.int (iI k), .int (iI 5)]) (rest := []) dX7_callFrom_10 ok_X7_operand im_X7_operand se_X7_operand ml7_110 np_X7_operand rfl rfl ha rfl (Nat.le_of_ble_eq_true rfl) (Nat.le_of_ble_eq_true rfl) rfl (k_X7_operand (d + 1) (T := T) (σ := σ) (a := a) (k := k) (c := 5) ha (by omega) (by decide) hw (by rw [show σ.2.1 69 a = σ.2.1 69 a from rfl]; exact hn) (by omega)) (fun r7 T9 σ8 gt10 hp => ?_)
  obtain ⟨v12, rfl, rfl, rfl, f11⟩ := hp
  clear gt10
  show Tn _ _ 13 T σ [(2, .int (iI v6)), (0, .ref a), (1, .int (iI k))] [.int (iI v12)] _
  refine tn_istore_n (L' := [(3, .int (iI v12)), (2, .int (iI v6)), (0, .ref a), (1, .int (iI k))]) dX7_callFrom_13 rfl (by decide) rfl ?_
  refine tn_aload_n dX7_callFrom_14 rfl 2 rfl ?_
  refine tn_iload_n dX7_callFrom_15 rfl 3 rfl ?_
  refine tn_bipush dX7_callFrom_16 (by decide) ?_
  refine tn_callV (M := m_X7_callFrom) (pc := 18) (ix := 110) (ci := 7) (M' := m_X7_operand) (As := [.int (iI k), .int (iI 7)]) (rest := []) dX7_callFrom_18 ok_X7_operand im_X7_operand se_X7_operand ml7_110 np_X7_operand rfl rfl ha rfl (Nat.le_of_ble_eq_true rfl) (Nat.le_of_ble_eq_true rfl) rfl (k_X7_operand (d + 1) (T := T) (σ := σ) (a := a) (k := k) (c := 7) ha (by omega) (by decide) hw (by rw [show σ.2.1 69 a = σ.2.1 69 a from rfl]; exact hn) (by omega)) (fun r13 T15 σ14 gt16 hp => ?_)
  obtain ⟨v18, rfl, rfl, rfl, f17⟩ := hp
  clear gt16
  show Tn _ _ 21 T σ [(3, .int (iI v12)), (2, .int (iI v6)), (0, .ref a), (1, .int (iI k))] [.int (iI v18)] _
  refine tn_istore (L' := [(4, .int (iI v18)), (3, .int (iI v12)), (2, .int (iI v6)), (0, .ref a), (1, .int (iI k))]) dX7_callFrom_21 (by decide) rfl ?_
  refine tn_aload_n dX7_callFrom_23 rfl 3 rfl ?_
  refine tn_iload_n dX7_callFrom_24 rfl 4 rfl ?_
  refine tn_bipush dX7_callFrom_25 (by decide) ?_
  refine tn_callV (M := m_X7_callFrom) (pc := 27) (ix := 110) (ci := 7) (M' := m_X7_operand) (As := [.int (iI k), .int (iI 9)]) (rest := []) dX7_callFrom_27 ok_X7_operand im_X7_operand se_X7_operand ml7_110 np_X7_operand rfl rfl ha rfl (Nat.le_of_ble_eq_true rfl) (Nat.le_of_ble_eq_true rfl) rfl (k_X7_operand (d + 1) (T := T) (σ := σ) (a := a) (k := k) (c := 9) ha (by omega) (by decide) hw (by rw [show σ.2.1 69 a = σ.2.1 69 a from rfl]; exact hn) (by omega)) (fun r19 T21 σ20 gt22 hp => ?_)
  obtain ⟨v24, rfl, rfl, rfl, f23⟩ := hp
  clear gt22
  show Tn _ _ 30 T σ [(4, .int (iI v18)), (3, .int (iI v12)), (2, .int (iI v6)), (0, .ref a), (1, .int (iI k))] [.int (iI v24)] _
  refine tn_istore (L' := [(5, .int (iI v24)), (4, .int (iI v18)), (3, .int (iI v12)), (2, .int (iI v6)), (0, .ref a), (1, .int (iI k))]) dX7_callFrom_30 (by decide) rfl ?_
  refine tn_aload_n dX7_callFrom_32 rfl 4 rfl ?_
  refine tn_aload_n dX7_callFrom_33 rfl 4 rfl ?_
  refine tn_getI (ci := 7) (i := 2) (n := 57) (t := σ.2.1 57 a) dX7_callFrom_34 rfl lay_7 (by decide) fl7_65 ha rfl rfl (rfl) ?_
  have g25 : ((0 : Int) ≤ σ.2.1 57 a ∧ σ.2.1 57 a ≤ 11184800) ∧ ((T a).1 = 57 → σ.2.1 57 a ≤ 8) := wf_57 hw ha
  have g25x := g25.2
  replace g25 := g25.1
  have g25x := g25x hta
  refine tn_iconst dX7_callFrom_37 ?_
  refine tn_iadd dX7_callFrom_38 ?_
  refine tn_aload_n dX7_callFrom_39 rfl 4 rfl ?_
  obtain ⟨x30, hx31, hk32a, hk32b⟩ := (wf_69 hw ha).resolve_left (by have q9 := hn; omega)
  have hk32 : (T x30).1 = 31 := hk32a (by omega)
  clear hk32a hk32b
  have hk32o : OB T x30 1 := ⟨by omega, by rw [hk32]; rfl, by omega⟩
  refine tn_getR (ci := 7) (i := 14) (n := 69) (x := x30) dX7_callFrom_40 rfl lay_7 (by decide) fl7_72 ha rfl rfl (hx31) ?_
  refine tn_iload_n dX7_callFrom_43 rfl 5 rfl ?_
  refine tn_iconst dX7_callFrom_44 ?_
  refine tn_callV (M := m_X7_callFrom) (pc := 45) (ix := 117) (ci := 1) (M' := m_X1_get) (As := [.int (iI k), .int (iI 2)]) (rest := [.int (iI ((σ.2.1 57 a) + 1)), .ref a]) dX7_callFrom_45 ok_X1_get im_X1_get se_X1_get ml7_117 np_X1_get rfl rfl hk32o rfl (Nat.le_of_ble_eq_true rfl) (Nat.le_of_ble_eq_true rfl) rfl (k_X1_get (d + 2) (T := T) (σ := σ) (a := x30) (k := k) (c := 2) hk32o (by omega) (by decide) hw (by omega)) (fun r33 T35 σ34 gt36 hp => ?_)
  obtain ⟨v38, rfl, rfl, rfl, f37⟩ := hp
  clear gt36
  show Tn _ _ 48 T σ [(5, .int (iI v24)), (4, .int (iI v18)), (3, .int (iI v12)), (2, .int (iI v6)), (0, .ref a), (1, .int (iI k))] [.int (iI v38), .int (iI ((σ.2.1 57 a) + 1)), .ref a] _
  refine tn_callV (M := m_X7_callFrom) (pc := 48) (ix := 53) (ci := 7) (M' := m_X7_openCall) (As := [.int (iI ((σ.2.1 57 a) + 1)), .int (iI v38)]) (rest := []) dX7_callFrom_48 ok_X7_openCall im_X7_openCall se_X7_openCall ml7_53 np_X7_openCall rfl rfl ha rfl (Nat.le_of_ble_eq_true rfl) (Nat.le_of_ble_eq_true rfl) rfl (k_X7_openCall_57 (d) (T := T) (σ := σ) (a := a) (c := (σ.2.1 57 a) + 1) (r := v38) ha hta (by omega) (by omega) hw (by omega) (by rw [show σ.2.1 58 a = σ.2.1 58 a from rfl]; omega)) (fun r39 T41 σ40 gt42 hp => ?_)
  obtain ⟨rfl, rfl, w47, F48, f43, f44, f45⟩ := hp
  clear gt42
  show Tn _ _ 51 T σ40 [(5, .int (iI v24)), (4, .int (iI v18)), (3, .int (iI v12)), (2, .int (iI v6)), (0, .ref a), (1, .int (iI k))] [] _
  refine tn_aload_n dX7_callFrom_51 rfl 4 rfl ?_
  obtain ⟨x49, hx50, hk51, hl52⟩ : ∃ x : Nat, σ.2.1 63 a = (x : Int) ∧ AR T x 1 1728 1728 := wf_63 hw ha
  have hk51i : IA T x49 := by unfold IA; omega
  refine tn_getR (ci := 7) (i := 8) (n := 63) (x := x49) dX7_callFrom_52 rfl lay_7 (by decide) fl7_24 ha rfl rfl (rc_F F48 (Or.inl (by decide)) (by decide) (hx50)) ?_
  refine tn_aload_n dX7_callFrom_55 rfl 4 rfl ?_
  refine tn_iconst dX7_callFrom_56 ?_
  refine tn_callV (M := m_X7_callFrom) (pc := 57) (ix := 57) (ci := 7) (M' := m_X7_homeOfParam) (As := [.int (iI 0)]) (rest := [.ref x49]) dX7_callFrom_57 ok_X7_homeOfParam im_X7_homeOfParam se_X7_homeOfParam ml7_57 np_X7_homeOfParam rfl rfl ha rfl (Nat.le_of_ble_eq_true rfl) (Nat.le_of_ble_eq_true rfl) rfl (k_X7_homeOfParam (d) (T := T) (σ := σ40) (a := a) (p1 := 0) ha (by decide) w47 ) (fun r53 T55 σ54 gt56 hp => ?_)
  obtain ⟨v58, rfl, rfl, rfl, f57⟩ := hp
  clear gt56
  show Tn _ _ 60 T σ40 [(5, .int (iI v24)), (4, .int (iI v18)), (3, .int (iI v12)), (2, .int (iI v6)), (0, .ref a), (1, .int (iI k))] [.int (iI v58), .ref x49] _
  refine tn_iload_n dX7_callFrom_60 rfl 3 rfl ?_
  refine tn_callSN (M := m_X7_callFrom) (pc := 61) (ix := 61) (M' := m_X11_put) (As := [.ref x49, .int (iI v58), .int (iI v6)]) (rest := []) dX7_callFrom_61 ok_X11_put stt_X11_put nl7_61 np_X11_put rfl (Nat.le_of_ble_eq_true rfl) (Nat.le_of_ble_eq_true rfl) rfl (k_X11_put (d + 2) (T := T) (σ := σ40) (x := x49) (i := v58) (y := v6) hk51i (by omega) (by omega) (by omega) w47 (nh_k hk51 (by unfold HT; omega)) (vok_1 (by have q9 := hk51; omega) (by omega))) (fun r59 T61 σ60 gt62 hp => ?_)
  obtain ⟨rfl, rfl, w64, F65⟩ := hp
  clear gt62
  show Tn _ _ 64 T σ60 [(5, .int (iI v24)), (4, .int (iI v18)), (3, .int (iI v12)), (2, .int (iI v6)), (0, .ref a), (1, .int (iI k))] [] _
  refine tn_aload_n dX7_callFrom_64 rfl 4 rfl ?_
  refine tn_getR (ci := 7) (i := 8) (n := 63) (x := x49) dX7_callFrom_65 rfl lay_7 (by decide) fl7_24 ha rfl rfl (rc_F F65 (Or.inl (by decide)) (by decide) (rc_F F48 (Or.inl (by decide)) (by decide) (hx50))) ?_
  refine tn_aload_n dX7_callFrom_68 rfl 4 rfl ?_
  refine tn_iconst dX7_callFrom_69 ?_
  refine tn_callV (M := m_X7_callFrom) (pc := 70) (ix := 57) (ci := 7) (M' := m_X7_homeOfParam) (As := [.int (iI 1)]) (rest := [.ref x49]) dX7_callFrom_70 ok_X7_homeOfParam im_X7_homeOfParam se_X7_homeOfParam ml7_57 np_X7_homeOfParam rfl rfl ha rfl (Nat.le_of_ble_eq_true rfl) (Nat.le_of_ble_eq_true rfl) rfl (k_X7_homeOfParam (d) (T := T) (σ := σ60) (a := a) (p1 := 1) ha (by decide) w64 ) (fun r66 T68 σ67 gt69 hp => ?_)
  obtain ⟨v71, rfl, rfl, rfl, f70⟩ := hp
  clear gt69
  show Tn _ _ 73 T σ60 [(5, .int (iI v24)), (4, .int (iI v18)), (3, .int (iI v12)), (2, .int (iI v6)), (0, .ref a), (1, .int (iI k))] [.int (iI v71), .ref x49] _
  refine tn_iload_n dX7_callFrom_73 rfl 2 rfl ?_
  refine tn_callSN (M := m_X7_callFrom) (pc := 74) (ix := 61) (M' := m_X11_put) (As := [.ref x49, .int (iI v71), .int (iI v12)]) (rest := []) dX7_callFrom_74 ok_X11_put stt_X11_put nl7_61 np_X11_put rfl (Nat.le_of_ble_eq_true rfl) (Nat.le_of_ble_eq_true rfl) rfl (k_X11_put (d + 2) (T := T) (σ := σ60) (x := x49) (i := v71) (y := v12) hk51i (by omega) (by omega) (by omega) w64 (nh_k hk51 (by unfold HT; omega)) (vok_1 (by have q9 := hk51; omega) (by omega))) (fun r72 T74 σ73 gt75 hp => ?_)
  obtain ⟨rfl, rfl, w77, F78⟩ := hp
  clear gt75
  show Tn _ _ 77 T σ73 [(5, .int (iI v24)), (4, .int (iI v18)), (3, .int (iI v12)), (2, .int (iI v6)), (0, .ref a), (1, .int (iI k))] [] _
  refine tn_aload_n dX7_callFrom_77 rfl 4 rfl ?_
  refine tn_getR (ci := 7) (i := 8) (n := 63) (x := x49) dX7_callFrom_78 rfl lay_7 (by decide) fl7_24 ha rfl rfl (rc_F F78 (Or.inl (by decide)) (by decide) (rc_F F65 (Or.inl (by decide)) (by decide) (rc_F F48 (Or.inl (by decide)) (by decide) (hx50)))) ?_
  refine tn_aload_n dX7_callFrom_81 rfl 4 rfl ?_
  refine tn_iconst dX7_callFrom_82 ?_
  refine tn_callV (M := m_X7_callFrom) (pc := 83) (ix := 57) (ci := 7) (M' := m_X7_homeOfParam) (As := [.int (iI 2)]) (rest := [.ref x49]) dX7_callFrom_83 ok_X7_homeOfParam im_X7_homeOfParam se_X7_homeOfParam ml7_57 np_X7_homeOfParam rfl rfl ha rfl (Nat.le_of_ble_eq_true rfl) (Nat.le_of_ble_eq_true rfl) rfl (k_X7_homeOfParam (d) (T := T) (σ := σ73) (a := a) (p1 := 2) ha (by decide) w77 ) (fun r79 T81 σ80 gt82 hp => ?_)
  obtain ⟨v84, rfl, rfl, rfl, f83⟩ := hp
  clear gt82
  show Tn _ _ 86 T σ73 [(5, .int (iI v24)), (4, .int (iI v18)), (3, .int (iI v12)), (2, .int (iI v6)), (0, .ref a), (1, .int (iI k))] [.int (iI v84), .ref x49] _
  refine tn_iload dX7_callFrom_86 1 rfl ?_
  refine tn_callSN (M := m_X7_callFrom) (pc := 88) (ix := 61) (M' := m_X11_put) (As := [.ref x49, .int (iI v84), .int (iI v18)]) (rest := []) dX7_callFrom_88 ok_X11_put stt_X11_put nl7_61 np_X11_put rfl (Nat.le_of_ble_eq_true rfl) (Nat.le_of_ble_eq_true rfl) rfl (k_X11_put (d + 2) (T := T) (σ := σ73) (x := x49) (i := v84) (y := v18) hk51i (by omega) (by omega) (by omega) w77 (nh_k hk51 (by unfold HT; omega)) (vok_1 (by have q9 := hk51; omega) (by omega))) (fun r85 T87 σ86 gt88 hp => ?_)
  obtain ⟨rfl, rfl, w90, F91⟩ := hp
  clear gt88
  show Tn _ _ 91 T σ86 [(5, .int (iI v24)), (4, .int (iI v18)), (3, .int (iI v12)), (2, .int (iI v6)), (0, .ref a), (1, .int (iI k))] [] _
  refine tn_aload_n dX7_callFrom_91 rfl 4 rfl ?_
  refine tn_getR (ci := 7) (i := 8) (n := 63) (x := x49) dX7_callFrom_92 rfl lay_7 (by decide) fl7_24 ha rfl rfl (rc_F F91 (Or.inl (by decide)) (by decide) (rc_F F78 (Or.inl (by decide)) (by decide) (rc_F F65 (Or.inl (by decide)) (by decide) (rc_F F48 (Or.inl (by decide)) (by decide) (hx50))))) ?_
  refine tn_aload_n dX7_callFrom_95 rfl 4 rfl ?_
  refine tn_iconst dX7_callFrom_96 ?_
  refine tn_callV (M := m_X7_callFrom) (pc := 97) (ix := 57) (ci := 7) (M' := m_X7_homeOfParam) (As := [.int (iI 3)]) (rest := [.ref x49]) dX7_callFrom_97 ok_X7_homeOfParam im_X7_homeOfParam se_X7_homeOfParam ml7_57 np_X7_homeOfParam rfl rfl ha rfl (Nat.le_of_ble_eq_true rfl) (Nat.le_of_ble_eq_true rfl) rfl (k_X7_homeOfParam (d) (T := T) (σ := σ86) (a := a) (p1 := 3) ha (by decide) w90 ) (fun r92 T94 σ93 gt95 hp => ?_)
  obtain ⟨v97, rfl, rfl, rfl, f96⟩ := hp
  clear gt95
  show Tn _ _ 100 T σ86 [(5, .int (iI v24)), (4, .int (iI v18)), (3, .int (iI v12)), (2, .int (iI v6)), (0, .ref a), (1, .int (iI k))] [.int (iI v97), .ref x49] _
  refine tn_iload dX7_callFrom_100 0 rfl ?_
  refine tn_callSN (M := m_X7_callFrom) (pc := 102) (ix := 61) (M' := m_X11_put) (As := [.ref x49, .int (iI v97), .int (iI v24)]) (rest := []) dX7_callFrom_102 ok_X11_put stt_X11_put nl7_61 np_X11_put rfl (Nat.le_of_ble_eq_true rfl) (Nat.le_of_ble_eq_true rfl) rfl (k_X11_put (d + 2) (T := T) (σ := σ86) (x := x49) (i := v97) (y := v24) hk51i (by omega) (by omega) (by omega) w90 (nh_k hk51 (by unfold HT; omega)) (vok_1 (by have q9 := hk51; omega) (by omega))) (fun r98 T100 σ99 gt101 hp => ?_)
  obtain ⟨rfl, rfl, w103, F104⟩ := hp
  clear gt101
  show Tn _ _ 105 T σ99 [(5, .int (iI v24)), (4, .int (iI v18)), (3, .int (iI v12)), (2, .int (iI v6)), (0, .ref a), (1, .int (iI k))] [] _
  have q105 : σ99.2.1 57 a = σ40.2.1 57 a := rc_F F104 (Or.inl (by decide)) (by decide) (rc_F F91 (Or.inl (by decide)) (by decide) (rc_F F78 (Or.inl (by decide)) (by decide) (rc_F F65 (Or.inl (by decide)) (by decide) (rfl))))
  have q106 : σ99.2.1 58 a = σ40.2.1 58 a := rc_F F104 (Or.inl (by decide)) (by decide) (rc_F F91 (Or.inl (by decide)) (by decide) (rc_F F78 (Or.inl (by decide)) (by decide) (rc_F F65 (Or.inl (by decide)) (by decide) (rfl))))
  exact tn_vret rfl dX7_callFrom_105 ⟨rfl, rfl, w103, (((((FrC.rfl.trans (FrC.sub F48 (by decide))).trans (FrC.sub F65 (by decide))).trans (FrC.sub F78 (by decide))).trans (FrC.sub F91 (by decide))).trans (FrC.sub F104 (by decide))), by omega, by omega, (((((FA.rfl.trans f45).trans (FA.of F65 (by decide))).trans (FA.of F78 (by decide))).trans (FA.of F91 (by decide))).trans (FA.of F104 (by decide)))⟩
end
section
theorem cd_X7_giveBack : Cond.code yX7_giveBack cX7_giveBack 2 none ∈ pWW := pw6 (List.mem_of_getElem? (i := 82) rfl) rfl
abbrev m_X7_giveBack : MT := (yX7_giveBack, cX7_giveBack, 2, none)
theorem ok_X7_giveBack : pOk m_X7_giveBack := ⟨⟨cd_X7_giveBack, ini_7⟩, by decide +kernel, ⟨by decide +kernel, by decide +kernel⟩, Nat.le_of_ble_eq_true rfl⟩
theorem np_X7_giveBack : (parseMethodDescriptor yX7_giveBack.desc).map (fun d => d.parameters.length) = some 1 := by decide +kernel
theorem im_X7_giveBack : Cond.instanceMethod yX7_giveBack ∈ pWW := pw6 (List.mem_of_getElem? (i := 81) rfl) rfl
theorem se_X7_giveBack : Cond.selects RX7 yX7_giveBack yX7_giveBack ∈ pWW := pws (List.mem_map.mpr ⟨_, lw_pin 91 rfl, rfl⟩) rfl
theorem ml7_140 : Cond.methodLink RX7 140 yX7_chainOf ∈ pWW := pw6 (List.mem_of_getElem? (i := 83) rfl) rfl
theorem ml7_103 : Cond.methodLink RX7 103 yX7_place ∈ pWW := pw6 (List.mem_of_getElem? (i := 60) rfl) rfl
theorem dX7_giveBack_0 : decode cX7_giveBack 0 = .ok (.aload_n 0, 1) := by decide +kernel
theorem dX7_giveBack_1 : decode cX7_giveBack 1 = .ok (.dup, 1) := by decide +kernel
theorem dX7_giveBack_2 : decode cX7_giveBack 2 = .ok (.getfield 38, 3) := by decide +kernel
theorem dX7_giveBack_5 : decode cX7_giveBack 5 = .ok (.aload_n 0, 1) := by decide +kernel
theorem dX7_giveBack_6 : decode cX7_giveBack 6 = .ok (.aload_n 0, 1) := by decide +kernel
theorem dX7_giveBack_7 : decode cX7_giveBack 7 = .ok (.getfield 65, 3) := by decide +kernel
theorem dX7_giveBack_10 : decode cX7_giveBack 10 = .ok (.invokevirtual 140, 3) := by decide +kernel
theorem dX7_giveBack_13 : decode cX7_giveBack 13 = .ok (.isub, 1) := by decide +kernel
theorem dX7_giveBack_14 : decode cX7_giveBack 14 = .ok (.putfield 38, 3) := by decide +kernel
theorem dX7_giveBack_17 : decode cX7_giveBack 17 = .ok (.aload_n 0, 1) := by decide +kernel
theorem dX7_giveBack_18 : decode cX7_giveBack 18 = .ok (.getfield 65, 3) := by decide +kernel
theorem dX7_giveBack_21 : decode cX7_giveBack 21 = .ok (.ifCond .ne 19, 3) := by decide +kernel
theorem dX7_giveBack_40 : decode cX7_giveBack 40 = .ok (.aload_n 0, 1) := by decide +kernel
theorem dX7_giveBack_41 : decode cX7_giveBack 41 = .ok (.dup, 1) := by decide +kernel
theorem dX7_giveBack_42 : decode cX7_giveBack 42 = .ok (.getfield 65, 3) := by decide +kernel
theorem dX7_giveBack_45 : decode cX7_giveBack 45 = .ok (.iconst 1, 1) := by decide +kernel
theorem dX7_giveBack_46 : decode cX7_giveBack 46 = .ok (.isub, 1) := by decide +kernel
theorem dX7_giveBack_47 : decode cX7_giveBack 47 = .ok (.putfield 65, 3) := by decide +kernel
theorem dX7_giveBack_50 : decode cX7_giveBack 50 = .ok (.aload_n 0, 1) := by decide +kernel
theorem dX7_giveBack_51 : decode cX7_giveBack 51 = .ok (.aload_n 0, 1) := by decide +kernel
theorem dX7_giveBack_52 : decode cX7_giveBack 52 = .ok (.aload_n 0, 1) := by decide +kernel
theorem dX7_giveBack_53 : decode cX7_giveBack 53 = .ok (.getfield 9, 3) := by decide +kernel
theorem dX7_giveBack_56 : decode cX7_giveBack 56 = .ok (.aload_n 0, 1) := by decide +kernel
theorem dX7_giveBack_57 : decode cX7_giveBack 57 = .ok (.getfield 65, 3) := by decide +kernel
theorem dX7_giveBack_60 : decode cX7_giveBack 60 = .ok (.invokestatic 91, 3) := by decide +kernel
theorem dX7_giveBack_63 : decode cX7_giveBack 63 = .ok (.invokevirtual 68, 3) := by decide +kernel
theorem dX7_giveBack_66 : decode cX7_giveBack 66 = .ok (.putfield 72, 3) := by decide +kernel
theorem dX7_giveBack_69 : decode cX7_giveBack 69 = .ok (.aload_n 0, 1) := by decide +kernel
theorem dX7_giveBack_70 : decode cX7_giveBack 70 = .ok (.getfield 72, 3) := by decide +kernel
theorem dX7_giveBack_73 : decode cX7_giveBack 73 = .ok (.ifnull 32, 3) := by decide +kernel
theorem dX7_giveBack_105 : decode cX7_giveBack 105 = .ok (.aload_n 0, 1) := by decide +kernel
theorem dX7_giveBack_106 : decode cX7_giveBack 106 = .ok (.getfield 15, 3) := by decide +kernel
theorem dX7_giveBack_109 : decode cX7_giveBack 109 = .ok (.aload_n 0, 1) := by decide +kernel
theorem dX7_giveBack_110 : decode cX7_giveBack 110 = .ok (.getfield 65, 3) := by decide +kernel
theorem dX7_giveBack_113 : decode cX7_giveBack 113 = .ok (.aload_n 0, 1) := by decide +kernel
theorem dX7_giveBack_114 : decode cX7_giveBack 114 = .ok (.invokevirtual 103, 3) := by decide +kernel
theorem dX7_giveBack_117 : decode cX7_giveBack 117 = .ok (.iconst 1, 1) := by decide +kernel
theorem dX7_giveBack_118 : decode cX7_giveBack 118 = .ok (.iadd, 1) := by decide +kernel
theorem dX7_giveBack_119 : decode cX7_giveBack 119 = .ok (.invokestatic 61, 3) := by decide +kernel
theorem dX7_giveBack_122 : decode cX7_giveBack 122 = .ok (.return_, 1) := by decide +kernel
theorem dX7_giveBack_76 : decode cX7_giveBack 76 = .ok (.aload_n 0, 1) := by decide +kernel
theorem dX7_giveBack_77 : decode cX7_giveBack 77 = .ok (.getfield 24, 3) := by decide +kernel
theorem dX7_giveBack_80 : decode cX7_giveBack 80 = .ok (.aload_n 0, 1) := by decide +kernel
theorem dX7_giveBack_81 : decode cX7_giveBack 81 = .ok (.getfield 65, 3) := by decide +kernel
theorem dX7_giveBack_84 : decode cX7_giveBack 84 = .ok (.sipush 192, 3) := by decide +kernel
theorem dX7_giveBack_87 : decode cX7_giveBack 87 = .ok (.imul, 1) := by decide +kernel
theorem dX7_giveBack_88 : decode cX7_giveBack 88 = .ok (.aload_n 0, 1) := by decide +kernel
theorem dX7_giveBack_89 : decode cX7_giveBack 89 = .ok (.getfield 72, 3) := by decide +kernel
theorem dX7_giveBack_92 : decode cX7_giveBack 92 = .ok (.aload_n 0, 1) := by decide +kernel
theorem dX7_giveBack_93 : decode cX7_giveBack 93 = .ok (.invokevirtual 103, 3) := by decide +kernel
theorem dX7_giveBack_96 : decode cX7_giveBack 96 = .ok (.iconst 1, 1) := by decide +kernel
theorem dX7_giveBack_97 : decode cX7_giveBack 97 = .ok (.invokevirtual 117, 3) := by decide +kernel
theorem dX7_giveBack_100 : decode cX7_giveBack 100 = .ok (.iadd, 1) := by decide +kernel
theorem dX7_giveBack_101 : decode cX7_giveBack 101 = .ok (.iload_n 1, 1) := by decide +kernel
theorem dX7_giveBack_102 : decode cX7_giveBack 102 = .ok (.invokestatic 61, 3) := by decide +kernel
theorem dX7_giveBack_24 : decode cX7_giveBack 24 = .ok (.aload_n 0, 1) := by decide +kernel
theorem dX7_giveBack_25 : decode cX7_giveBack 25 = .ok (.iconst 2, 1) := by decide +kernel
theorem dX7_giveBack_26 : decode cX7_giveBack 26 = .ok (.putfield 34, 3) := by decide +kernel
theorem dX7_giveBack_29 : decode cX7_giveBack 29 = .ok (.aload_n 0, 1) := by decide +kernel
theorem dX7_giveBack_30 : decode cX7_giveBack 30 = .ok (.iload_n 1, 1) := by decide +kernel
theorem dX7_giveBack_31 : decode cX7_giveBack 31 = .ok (.putfield 50, 3) := by decide +kernel
theorem dX7_giveBack_34 : decode cX7_giveBack 34 = .ok (.aload_n 0, 1) := by decide +kernel
theorem dX7_giveBack_35 : decode cX7_giveBack 35 = .ok (.iconst 0, 1) := by decide +kernel
theorem dX7_giveBack_36 : decode cX7_giveBack 36 = .ok (.putfield 38, 3) := by decide +kernel
theorem dX7_giveBack_39 : decode cX7_giveBack 39 = .ok (.return_, 1) := by decide +kernel
set_option maxRecDepth 20000 in
theorem k_X7_giveBack (d : Nat) {T : CT} {σ : MS} {a : Nat} {n : Int} (ha : OB T a 7) (hta : (T a).1 = 37) (h_n : -2147483648 ≤ n ∧ n ≤ 2147483647) (hw : WT T σ) : Tn (d + 3) m_X7_giveBack 0 T σ [(0, .ref a), (1, .int (iI n))] [] (fun ro T2 σ2 => ro = none ∧ T = T2 ∧ WT T2 σ2 ∧ FrC T [56, 57, 58, 68, 69] σ σ2 ∧ (σ2.2.1 57 a ≤ σ.2.1 57 a) ∧ (FA a σ σ2)) := by
  refine tn_aload_n dX7_giveBack_0 rfl 0 rfl ?_
  refine tn_dup dX7_giveBack_1 rfl ?_
  refine tn_getI (ci := 7) (i := 3) (n := 58) (t := σ.2.1 58 a) dX7_giveBack_2 rfl lay_7 (by decide) fl7_38 ha rfl rfl (rfl) ?_
  have g1 : ((-2147483648 : Int) ≤ σ.2.1 58 a ∧ σ.2.1 58 a ≤ 2147483647) := wf_58 hw ha
  refine tn_aload_n dX7_giveBack_5 rfl 0 rfl ?_
  refine tn_aload_n dX7_giveBack_6 rfl 0 rfl ?_
  refine tn_getI (ci := 7) (i := 2) (n := 57) (t := σ.2.1 57 a) dX7_giveBack_7 rfl lay_7 (by decide) fl7_65 ha rfl rfl (rfl) ?_
  have g2 : ((0 : Int) ≤ σ.2.1 57 a ∧ σ.2.1 57 a ≤ 11184800) ∧ ((T a).1 = 57 → σ.2.1 57 a ≤ 8) := wf_57 hw ha
  have g2x := g2.2
  replace g2 := g2.1
  clear g2x
  refine tn_callV (M := m_X7_giveBack) (pc := 10) (ix := 140) (ci := 7) (M' := m_X7_chainOf) (As := [.int (iI (σ.2.1 57 a))]) (rest := [.int (iI (σ.2.1 58 a)), .ref a]) dX7_giveBack_10 ok_X7_chainOf im_X7_chainOf se_X7_chainOf ml7_140 np_X7_chainOf rfl rfl ha rfl (Nat.le_of_ble_eq_true rfl) (Nat.le_of_ble_eq_true rfl) rfl (k_X7_chainOf (d) (T := T) (σ := σ) (a := a) (p1 := σ.2.1 57 a) ha (by omega) hw ) (fun r3 T5 σ4 gt6 hp => ?_)
  obtain ⟨v8, rfl, rfl, rfl, f7⟩ := hp
  clear gt6
  show Tn _ _ 13 T σ [(0, .ref a), (1, .int (iI n))] [.int (iI v8), .int (iI (σ.2.1 58 a)), .ref a] _
  refine tn_isub dX7_giveBack_13 ?_
  refine tn_any (fun z9 g10 => ?_)
  have g10r : -2147483648 ≤ z9 ∧ z9 ≤ 2147483647 := g10
  refine tn_putV (ci := 7) (i := 3) (n := 58) (r := false) (v := z9) tyX7 tyX7_ok nmX7 dX7_giveBack_14 rfl lay_7 (by decide) fl7_38 rfl (tyX7_ok 3 (by decide)) rfl rfl rfl ha rfl rfl ?_
  refine tn_aload_n dX7_giveBack_17 rfl 0 rfl ?_
  refine tn_getI (ci := 7) (i := 2) (n := 57) (t := σ.2.1 57 a) dX7_giveBack_18 rfl lay_7 (by decide) fl7_65 ha rfl rfl (rc_o (by decide) (rfl)) ?_
  refine tn_if_ne (tgt := 40) dX7_giveBack_21 (by decide) ⟨by omega, by omega⟩ (fun h11 => ?_) (fun h11 => ?_)
  · refine tn_aload_n dX7_giveBack_40 rfl 0 rfl ?_
    refine tn_dup dX7_giveBack_41 rfl ?_
    refine tn_getI (ci := 7) (i := 2) (n := 57) (t := σ.2.1 57 a) dX7_giveBack_42 rfl lay_7 (by decide) fl7_65 ha rfl rfl (rc_o (by decide) (rfl)) ?_
    refine tn_iconst dX7_giveBack_45 ?_
    refine tn_isub dX7_giveBack_46 ?_
    refine tn_putV (ci := 7) (i := 2) (n := 57) (r := false) (v := (σ.2.1 57 a) - 1) tyX7 tyX7_ok nmX7 dX7_giveBack_47 rfl lay_7 (by decide) fl7_65 rfl (tyX7_ok 2 (by decide)) rfl rfl rfl ha rfl rfl ?_
    refine tn_aload_n dX7_giveBack_50 rfl 0 rfl ?_
    refine tn_aload_n dX7_giveBack_51 rfl 0 rfl ?_
    refine tn_aload_n dX7_giveBack_52 rfl 0 rfl ?_
    obtain ⟨x12, hx13, hk14, hl15⟩ : ∃ x : Nat, σ.2.1 59 a = (x : Int) ∧ AR T x 15 9 9 := wf_59 hw ha
    have hk14i : IA T x12 := by unfold IA; omega
    refine tn_getR (ci := 7) (i := 4) (n := 59) (x := x12) dX7_giveBack_53 rfl lay_7 (by decide) fl7_9 ha rfl rfl (rc_o (by decide) (rc_o (by decide) (hx13))) ?_
    refine tn_aload_n dX7_giveBack_56 rfl 0 rfl ?_
    refine tn_getI (ci := 7) (i := 2) (n := 57) (t := (σ.2.1 57 a) - 1) dX7_giveBack_57 rfl lay_7 (by decide) fl7_65 ha rfl rfl (ra_eq) ?_
    refine tn_callSN (M := m_X7_giveBack) (pc := 60) (ix := 91) (M' := m_X11_at) (As := [.ref x12, .int (iI ((σ.2.1 57 a) - 1))]) (rest := [.ref a, .ref a]) dX7_giveBack_60 ok_X11_at stt_X11_at nl7_91 np_X11_at rfl (Nat.le_of_ble_eq_true rfl) (Nat.le_of_ble_eq_true rfl) rfl (k_X11_at (d + 1) (T := T) (σ := (sA 57 a ((σ.2.1 57 a) - 1) (sA 58 a (z9) σ))) (x := x12) (i := (σ.2.1 57 a) - 1) hk14i (by omega) (by omega) ((hw.put (by decide) (by decide) (fo_58 (by omega))).put (by decide) (by decide) (fo_57 ⟨by omega, by omega⟩)) ) (fun r16 T18 σ17 gt19 hp => ?_)
    obtain ⟨v23, rfl, rfl, rfl, f20, f21, f22⟩ := hp
    clear gt19
    clear f21 f22
    show Tn _ _ 63 T (sA 57 a ((σ.2.1 57 a) - 1) (sA 58 a (z9) σ)) [(0, .ref a), (1, .int (iI n))] [.int (iI v23), .ref a, .ref a] _
    refine tn_callV (M := m_X7_giveBack) (pc := 63) (ix := 68) (ci := 7) (M' := m_X7_codeAt) (As := [.int (iI v23)]) (rest := [.ref a]) dX7_giveBack_63 ok_X7_codeAt im_X7_codeAt se_X7_codeAt ml7_68 np_X7_codeAt rfl rfl ha rfl (Nat.le_of_ble_eq_true rfl) (Nat.le_of_ble_eq_true rfl) rfl (k_X7_codeAt (d + 1) (T := T) (σ := (sA 57 a ((σ.2.1 57 a) - 1) (sA 58 a (z9) σ))) (a := a) (r := v23) ha (by omega) ((hw.put (by decide) (by decide) (fo_58 (by omega))).put (by decide) (by decide) (fo_57 ⟨by omega, by omega⟩)) ) (fun r24 T26 σ25 gt27 hp => ?_)
    obtain ⟨v29, rfl, rfl, rfl, rv30, f28⟩ := hp
    clear gt27
    clear f28
    rcases rv30 with rv30 | ⟨x31, rfl, hk32⟩
    · show Tn _ _ 66 T (sA 57 a ((σ.2.1 57 a) - 1) (sA 58 a (z9) σ)) [(0, .ref a), (1, .int (iI n))] (vl true v29 :: [.ref a]) _
      rw [vl_null rv30]
      refine tn_putV (ci := 7) (i := 14) (n := 69) (r := true) (v := -1) tyX7 tyX7_ok nmX7 dX7_giveBack_66 rfl lay_7 (by decide) fl7_72 rfl (tyX7_ok 14 (by decide)) (vl_null (by decide)).symm rfl rfl ha rfl rfl ?_
      refine tn_aload_n dX7_giveBack_69 rfl 0 rfl ?_
      refine tn_getN (ci := 7) (i := 14) (n := 69) dX7_giveBack_70 rfl lay_7 (by decide) fl7_72 ha rfl rfl (by rw [ra_eq]; decide) ?_
      refine tn_ifnullN (tgt := 105) dX7_giveBack_73 (by decide) ?_
      refine tn_aload_n dX7_giveBack_105 rfl 0 rfl ?_
      obtain ⟨x33, hx34, hk35, hl36⟩ : ∃ x : Nat, σ.2.1 60 a = (x : Int) ∧ AR T x 1 9 9 := wf_60 hw ha
      have hk35i : IA T x33 := by unfold IA; omega
      refine tn_getR (ci := 7) (i := 5) (n := 60) (x := x33) dX7_giveBack_106 rfl lay_7 (by decide) fl7_15 ha rfl rfl (rc_o (by decide) (rc_o (by decide) (rc_o (by decide) (hx34)))) ?_
      refine tn_aload_n dX7_giveBack_109 rfl 0 rfl ?_
      refine tn_getI (ci := 7) (i := 2) (n := 57) (t := (σ.2.1 57 a) - 1) dX7_giveBack_110 rfl lay_7 (by decide) fl7_65 ha rfl rfl (rc_o (by decide) (ra_eq)) ?_
      refine tn_aload_n dX7_giveBack_113 rfl 0 rfl ?_
      refine tn_callV (M := m_X7_giveBack) (pc := 114) (ix := 103) (ci := 7) (M' := m_X7_place) (As := []) (rest := [.int (iI ((σ.2.1 57 a) - 1)), .ref x33]) dX7_giveBack_114 ok_X7_place im_X7_place se_X7_place ml7_103 np_X7_place rfl rfl ha rfl (Nat.le_of_ble_eq_true rfl) (Nat.le_of_ble_eq_true rfl) rfl (k_X7_place (d) (T := T) (σ := (sA 69 a (-1) (sA 57 a ((σ.2.1 57 a) - 1) (sA 58 a (z9) σ)))) (a := a) ha (((hw.put (by decide) (by decide) (fo_58 (by omega))).put (by decide) (by decide) (fo_57 ⟨by omega, by omega⟩)).put (by decide) (by decide) (fo_69 (Or.inl (by decide)))) ) (fun r37 T39 σ38 gt40 hp => ?_)
      obtain ⟨v42, rfl, rfl, rfl, f41⟩ := hp
      clear gt40
      show Tn _ _ 117 T (sA 69 a (-1) (sA 57 a ((σ.2.1 57 a) - 1) (sA 58 a (z9) σ))) [(0, .ref a), (1, .int (iI n))] [.int (iI v42), .int (iI ((σ.2.1 57 a) - 1)), .ref x33] _
      refine tn_iconst dX7_giveBack_117 ?_
      refine tn_iadd dX7_giveBack_118 ?_
      refine tn_any (fun z43 g44 => ?_)
      have g44r : -2147483648 ≤ z43 ∧ z43 ≤ 2147483647 := g44
      refine tn_callSN (M := m_X7_giveBack) (pc := 119) (ix := 61) (M' := m_X11_put) (As := [.ref x33, .int (iI ((σ.2.1 57 a) - 1)), .int (iI z43)]) (rest := []) dX7_giveBack_119 ok_X11_put stt_X11_put nl7_61 np_X11_put rfl (Nat.le_of_ble_eq_true rfl) (Nat.le_of_ble_eq_true rfl) rfl (k_X11_put (d + 1) (T := T) (σ := (sA 69 a (-1) (sA 57 a ((σ.2.1 57 a) - 1) (sA 58 a (z9) σ)))) (x := x33) (i := (σ.2.1 57 a) - 1) (y := z43) hk35i (by omega) (by omega) (by omega) (((hw.put (by decide) (by decide) (fo_58 (by omega))).put (by decide) (by decide) (fo_57 ⟨by omega, by omega⟩)).put (by decide) (by decide) (fo_69 (Or.inl (by decide)))) (nh_k hk35 (by unfold HT; omega)) (vok_1 (by have q9 := hk35; omega) (by omega))) (fun r45 T47 σ46 gt48 hp => ?_)
      obtain ⟨rfl, rfl, w50, F51⟩ := hp
      clear gt48
      show Tn _ _ 122 T σ46 [(0, .ref a), (1, .int (iI n))] [] _
      have q52 : σ46.2.1 57 a = (σ.2.1 57 a) - 1 := rc_F F51 (Or.inl (by decide)) (by decide) (rc_o (by decide) (ra_eq))
      exact tn_vret rfl dX7_giveBack_122 ⟨rfl, rfl, w50, ((((FrC.rfl.put (by decide) (by decide)).put (by decide) (by decide)).put (by decide) (by decide)).trans (FrC.sub F51 (by decide))), by omega, ((((FA.rfl.put).put).put).trans (FA.of F51 (by decide)))⟩
    · show Tn _ _ 66 T (sA 57 a ((σ.2.1 57 a) - 1) (sA 58 a (z9) σ)) [(0, .ref a), (1, .int (iI n))] (vl true (x31 : Int) :: [.ref a]) _
      rw [vl_ref rfl]
      have hk32o : OB T x31 1 := hk32.1
      refine tn_putV (ci := 7) (i := 14) (n := 69) (r := true) (v := (x31 : Int)) tyX7 tyX7_ok nmX7 dX7_giveBack_66 rfl lay_7 (by decide) fl7_72 rfl (tyX7_ok 14 (by decide)) (vl_ref rfl).symm rfl rfl ha rfl rfl ?_
      refine tn_aload_n dX7_giveBack_69 rfl 0 rfl ?_
      refine tn_getR (ci := 7) (i := 14) (n := 69) (x := x31) dX7_giveBack_70 rfl lay_7 (by decide) fl7_72 ha rfl rfl (ra_eq) ?_
      refine tn_ifnull dX7_giveBack_73 ?_
      refine tn_aload_n dX7_giveBack_76 rfl 0 rfl ?_
      obtain ⟨x53, hx54, hk55, hl56⟩ : ∃ x : Nat, σ.2.1 63 a = (x : Int) ∧ AR T x 1 1728 1728 := wf_63 hw ha
      have hk55i : IA T x53 := by unfold IA; omega
      refine tn_getR (ci := 7) (i := 8) (n := 63) (x := x53) dX7_giveBack_77 rfl lay_7 (by decide) fl7_24 ha rfl rfl (rc_o (by decide) (rc_o (by decide) (rc_o (by decide) (hx54)))) ?_
      refine tn_aload_n dX7_giveBack_80 rfl 0 rfl ?_
      refine tn_getI (ci := 7) (i := 2) (n := 57) (t := (σ.2.1 57 a) - 1) dX7_giveBack_81 rfl lay_7 (by decide) fl7_65 ha rfl rfl (rc_o (by decide) (ra_eq)) ?_
      refine tn_sipush dX7_giveBack_84 (by decide) ?_
      refine tn_imul dX7_giveBack_87 ?_
      refine tn_aload_n dX7_giveBack_88 rfl 0 rfl ?_
      refine tn_getR (ci := 7) (i := 14) (n := 69) (x := x31) dX7_giveBack_89 rfl lay_7 (by decide) fl7_72 ha rfl rfl (ra_eq) ?_
      refine tn_aload_n dX7_giveBack_92 rfl 0 rfl ?_
      refine tn_callV (M := m_X7_giveBack) (pc := 93) (ix := 103) (ci := 7) (M' := m_X7_place) (As := []) (rest := [.ref x31, .int (iI (((σ.2.1 57 a) - 1) * 192)), .ref x53]) dX7_giveBack_93 ok_X7_place im_X7_place se_X7_place ml7_103 np_X7_place rfl rfl ha rfl (Nat.le_of_ble_eq_true rfl) (Nat.le_of_ble_eq_true rfl) rfl (k_X7_place (d) (T := T) (σ := (sA 69 a ((x31 : Int)) (sA 57 a ((σ.2.1 57 a) - 1) (sA 58 a (z9) σ)))) (a := a) ha (((hw.put (by decide) (by decide) (fo_58 (by omega))).put (by decide) (by decide) (fo_57 ⟨by omega, by omega⟩)).put (by decide) (by decide) (fo_69 (Or.inr ⟨_, rfl, hk32.2.1, hk32.2.2⟩))) ) (fun r57 T59 σ58 gt60 hp => ?_)
      obtain ⟨v62, rfl, rfl, rfl, f61⟩ := hp
      clear gt60
      show Tn _ _ 96 T (sA 69 a ((x31 : Int)) (sA 57 a ((σ.2.1 57 a) - 1) (sA 58 a (z9) σ))) [(0, .ref a), (1, .int (iI n))] [.int (iI v62), .ref x31, .int (iI (((σ.2.1 57 a) - 1) * 192)), .ref x53] _
      refine tn_iconst dX7_giveBack_96 ?_
      refine tn_callV (M := m_X7_giveBack) (pc := 97) (ix := 117) (ci := 1) (M' := m_X1_get) (As := [.int (iI v62), .int (iI 1)]) (rest := [.int (iI (((σ.2.1 57 a) - 1) * 192)), .ref x53]) dX7_giveBack_97 ok_X1_get im_X1_get se_X1_get ml7_117 np_X1_get rfl rfl hk32o rfl (Nat.le_of_ble_eq_true rfl) (Nat.le_of_ble_eq_true rfl) rfl (k_X1_get (d + 1) (T := T) (σ := (sA 69 a ((x31 : Int)) (sA 57 a ((σ.2.1 57 a) - 1) (sA 58 a (z9) σ)))) (a := x31) (k := v62) (c := 1) hk32o (by omega) (by decide) (((hw.put (by decide) (by decide) (fo_58 (by omega))).put (by decide) (by decide) (fo_57 ⟨by omega, by omega⟩)).put (by decide) (by decide) (fo_69 (Or.inr ⟨_, rfl, hk32.2.1, hk32.2.2⟩))) (by omega)) (fun r63 T65 σ64 gt66 hp => ?_)
      obtain ⟨v68, rfl, rfl, rfl, f67⟩ := hp
      clear gt66
      show Tn _ _ 100 T (sA 69 a ((x31 : Int)) (sA 57 a ((σ.2.1 57 a) - 1) (sA 58 a (z9) σ))) [(0, .ref a), (1, .int (iI n))] [.int (iI v68), .int (iI (((σ.2.1 57 a) - 1) * 192)), .ref x53] _
      refine tn_iadd dX7_giveBack_100 ?_
      refine tn_any (fun z69 g70 => ?_)
      have g70r : -2147483648 ≤ z69 ∧ z69 ≤ 2147483647 := g70
      refine tn_iload_n dX7_giveBack_101 rfl 1 rfl ?_
      refine tn_callSN (M := m_X7_giveBack) (pc := 102) (ix := 61) (M' := m_X11_put) (As := [.ref x53, .int (iI z69), .int (iI n)]) (rest := []) dX7_giveBack_102 ok_X11_put stt_X11_put nl7_61 np_X11_put rfl (Nat.le_of_ble_eq_true rfl) (Nat.le_of_ble_eq_true rfl) rfl (k_X11_put (d + 1) (T := T) (σ := (sA 69 a ((x31 : Int)) (sA 57 a ((σ.2.1 57 a) - 1) (sA 58 a (z9) σ)))) (x := x53) (i := z69) (y := n) hk55i (by omega) (by omega) (by omega) (((hw.put (by decide) (by decide) (fo_58 (by omega))).put (by decide) (by decide) (fo_57 ⟨by omega, by omega⟩)).put (by decide) (by decide) (fo_69 (Or.inr ⟨_, rfl, hk32.2.1, hk32.2.2⟩))) (nh_k hk55 (by unfold HT; omega)) (vok_1 (by have q9 := hk55; omega) (by omega))) (fun r71 T73 σ72 gt74 hp => ?_)
      obtain ⟨rfl, rfl, w76, F77⟩ := hp
      clear gt74
      show Tn _ _ 105 T σ72 [(0, .ref a), (1, .int (iI n))] [] _
      refine tn_aload_n dX7_giveBack_105 rfl 0 rfl ?_
      obtain ⟨x78, hx79, hk80, hl81⟩ : ∃ x : Nat, σ.2.1 60 a = (x : Int) ∧ AR T x 1 9 9 := wf_60 hw ha
      have hk80i : IA T x78 := by unfold IA; omega
      refine tn_getR (ci := 7) (i := 5) (n := 60) (x := x78) dX7_giveBack_106 rfl lay_7 (by decide) fl7_15 ha rfl rfl (rc_F F77 (Or.inl (by decide)) (by decide) (rc_o (by decide) (rc_o (by decide) (rc_o (by decide) (hx79))))) ?_
      refine tn_aload_n dX7_giveBack_109 rfl 0 rfl ?_
      refine tn_getI (ci := 7) (i := 2) (n := 57) (t := (σ.2.1 57 a) - 1) dX7_giveBack_110 rfl lay_7 (by decide) fl7_65 ha rfl rfl (rc_F F77 (Or.inl (by decide)) (by decide) (rc_o (by decide) (ra_eq))) ?_
      refine tn_aload_n dX7_giveBack_113 rfl 0 rfl ?_
      refine tn_callV (M := m_X7_giveBack) (pc := 114) (ix := 103) (ci := 7) (M' := m_X7_place) (As := []) (rest := [.int (iI ((σ.2.1 57 a) - 1)), .ref x78]) dX7_giveBack_114 ok_X7_place im_X7_place se_X7_place ml7_103 np_X7_place rfl rfl ha rfl (Nat.le_of_ble_eq_true rfl) (Nat.le_of_ble_eq_true rfl) rfl (k_X7_place (d) (T := T) (σ := σ72) (a := a) ha w76 ) (fun r82 T84 σ83 gt85 hp => ?_)
      obtain ⟨v87, rfl, rfl, rfl, f86⟩ := hp
      clear gt85
      show Tn _ _ 117 T σ72 [(0, .ref a), (1, .int (iI n))] [.int (iI v87), .int (iI ((σ.2.1 57 a) - 1)), .ref x78] _
      refine tn_iconst dX7_giveBack_117 ?_
      refine tn_iadd dX7_giveBack_118 ?_
      refine tn_any (fun z88 g89 => ?_)
      have g89r : -2147483648 ≤ z88 ∧ z88 ≤ 2147483647 := g89
      refine tn_callSN (M := m_X7_giveBack) (pc := 119) (ix := 61) (M' := m_X11_put) (As := [.ref x78, .int (iI ((σ.2.1 57 a) - 1)), .int (iI z88)]) (rest := []) dX7_giveBack_119 ok_X11_put stt_X11_put nl7_61 np_X11_put rfl (Nat.le_of_ble_eq_true rfl) (Nat.le_of_ble_eq_true rfl) rfl (k_X11_put (d + 1) (T := T) (σ := σ72) (x := x78) (i := (σ.2.1 57 a) - 1) (y := z88) hk80i (by omega) (by omega) (by omega) w76 (nh_k hk80 (by unfold HT; omega)) (vok_1 (by have q9 := hk80; omega) (by omega))) (fun r90 T92 σ91 gt93 hp => ?_)
      obtain ⟨rfl, rfl, w95, F96⟩ := hp
      clear gt93
      show Tn _ _ 122 T σ91 [(0, .ref a), (1, .int (iI n))] [] _
      have q97 : σ91.2.1 57 a = (σ.2.1 57 a) - 1 := rc_F F96 (Or.inl (by decide)) (by decide) (rc_F F77 (Or.inl (by decide)) (by decide) (rc_o (by decide) (ra_eq)))
      exact tn_vret rfl dX7_giveBack_122 ⟨rfl, rfl, w95, (((((FrC.rfl.put (by decide) (by decide)).put (by decide) (by decide)).put (by decide) (by decide)).trans (FrC.sub F77 (by decide))).trans (FrC.sub F96 (by decide))), by omega, (((((FA.rfl.put).put).put).trans (FA.of F77 (by decide))).trans (FA.of F96 (by decide)))⟩
  · refine tn_aload_n dX7_giveBack_24 rfl 0 rfl ?_
    refine tn_iconst dX7_giveBack_25 ?_
    refine tn_putV (ci := 7) (i := 1) (n := 56) (r := false) (v := 2) tyX7 tyX7_ok nmX7 dX7_giveBack_26 rfl lay_7 (by decide) fl7_34 rfl (tyX7_ok 1 (by decide)) rfl rfl rfl ha rfl rfl ?_
    refine tn_aload_n dX7_giveBack_29 rfl 0 rfl ?_
    refine tn_iload_n dX7_giveBack_30 rfl 1 rfl ?_
    refine tn_putV (ci := 7) (i := 13) (n := 68) (r := false) (v := n) tyX7 tyX7_ok nmX7 dX7_giveBack_31 rfl lay_7 (by decide) fl7_50 rfl (tyX7_ok 13 (by decide)) rfl rfl rfl ha rfl rfl ?_
    refine tn_aload_n dX7_giveBack_34 rfl 0 rfl ?_
    refine tn_iconst dX7_giveBack_35 ?_
    refine tn_putV (ci := 7) (i := 3) (n := 58) (r := false) (v := 0) tyX7 tyX7_ok nmX7 dX7_giveBack_36 rfl lay_7 (by decide) fl7_38 rfl (tyX7_ok 3 (by decide)) rfl rfl rfl ha rfl rfl ?_
    have q98 : (sA 58 a (0) (sA 68 a (n) (sA 56 a (2) (sA 58 a (z9) σ)))).2.1 57 a = σ.2.1 57 a := rc_o (by decide) (rc_o (by decide) (rc_o (by decide) (rc_o (by decide) (rfl))))
    exact tn_vret rfl dX7_giveBack_39 ⟨rfl, rfl, ((((hw.put (by decide) (by decide) (fo_58 (by omega))).put (by decide) (by decide) (fo_56 (by omega))).put (by decide) (by decide) (fo_68 (by omega))).put (by decide) (by decide) (fo_58 (by omega))), ((((FrC.rfl.put (by decide) (by decide)).put (by decide) (by decide)).put (by decide) (by decide)).put (by decide) (by decide)), by omega, ((((FA.rfl.put).put).put).put)⟩
end
section
set_option maxRecDepth 20000 in
theorem k_X7_giveBack_57 (d : Nat) {T : CT} {σ : MS} {a : Nat} {n : Int} (ha : OB T a 7) (hta : (T a).1 = 57) (h_n : -2147483648 ≤ n ∧ n ≤ 2147483647) (hw : WT T σ) (hp : σ.2.1 58 a = σ.2.1 57 a + 1) : Tn (d + 3) m_X7_giveBack 0 T σ [(0, .ref a), (1, .int (iI n))] [] (fun ro T2 σ2 => ro = none ∧ T = T2 ∧ WT T2 σ2 ∧ FrC T [56, 57, 58, 68, 69] σ σ2 ∧ (PIv σ2 a) ∧ (FA a σ σ2)) := by
  refine tn_aload_n dX7_giveBack_0 rfl 0 rfl ?_
  refine tn_dup dX7_giveBack_1 rfl ?_
  refine tn_getI (ci := 7) (i := 3) (n := 58) (t := σ.2.1 58 a) dX7_giveBack_2 rfl lay_7 (by decide) fl7_38 ha rfl rfl (rfl) ?_
  have g1 : ((-2147483648 : Int) ≤ σ.2.1 58 a ∧ σ.2.1 58 a ≤ 2147483647) := wf_58 hw ha
  refine tn_aload_n dX7_giveBack_5 rfl 0 rfl ?_
  refine tn_aload_n dX7_giveBack_6 rfl 0 rfl ?_
  refine tn_getI (ci := 7) (i := 2) (n := 57) (t := σ.2.1 57 a) dX7_giveBack_7 rfl lay_7 (by decide) fl7_65 ha rfl rfl (rfl) ?_
  have g2 : ((0 : Int) ≤ σ.2.1 57 a ∧ σ.2.1 57 a ≤ 11184800) ∧ ((T a).1 = 57 → σ.2.1 57 a ≤ 8) := wf_57 hw ha
  have g2x := g2.2
  replace g2 := g2.1
  have g2x := g2x hta
  refine tn_callV (M := m_X7_giveBack) (pc := 10) (ix := 140) (ci := 7) (M' := m_X7_chainOf) (As := [.int (iI (σ.2.1 57 a))]) (rest := [.int (iI (σ.2.1 58 a)), .ref a]) dX7_giveBack_10 ok_X7_chainOf im_X7_chainOf se_X7_chainOf ml7_140 np_X7_chainOf rfl rfl ha rfl (Nat.le_of_ble_eq_true rfl) (Nat.le_of_ble_eq_true rfl) rfl (k_X7_chainOf_57 (d) (T := T) (σ := σ) (a := a) (p1 := σ.2.1 57 a) ha hta (by omega) hw ) (fun r3 T5 σ4 gt6 hp => ?_)
  obtain ⟨v9, rfl, rfl, rfl, f7, f8⟩ := hp
  clear gt6
  show Tn _ _ 13 T σ [(0, .ref a), (1, .int (iI n))] [.int (iI v9), .int (iI (σ.2.1 58 a)), .ref a] _
  refine tn_isub dX7_giveBack_13 ?_
  refine tn_putV (ci := 7) (i := 3) (n := 58) (r := false) (v := (σ.2.1 58 a) - v9) tyX7 tyX7_ok nmX7 dX7_giveBack_14 rfl lay_7 (by decide) fl7_38 rfl (tyX7_ok 3 (by decide)) rfl rfl rfl ha rfl rfl ?_
  refine tn_aload_n dX7_giveBack_17 rfl 0 rfl ?_
  refine tn_getI (ci := 7) (i := 2) (n := 57) (t := σ.2.1 57 a) dX7_giveBack_18 rfl lay_7 (by decide) fl7_65 ha rfl rfl (rc_o (by decide) (rfl)) ?_
  refine tn_if_ne (tgt := 40) dX7_giveBack_21 (by decide) ⟨by omega, by omega⟩ (fun h10 => ?_) (fun h10 => ?_)
  · refine tn_aload_n dX7_giveBack_40 rfl 0 rfl ?_
    refine tn_dup dX7_giveBack_41 rfl ?_
    refine tn_getI (ci := 7) (i := 2) (n := 57) (t := σ.2.1 57 a) dX7_giveBack_42 rfl lay_7 (by decide) fl7_65 ha rfl rfl (rc_o (by decide) (rfl)) ?_
    refine tn_iconst dX7_giveBack_45 ?_
    refine tn_isub dX7_giveBack_46 ?_
    refine tn_putV (ci := 7) (i := 2) (n := 57) (r := false) (v := (σ.2.1 57 a) - 1) tyX7 tyX7_ok nmX7 dX7_giveBack_47 rfl lay_7 (by decide) fl7_65 rfl (tyX7_ok 2 (by decide)) rfl rfl rfl ha rfl rfl ?_
    refine tn_aload_n dX7_giveBack_50 rfl 0 rfl ?_
    refine tn_aload_n dX7_giveBack_51 rfl 0 rfl ?_
    refine tn_aload_n dX7_giveBack_52 rfl 0 rfl ?_
    obtain ⟨x11, hx12, hk13, hl14⟩ : ∃ x : Nat, σ.2.1 59 a = (x : Int) ∧ AR T x 15 9 9 := wf_59 hw ha
    have hk13i : IA T x11 := by unfold IA; omega
    refine tn_getR (ci := 7) (i := 4) (n := 59) (x := x11) dX7_giveBack_53 rfl lay_7 (by decide) fl7_9 ha rfl rfl (rc_o (by decide) (rc_o (by decide) (hx12))) ?_
    refine tn_aload_n dX7_giveBack_56 rfl 0 rfl ?_
    refine tn_getI (ci := 7) (i := 2) (n := 57) (t := (σ.2.1 57 a) - 1) dX7_giveBack_57 rfl lay_7 (by decide) fl7_65 ha rfl rfl (ra_eq) ?_
    refine tn_callSN (M := m_X7_giveBack) (pc := 60) (ix := 91) (M' := m_X11_at) (As := [.ref x11, .int (iI ((σ.2.1 57 a) - 1))]) (rest := [.ref a, .ref a]) dX7_giveBack_60 ok_X11_at stt_X11_at nl7_91 np_X11_at rfl (Nat.le_of_ble_eq_true rfl) (Nat.le_of_ble_eq_true rfl) rfl (k_X11_at (d + 1) (T := T) (σ := (sA 57 a ((σ.2.1 57 a) - 1) (sA 58 a ((σ.2.1 58 a) - v9) σ))) (x := x11) (i := (σ.2.1 57 a) - 1) hk13i (by omega) (by omega) ((hw.put (by decide) (by decide) (fo_58 (by omega))).put (by decide) (by decide) (fo_57 ⟨by omega, by omega⟩)) ) (fun r15 T17 σ16 gt18 hp => ?_)
    obtain ⟨v22, rfl, rfl, rfl, f19, f20, f21⟩ := hp
    clear gt18
    clear f20 f21
    show Tn _ _ 63 T (sA 57 a ((σ.2.1 57 a) - 1) (sA 58 a ((σ.2.1 58 a) - v9) σ)) [(0, .ref a), (1, .int (iI n))] [.int (iI v22), .ref a, .ref a] _
    refine tn_callV (M := m_X7_giveBack) (pc := 63) (ix := 68) (ci := 7) (M' := m_X7_codeAt) (As := [.int (iI v22)]) (rest := [.ref a]) dX7_giveBack_63 ok_X7_codeAt im_X7_codeAt se_X7_codeAt ml7_68 np_X7_codeAt rfl rfl ha rfl (Nat.le_of_ble_eq_true rfl) (Nat.le_of_ble_eq_true rfl) rfl (k_X7_codeAt (d + 1) (T := T) (σ := (sA 57 a ((σ.2.1 57 a) - 1) (sA 58 a ((σ.2.1 58 a) - v9) σ))) (a := a) (r := v22) ha (by omega) ((hw.put (by decide) (by decide) (fo_58 (by omega))).put (by decide) (by decide) (fo_57 ⟨by omega, by omega⟩)) ) (fun r23 T25 σ24 gt26 hp => ?_)
    obtain ⟨v28, rfl, rfl, rfl, rv29, f27⟩ := hp
    clear gt26
    clear f27
    rcases rv29 with rv29 | ⟨x30, rfl, hk31⟩
    · show Tn _ _ 66 T (sA 57 a ((σ.2.1 57 a) - 1) (sA 58 a ((σ.2.1 58 a) - v9) σ)) [(0, .ref a), (1, .int (iI n))] (vl true v28 :: [.ref a]) _
      rw [vl_null rv29]
      refine tn_putV (ci := 7) (i := 14) (n := 69) (r := true) (v := -1) tyX7 tyX7_ok nmX7 dX7_giveBack_66 rfl lay_7 (by decide) fl7_72 rfl (tyX7_ok 14 (by decide)) (vl_null (by decide)).symm rfl rfl ha rfl rfl ?_
      refine tn_aload_n dX7_giveBack_69 rfl 0 rfl ?_
      refine tn_getN (ci := 7) (i := 14) (n := 69) dX7_giveBack_70 rfl lay_7 (by decide) fl7_72 ha rfl rfl (by rw [ra_eq]; decide) ?_
      refine tn_ifnullN (tgt := 105) dX7_giveBack_73 (by decide) ?_
      refine tn_aload_n dX7_giveBack_105 rfl 0 rfl ?_
      obtain ⟨x32, hx33, hk34, hl35⟩ : ∃ x : Nat, σ.2.1 60 a = (x : Int) ∧ AR T x 1 9 9 := wf_60 hw ha
      have hk34i : IA T x32 := by unfold IA; omega
      refine tn_getR (ci := 7) (i := 5) (n := 60) (x := x32) dX7_giveBack_106 rfl lay_7 (by decide) fl7_15 ha rfl rfl (rc_o (by decide) (rc_o (by decide) (rc_o (by decide) (hx33)))) ?_
      refine tn_aload_n dX7_giveBack_109 rfl 0 rfl ?_
      refine tn_getI (ci := 7) (i := 2) (n := 57) (t := (σ.2.1 57 a) - 1) dX7_giveBack_110 rfl lay_7 (by decide) fl7_65 ha rfl rfl (rc_o (by decide) (ra_eq)) ?_
      refine tn_aload_n dX7_giveBack_113 rfl 0 rfl ?_
      refine tn_callV (M := m_X7_giveBack) (pc := 114) (ix := 103) (ci := 7) (M' := m_X7_place) (As := []) (rest := [.int (iI ((σ.2.1 57 a) - 1)), .ref x32]) dX7_giveBack_114 ok_X7_place im_X7_place se_X7_place ml7_103 np_X7_place rfl rfl ha rfl (Nat.le_of_ble_eq_true rfl) (Nat.le_of_ble_eq_true rfl) rfl (k_X7_place (d) (T := T) (σ := (sA 69 a (-1) (sA 57 a ((σ.2.1 57 a) - 1) (sA 58 a ((σ.2.1 58 a) - v9) σ)))) (a := a) ha (((hw.put (by decide) (by decide) (fo_58 (by omega))).put (by decide) (by decide) (fo_57 ⟨by omega, by omega⟩)).put (by decide) (by decide) (fo_69 (Or.inl (by decide)))) ) (fun r36 T38 σ37 gt39 hp => ?_)
      obtain ⟨v41, rfl, rfl, rfl, f40⟩ := hp
      clear gt39
      show Tn _ _ 117 T (sA 69 a (-1) (sA 57 a ((σ.2.1 57 a) - 1) (sA 58 a ((σ.2.1 58 a) - v9) σ))) [(0, .ref a), (1, .int (iI n))] [.int (iI v41), .int (iI ((σ.2.1 57 a) - 1)), .ref x32] _
      refine tn_iconst dX7_giveBack_117 ?_
      refine tn_iadd dX7_giveBack_118 ?_
      refine tn_any (fun z42 g43 => ?_)
      have g43r : -2147483648 ≤ z42 ∧ z42 ≤ 2147483647 := g43
      refine tn_callSN (M := m_X7_giveBack) (pc := 119) (ix := 61) (M' := m_X11_put) (As := [.ref x32, .int (iI ((σ.2.1 57 a) - 1)), .int (iI z42)]) (rest := []) dX7_giveBack_119 ok_X11_put stt_X11_put nl7_61 np_X11_put rfl (Nat.le_of_ble_eq_true rfl) (Nat.le_of_ble_eq_true rfl) rfl (k_X11_put (d + 1) (T := T) (σ := (sA 69 a (-1) (sA 57 a ((σ.2.1 57 a) - 1) (sA 58 a ((σ.2.1 58 a) - v9) σ)))) (x := x32) (i := (σ.2.1 57 a) - 1) (y := z42) hk34i (by omega) (by omega) (by omega) (((hw.put (by decide) (by decide) (fo_58 (by omega))).put (by decide) (by decide) (fo_57 ⟨by omega, by omega⟩)).put (by decide) (by decide) (fo_69 (Or.inl (by decide)))) (nh_k hk34 (by unfold HT; omega)) (vok_1 (by have q9 := hk34; omega) (by omega))) (fun r44 T46 σ45 gt47 hp => ?_)
      obtain ⟨rfl, rfl, w49, F50⟩ := hp
      clear gt47
      show Tn _ _ 122 T σ45 [(0, .ref a), (1, .int (iI n))] [] _
      have q51 : σ45.2.1 56 a = σ.2.1 56 a := rc_F F50 (Or.inl (by decide)) (by decide) (rc_o (by decide) (rc_o (by decide) (rc_o (by decide) (rfl))))
      have q52 : σ45.2.1 57 a = (σ.2.1 57 a) - 1 := rc_F F50 (Or.inl (by decide)) (by decide) (rc_o (by decide) (ra_eq))
      have q53 : σ45.2.1 58 a = (σ.2.1 58 a) - v9 := rc_F F50 (Or.inl (by decide)) (by decide) (rc_o (by decide) (rc_o (by decide) (ra_eq)))
      exact tn_vret rfl dX7_giveBack_122 ⟨rfl, rfl, w49, ((((FrC.rfl.put (by decide) (by decide)).put (by decide) (by decide)).put (by decide) (by decide)).trans (FrC.sub F50 (by decide))), by unfold PIv; rw [q51, q52, q53]; omega, ((((FA.rfl.put).put).put).trans (FA.of F50 (by decide)))⟩
    · show Tn _ _ 66 T (sA 57 a ((σ.2.1 57 a) - 1) (sA 58 a ((σ.2.1 58 a) - v9) σ)) [(0, .ref a), (1, .int (iI n))] (vl true (x30 : Int) :: [.ref a]) _
      rw [vl_ref rfl]
      have hk31o : OB T x30 1 := hk31.1
      refine tn_putV (ci := 7) (i := 14) (n := 69) (r := true) (v := (x30 : Int)) tyX7 tyX7_ok nmX7 dX7_giveBack_66 rfl lay_7 (by decide) fl7_72 rfl (tyX7_ok 14 (by decide)) (vl_ref rfl).symm rfl rfl ha rfl rfl ?_
      refine tn_aload_n dX7_giveBack_69 rfl 0 rfl ?_
      refine tn_getR (ci := 7) (i := 14) (n := 69) (x := x30) dX7_giveBack_70 rfl lay_7 (by decide) fl7_72 ha rfl rfl (ra_eq) ?_
      refine tn_ifnull dX7_giveBack_73 ?_
      refine tn_aload_n dX7_giveBack_76 rfl 0 rfl ?_
      obtain ⟨x54, hx55, hk56, hl57⟩ : ∃ x : Nat, σ.2.1 63 a = (x : Int) ∧ AR T x 1 1728 1728 := wf_63 hw ha
      have hk56i : IA T x54 := by unfold IA; omega
      refine tn_getR (ci := 7) (i := 8) (n := 63) (x := x54) dX7_giveBack_77 rfl lay_7 (by decide) fl7_24 ha rfl rfl (rc_o (by decide) (rc_o (by decide) (rc_o (by decide) (hx55)))) ?_
      refine tn_aload_n dX7_giveBack_80 rfl 0 rfl ?_
      refine tn_getI (ci := 7) (i := 2) (n := 57) (t := (σ.2.1 57 a) - 1) dX7_giveBack_81 rfl lay_7 (by decide) fl7_65 ha rfl rfl (rc_o (by decide) (ra_eq)) ?_
      refine tn_sipush dX7_giveBack_84 (by decide) ?_
      refine tn_imul dX7_giveBack_87 ?_
      refine tn_aload_n dX7_giveBack_88 rfl 0 rfl ?_
      refine tn_getR (ci := 7) (i := 14) (n := 69) (x := x30) dX7_giveBack_89 rfl lay_7 (by decide) fl7_72 ha rfl rfl (ra_eq) ?_
      refine tn_aload_n dX7_giveBack_92 rfl 0 rfl ?_
      refine tn_callV (M := m_X7_giveBack) (pc := 93) (ix := 103) (ci := 7) (M' := m_X7_place) (As := []) (rest := [.ref x30, .int (iI (((σ.2.1 57 a) - 1) * 192)), .ref x54]) dX7_giveBack_93 ok_X7_place im_X7_place se_X7_place ml7_103 np_X7_place rfl rfl ha rfl (Nat.le_of_ble_eq_true rfl) (Nat.le_of_ble_eq_true rfl) rfl (k_X7_place (d) (T := T) (σ := (sA 69 a ((x30 : Int)) (sA 57 a ((σ.2.1 57 a) - 1) (sA 58 a ((σ.2.1 58 a) - v9) σ)))) (a := a) ha (((hw.put (by decide) (by decide) (fo_58 (by omega))).put (by decide) (by decide) (fo_57 ⟨by omega, by omega⟩)).put (by decide) (by decide) (fo_69 (Or.inr ⟨_, rfl, hk31.2.1, hk31.2.2⟩))) ) (fun r58 T60 σ59 gt61 hp => ?_)
      obtain ⟨v63, rfl, rfl, rfl, f62⟩ := hp
      clear gt61
      show Tn _ _ 96 T (sA 69 a ((x30 : Int)) (sA 57 a ((σ.2.1 57 a) - 1) (sA 58 a ((σ.2.1 58 a) - v9) σ))) [(0, .ref a), (1, .int (iI n))] [.int (iI v63), .ref x30, .int (iI (((σ.2.1 57 a) - 1) * 192)), .ref x54] _
      refine tn_iconst dX7_giveBack_96 ?_
      refine tn_callV (M := m_X7_giveBack) (pc := 97) (ix := 117) (ci := 1) (M' := m_X1_get) (As := [.int (iI v63), .int (iI 1)]) (rest := [.int (iI (((σ.2.1 57 a) - 1) * 192)), .ref x54]) dX7_giveBack_97 ok_X1_get im_X1_get se_X1_get ml7_117 np_X1_get rfl rfl hk31o rfl (Nat.le_of_ble_eq_true rfl) (Nat.le_of_ble_eq_true rfl) rfl (k_X1_get (d + 1) (T := T) (σ := (sA 69 a ((x30 : Int)) (sA 57 a ((σ.2.1 57 a) - 1) (sA 58 a ((σ.2.1 58 a) - v9) σ)))) (a := x30) (k := v63) (c := 1) hk31o (by omega) (by decide) (((hw.put (by decide) (by decide) (fo_58 (by omega))).put (by decide) (by decide) (fo_57 ⟨by omega, by omega⟩)).put (by decide) (by decide) (fo_69 (Or.inr ⟨_, rfl, hk31.2.1, hk31.2.2⟩))) (by omega)) (fun r64 T66 σ65 gt67 hp => ?_)
      obtain ⟨v69, rfl, rfl, rfl, f68⟩ := hp
      clear gt67
      show Tn _ _ 100 T (sA 69 a ((x30 : Int)) (sA 57 a ((σ.2.1 57 a) - 1) (sA 58 a ((σ.2.1 58 a) - v9) σ))) [(0, .ref a), (1, .int (iI n))] [.int (iI v69), .int (iI (((σ.2.1 57 a) - 1) * 192)), .ref x54] _
      refine tn_iadd dX7_giveBack_100 ?_
      refine tn_any (fun z70 g71 => ?_)
      have g71r : -2147483648 ≤ z70 ∧ z70 ≤ 2147483647 := g71
      refine tn_iload_n dX7_giveBack_101 rfl 1 rfl ?_
      refine tn_callSN (M := m_X7_giveBack) (pc := 102) (ix := 61) (M' := m_X11_put) (As := [.ref x54, .int (iI z70), .int (iI n)]) (rest := []) dX7_giveBack_102 ok_X11_put stt_X11_put nl7_61 np_X11_put rfl (Nat.le_of_ble_eq_true rfl) (Nat.le_of_ble_eq_true rfl) rfl (k_X11_put (d + 1) (T := T) (σ := (sA 69 a ((x30 : Int)) (sA 57 a ((σ.2.1 57 a) - 1) (sA 58 a ((σ.2.1 58 a) - v9) σ)))) (x := x54) (i := z70) (y := n) hk56i (by omega) (by omega) (by omega) (((hw.put (by decide) (by decide) (fo_58 (by omega))).put (by decide) (by decide) (fo_57 ⟨by omega, by omega⟩)).put (by decide) (by decide) (fo_69 (Or.inr ⟨_, rfl, hk31.2.1, hk31.2.2⟩))) (nh_k hk56 (by unfold HT; omega)) (vok_1 (by have q9 := hk56; omega) (by omega))) (fun r72 T74 σ73 gt75 hp => ?_)
      obtain ⟨rfl, rfl, w77, F78⟩ := hp
      clear gt75
      show Tn _ _ 105 T σ73 [(0, .ref a), (1, .int (iI n))] [] _
      refine tn_aload_n dX7_giveBack_105 rfl 0 rfl ?_
      obtain ⟨x79, hx80, hk81, hl82⟩ : ∃ x : Nat, σ.2.1 60 a = (x : Int) ∧ AR T x 1 9 9 := wf_60 hw ha
      have hk81i : IA T x79 := by unfold IA; omega
      refine tn_getR (ci := 7) (i := 5) (n := 60) (x := x79) dX7_giveBack_106 rfl lay_7 (by decide) fl7_15 ha rfl rfl (rc_F F78 (Or.inl (by decide)) (by decide) (rc_o (by decide) (rc_o (by decide) (rc_o (by decide) (hx80))))) ?_
      refine tn_aload_n dX7_giveBack_109 rfl 0 rfl ?_
      refine tn_getI (ci := 7) (i := 2) (n := 57) (t := (σ.2.1 57 a) - 1) dX7_giveBack_110 rfl lay_7 (by decide) fl7_65 ha rfl rfl (rc_F F78 (Or.inl (by decide)) (by decide) (rc_o (by decide) (ra_eq))) ?_
      refine tn_aload_n dX7_giveBack_113 rfl 0 rfl ?_
      refine tn_callV (M := m_X7_giveBack) (pc := 114) (ix := 103) (ci := 7) (M' := m_X7_place) (As := []) (rest := [.int (iI ((σ.2.1 57 a) - 1)), .ref x79]) dX7_giveBack_114 ok_X7_place im_X7_place se_X7_place ml7_103 np_X7_place rfl rfl ha rfl (Nat.le_of_ble_eq_true rfl) (Nat.le_of_ble_eq_true rfl) rfl (k_X7_place (d) (T := T) (σ := σ73) (a := a) ha w77 ) (fun r83 T85 σ84 gt86 hp => ?_)
      obtain ⟨v88, rfl, rfl, rfl, f87⟩ := hp
      clear gt86
      show Tn _ _ 117 T σ73 [(0, .ref a), (1, .int (iI n))] [.int (iI v88), .int (iI ((σ.2.1 57 a) - 1)), .ref x79] _
      refine tn_iconst dX7_giveBack_117 ?_
      refine tn_iadd dX7_giveBack_118 ?_
      refine tn_any (fun z89 g90 => ?_)
      have g90r : -2147483648 ≤ z89 ∧ z89 ≤ 2147483647 := g90
      refine tn_callSN (M := m_X7_giveBack) (pc := 119) (ix := 61) (M' := m_X11_put) (As := [.ref x79, .int (iI ((σ.2.1 57 a) - 1)), .int (iI z89)]) (rest := []) dX7_giveBack_119 ok_X11_put stt_X11_put nl7_61 np_X11_put rfl (Nat.le_of_ble_eq_true rfl) (Nat.le_of_ble_eq_true rfl) rfl (k_X11_put (d + 1) (T := T) (σ := σ73) (x := x79) (i := (σ.2.1 57 a) - 1) (y := z89) hk81i (by omega) (by omega) (by omega) w77 (nh_k hk81 (by unfold HT; omega)) (vok_1 (by have q9 := hk81; omega) (by omega))) (fun r91 T93 σ92 gt94 hp => ?_)
      obtain ⟨rfl, rfl, w96, F97⟩ := hp
      clear gt94
      show Tn _ _ 122 T σ92 [(0, .ref a), (1, .int (iI n))] [] _
      have q98 : σ92.2.1 56 a = σ.2.1 56 a := rc_F F97 (Or.inl (by decide)) (by decide) (rc_F F78 (Or.inl (by decide)) (by decide) (rc_o (by decide) (rc_o (by decide) (rc_o (by decide) (rfl)))))
      have q99 : σ92.2.1 57 a = (σ.2.1 57 a) - 1 := rc_F F97 (Or.inl (by decide)) (by decide) (rc_F F78 (Or.inl (by decide)) (by decide) (rc_o (by decide) (ra_eq)))
      have q100 : σ92.2.1 58 a = (σ.2.1 58 a) - v9 := rc_F F97 (Or.inl (by decide)) (by decide) (rc_F F78 (Or.inl (by decide)) (by decide) (rc_o (by decide) (rc_o (by decide) (ra_eq))))
      exact tn_vret rfl dX7_giveBack_122 ⟨rfl, rfl, w96, (((((FrC.rfl.put (by decide) (by decide)).put (by decide) (by decide)).put (by decide) (by decide)).trans (FrC.sub F78 (by decide))).trans (FrC.sub F97 (by decide))), by unfold PIv; rw [q98, q99, q100]; omega, (((((FA.rfl.put).put).put).trans (FA.of F78 (by decide))).trans (FA.of F97 (by decide)))⟩
  · refine tn_aload_n dX7_giveBack_24 rfl 0 rfl ?_
    refine tn_iconst dX7_giveBack_25 ?_
    refine tn_putV (ci := 7) (i := 1) (n := 56) (r := false) (v := 2) tyX7 tyX7_ok nmX7 dX7_giveBack_26 rfl lay_7 (by decide) fl7_34 rfl (tyX7_ok 1 (by decide)) rfl rfl rfl ha rfl rfl ?_
    refine tn_aload_n dX7_giveBack_29 rfl 0 rfl ?_
    refine tn_iload_n dX7_giveBack_30 rfl 1 rfl ?_
    refine tn_putV (ci := 7) (i := 13) (n := 68) (r := false) (v := n) tyX7 tyX7_ok nmX7 dX7_giveBack_31 rfl lay_7 (by decide) fl7_50 rfl (tyX7_ok 13 (by decide)) rfl rfl rfl ha rfl rfl ?_
    refine tn_aload_n dX7_giveBack_34 rfl 0 rfl ?_
    refine tn_iconst dX7_giveBack_35 ?_
    refine tn_putV (ci := 7) (i := 3) (n := 58) (r := false) (v := 0) tyX7 tyX7_ok nmX7 dX7_giveBack_36 rfl lay_7 (by decide) fl7_38 rfl (tyX7_ok 3 (by decide)) rfl rfl rfl ha rfl rfl ?_
    have q101 : (sA 58 a (0) (sA 68 a (n) (sA 56 a (2) (sA 58 a ((σ.2.1 58 a) - v9) σ)))).2.1 56 a = 2 := rc_o (by decide) (rc_o (by decide) (ra_eq))
    have q102 : (sA 58 a (0) (sA 68 a (n) (sA 56 a (2) (sA 58 a ((σ.2.1 58 a) - v9) σ)))).2.1 57 a = σ.2.1 57 a := rc_o (by decide) (rc_o (by decide) (rc_o (by decide) (rc_o (by decide) (rfl))))
    have q103 : (sA 58 a (0) (sA 68 a (n) (sA 56 a (2) (sA 58 a ((σ.2.1 58 a) - v9) σ)))).2.1 58 a = 0 := ra_eq
    exact tn_vret rfl dX7_giveBack_39 ⟨rfl, rfl, ((((hw.put (by decide) (by decide) (fo_58 (by omega))).put (by decide) (by decide) (fo_56 (by omega))).put (by decide) (by decide) (fo_68 (by omega))).put (by decide) (by decide) (fo_58 (by omega))), ((((FrC.rfl.put (by decide) (by decide)).put (by decide) (by decide)).put (by decide) (by decide)).put (by decide) (by decide)), by unfold PIv; rw [q101, q102, q103]; omega, ((((FA.rfl.put).put).put).put)⟩
end
