theorem lay_0 : ∀ w ∈ u_ws RX0 TX0 5, w ∈ pWW := pLay (fun k hk => match k, hk with
  | 0, _ => pw6 (List.mem_of_getElem? (i := 190) rfl) rfl
  | 1, _ => pw6 (List.mem_of_getElem? (i := 192) rfl) rfl
  | 2, _ => pw6 (List.mem_of_getElem? (i := 194) rfl) rfl
  | 3, _ => pw6 (List.mem_of_getElem? (i := 196) rfl) rfl
  | 4, _ => pw6 (List.mem_of_getElem? (i := 198) rfl) rfl
  | k + 5, h => absurd h (by omega))
theorem lay_1 : ∀ w ∈ u_ws RX1 TX1 12, w ∈ pWW := pLay (fun k hk => match k, hk with
  | 0, _ => pw1 (List.mem_of_getElem? (i := 128) rfl) rfl
  | 1, _ => pw1 (List.mem_of_getElem? (i := 130) rfl) rfl
  | 2, _ => pw1 (List.mem_of_getElem? (i := 132) rfl) rfl
  | 3, _ => pw1 (List.mem_of_getElem? (i := 134) rfl) rfl
  | 4, _ => pw1 (List.mem_of_getElem? (i := 136) rfl) rfl
  | 5, _ => pw1 (List.mem_of_getElem? (i := 138) rfl) rfl
  | 6, _ => pw1 (List.mem_of_getElem? (i := 140) rfl) rfl
  | 7, _ => pw1 (List.mem_of_getElem? (i := 142) rfl) rfl
  | 8, _ => pw1 (List.mem_of_getElem? (i := 144) rfl) rfl
  | 9, _ => pw1 (List.mem_of_getElem? (i := 146) rfl) rfl
  | 10, _ => pw1 (List.mem_of_getElem? (i := 148) rfl) rfl
  | 11, _ => pw1 (List.mem_of_getElem? (i := 150) rfl) rfl
  | k + 12, h => absurd h (by omega))
theorem lay_2 : ∀ w ∈ u_ws RX2 TX2 1, w ∈ pWW := pLay (fun k hk => match k, hk with
  | 0, _ => pw2 (List.mem_of_getElem? (i := 52) rfl) rfl
  | k + 1, h => absurd h (by omega))
theorem lay_3 : ∀ w ∈ u_ws RX3 TX3 5, w ∈ pWW := pLay (fun k hk => match k, hk with
  | 0, _ => pw1 (List.mem_of_getElem? (i := 227) rfl) rfl
  | 1, _ => pw1 (List.mem_of_getElem? (i := 229) rfl) rfl
  | 2, _ => pw1 (List.mem_of_getElem? (i := 231) rfl) rfl
  | 3, _ => pw1 (List.mem_of_getElem? (i := 233) rfl) rfl
  | 4, _ => pw1 (List.mem_of_getElem? (i := 235) rfl) rfl
  | k + 5, h => absurd h (by omega))
theorem lay_4 : ∀ w ∈ u_ws RX4 TX4 10, w ∈ pWW := pLay (fun k hk => match k, hk with
  | 0, _ => pw2 (List.mem_of_getElem? (i := 71) rfl) rfl
  | 1, _ => pw2 (List.mem_of_getElem? (i := 73) rfl) rfl
  | 2, _ => pw2 (List.mem_of_getElem? (i := 75) rfl) rfl
  | 3, _ => pw2 (List.mem_of_getElem? (i := 77) rfl) rfl
  | 4, _ => pw2 (List.mem_of_getElem? (i := 79) rfl) rfl
  | 5, _ => pw2 (List.mem_of_getElem? (i := 81) rfl) rfl
  | 6, _ => pw2 (List.mem_of_getElem? (i := 83) rfl) rfl
  | 7, _ => pw2 (List.mem_of_getElem? (i := 85) rfl) rfl
  | 8, _ => pw2 (List.mem_of_getElem? (i := 87) rfl) rfl
  | 9, _ => pw2 (List.mem_of_getElem? (i := 89) rfl) rfl
  | k + 10, h => absurd h (by omega))
theorem lay_5 : ∀ w ∈ u_ws RX5 TX5 19, w ∈ pWW := pLay (fun k hk => match k, hk with
  | 0, _ => pw1 (List.mem_of_getElem? (i := 175) rfl) rfl
  | 1, _ => pw1 (List.mem_of_getElem? (i := 177) rfl) rfl
  | 2, _ => pw1 (List.mem_of_getElem? (i := 179) rfl) rfl
  | 3, _ => pw1 (List.mem_of_getElem? (i := 181) rfl) rfl
  | 4, _ => pw1 (List.mem_of_getElem? (i := 183) rfl) rfl
  | 5, _ => pw1 (List.mem_of_getElem? (i := 185) rfl) rfl
  | 6, _ => pw1 (List.mem_of_getElem? (i := 187) rfl) rfl
  | 7, _ => pw1 (List.mem_of_getElem? (i := 189) rfl) rfl
  | 8, _ => pw1 (List.mem_of_getElem? (i := 191) rfl) rfl
  | 9, _ => pw1 (List.mem_of_getElem? (i := 193) rfl) rfl
  | 10, _ => pw1 (List.mem_of_getElem? (i := 195) rfl) rfl
  | 11, _ => pw1 (List.mem_of_getElem? (i := 197) rfl) rfl
  | 12, _ => pw1 (List.mem_of_getElem? (i := 199) rfl) rfl
  | 13, _ => pw1 (List.mem_of_getElem? (i := 201) rfl) rfl
  | 14, _ => pw1 (List.mem_of_getElem? (i := 203) rfl) rfl
  | 15, _ => pw1 (List.mem_of_getElem? (i := 205) rfl) rfl
  | 16, _ => pw1 (List.mem_of_getElem? (i := 207) rfl) rfl
  | 17, _ => pw1 (List.mem_of_getElem? (i := 209) rfl) rfl
  | 18, _ => pw1 (List.mem_of_getElem? (i := 211) rfl) rfl
  | k + 19, h => absurd h (by omega))
theorem lay_6 : ∀ w ∈ u_ws RX6 TX6 3, w ∈ pWW := pLay (fun k hk => match k, hk with
  | 0, _ => pw2 (List.mem_of_getElem? (i := 38) rfl) rfl
  | 1, _ => pw2 (List.mem_of_getElem? (i := 40) rfl) rfl
  | 2, _ => pw2 (List.mem_of_getElem? (i := 42) rfl) rfl
  | k + 3, h => absurd h (by omega))
theorem lay_7 : ∀ w ∈ u_ws RX7 TX7 17, w ∈ pWW := pLay (fun k hk => match k, hk with
  | 0, _ => pw2 (List.mem_of_getElem? (i := 161) rfl) rfl
  | 1, _ => pw2 (List.mem_of_getElem? (i := 163) rfl) rfl
  | 2, _ => pw2 (List.mem_of_getElem? (i := 165) rfl) rfl
  | 3, _ => pw2 (List.mem_of_getElem? (i := 167) rfl) rfl
  | 4, _ => pw2 (List.mem_of_getElem? (i := 169) rfl) rfl
  | 5, _ => pw2 (List.mem_of_getElem? (i := 171) rfl) rfl
  | 6, _ => pw2 (List.mem_of_getElem? (i := 173) rfl) rfl
  | 7, _ => pw2 (List.mem_of_getElem? (i := 175) rfl) rfl
  | 8, _ => pw2 (List.mem_of_getElem? (i := 177) rfl) rfl
  | 9, _ => pw2 (List.mem_of_getElem? (i := 179) rfl) rfl
  | 10, _ => pw2 (List.mem_of_getElem? (i := 181) rfl) rfl
  | 11, _ => pw2 (List.mem_of_getElem? (i := 183) rfl) rfl
  | 12, _ => pw2 (List.mem_of_getElem? (i := 185) rfl) rfl
  | 13, _ => pw2 (List.mem_of_getElem? (i := 187) rfl) rfl
  | 14, _ => pw2 (List.mem_of_getElem? (i := 189) rfl) rfl
  | 15, _ => pw2 (List.mem_of_getElem? (i := 191) rfl) rfl
  | 16, _ => pw2 (List.mem_of_getElem? (i := 193) rfl) rfl
  | k + 17, h => absurd h (by omega))
theorem lay_8 : ∀ w ∈ u_ws RX8 TX8 9, w ∈ pWW := pLay (fun k hk => match k, hk with
  | 0, _ => pw2 (List.mem_of_getElem? (i := 107) rfl) rfl
  | 1, _ => pw2 (List.mem_of_getElem? (i := 109) rfl) rfl
  | 2, _ => pw2 (List.mem_of_getElem? (i := 111) rfl) rfl
  | 3, _ => pw2 (List.mem_of_getElem? (i := 113) rfl) rfl
  | 4, _ => pw2 (List.mem_of_getElem? (i := 115) rfl) rfl
  | 5, _ => pw2 (List.mem_of_getElem? (i := 117) rfl) rfl
  | 6, _ => pw2 (List.mem_of_getElem? (i := 119) rfl) rfl
  | 7, _ => pw2 (List.mem_of_getElem? (i := 121) rfl) rfl
  | 8, _ => pw2 (List.mem_of_getElem? (i := 123) rfl) rfl
  | k + 9, h => absurd h (by omega))
theorem lay_9 : ∀ w ∈ u_ws RX9 TX9 7, w ∈ pWW := pLay (fun k hk => match k, hk with
  | 0, _ => pw1 (List.mem_of_getElem? (i := 54) rfl) rfl
  | 1, _ => pw1 (List.mem_of_getElem? (i := 56) rfl) rfl
  | 2, _ => pw1 (List.mem_of_getElem? (i := 58) rfl) rfl
  | 3, _ => pw1 (List.mem_of_getElem? (i := 60) rfl) rfl
  | 4, _ => pw1 (List.mem_of_getElem? (i := 62) rfl) rfl
  | 5, _ => pw1 (List.mem_of_getElem? (i := 64) rfl) rfl
  | 6, _ => pw1 (List.mem_of_getElem? (i := 66) rfl) rfl
  | k + 7, h => absurd h (by omega))
theorem lay_10 : ∀ w ∈ u_ws RX10 TX10 7, w ∈ pWW := pLay (fun k hk => match k, hk with
  | 0, _ => pw2 (List.mem_of_getElem? (i := 14) rfl) rfl
  | 1, _ => pw2 (List.mem_of_getElem? (i := 16) rfl) rfl
  | 2, _ => pw2 (List.mem_of_getElem? (i := 18) rfl) rfl
  | 3, _ => pw2 (List.mem_of_getElem? (i := 20) rfl) rfl
  | 4, _ => pw2 (List.mem_of_getElem? (i := 22) rfl) rfl
  | 5, _ => pw2 (List.mem_of_getElem? (i := 24) rfl) rfl
  | 6, _ => pw2 (List.mem_of_getElem? (i := 26) rfl) rfl
  | k + 7, h => absurd h (by omega))
theorem lay_11 : ∀ w ∈ u_ws RX11 TX11 16, w ∈ pWW := pLay (fun k hk => match k, hk with
  | 0, _ => pw2 (List.mem_of_getElem? (i := 212) rfl) rfl
  | 1, _ => pw2 (List.mem_of_getElem? (i := 214) rfl) rfl
  | 2, _ => pw2 (List.mem_of_getElem? (i := 216) rfl) rfl
  | 3, _ => pw2 (List.mem_of_getElem? (i := 218) rfl) rfl
  | 4, _ => pw2 (List.mem_of_getElem? (i := 220) rfl) rfl
  | 5, _ => pw2 (List.mem_of_getElem? (i := 222) rfl) rfl
  | 6, _ => pw2 (List.mem_of_getElem? (i := 224) rfl) rfl
  | 7, _ => pw2 (List.mem_of_getElem? (i := 226) rfl) rfl
  | 8, _ => pw2 (List.mem_of_getElem? (i := 228) rfl) rfl
  | 9, _ => pw2 (List.mem_of_getElem? (i := 230) rfl) rfl
  | 10, _ => pw2 (List.mem_of_getElem? (i := 232) rfl) rfl
  | 11, _ => pw2 (List.mem_of_getElem? (i := 234) rfl) rfl
  | 12, _ => pw2 (List.mem_of_getElem? (i := 236) rfl) rfl
  | 13, _ => pw2 (List.mem_of_getElem? (i := 238) rfl) rfl
  | 14, _ => pw3 (List.mem_of_getElem? (i := 0) rfl) rfl
  | 15, _ => pw3 (List.mem_of_getElem? (i := 2) rfl) rfl
  | k + 16, h => absurd h (by omega))
theorem cd_X11_isFive : Cond.code yX11_isFive cX11_isFive 1 (some .boolean) ∈ pWW := pw4 (List.mem_of_getElem? (i := 208) rfl) rfl
theorem ini_11 : Cond.initialized RX11 ∈ pWW := pw1 (List.mem_of_getElem? (i := 1) rfl) rfl
abbrev m_X11_isFive : MT := (yX11_isFive, cX11_isFive, 1, (some .boolean))
theorem ok_X11_isFive : pOk m_X11_isFive := ⟨⟨cd_X11_isFive, ini_11⟩, by decide +kernel, ⟨by decide +kernel, by decide +kernel⟩, Nat.le_of_ble_eq_true rfl⟩
theorem np_X11_isFive : (parseMethodDescriptor yX11_isFive.desc).map (fun d => d.parameters.length) = some 1 := by decide +kernel
theorem stt_X11_isFive : Cond.static yX11_isFive ∈ pWW := pw4 (List.mem_of_getElem? (i := 207) rfl) rfl
theorem dX11_isFive_0 : decode cX11_isFive 0 = .ok (.iload_n 0, 1) := by decide +kernel
theorem dX11_isFive_1 : decode cX11_isFive 1 = .ok (.iconst 1, 1) := by decide +kernel
theorem dX11_isFive_2 : decode cX11_isFive 2 = .ok (.if_icmp .lt 12, 3) := by decide +kernel
theorem dX11_isFive_14 : decode cX11_isFive 14 = .ok (.iconst 0, 1) := by decide +kernel
theorem dX11_isFive_15 : decode cX11_isFive 15 = .ok (.ireturn, 1) := by decide +kernel
theorem dX11_isFive_5 : decode cX11_isFive 5 = .ok (.iload_n 0, 1) := by decide +kernel
theorem dX11_isFive_6 : decode cX11_isFive 6 = .ok (.iconst 5, 1) := by decide +kernel
theorem dX11_isFive_7 : decode cX11_isFive 7 = .ok (.if_icmp .gt 7, 3) := by decide +kernel
theorem dX11_isFive_10 : decode cX11_isFive 10 = .ok (.iconst 1, 1) := by decide +kernel
theorem dX11_isFive_11 : decode cX11_isFive 11 = .ok (.goto 4, 3) := by decide +kernel
set_option maxHeartbeats 4000000 in
set_option maxRecDepth 20000 in
theorem k_X11_isFive (d : Nat) {T : CT} {σ : MS} {k : Int} (h_k : -2147483648 ≤ k ∧ k ≤ 2147483647) (hw : WT T σ) : Tn (d + 1) m_X11_isFive 0 T σ [(0, .int (iI k))] [] (fun ro σ2 => ∃ v : Int, ro = some (.int (iI v)) ∧ σ = σ2 ∧ (v = 0 ∨ v = 1)) := by
  refine tn_iload_n dX11_isFive_0 rfl 0 rfl ?_
  refine tn_iconst dX11_isFive_1 ?_
  refine tn_icmp_lt (tgt := 14) dX11_isFive_2 (by decide) ⟨by omega, by omega⟩ ⟨by decide, by decide⟩ (fun h1 => ?_) (fun h1 => ?_)
  · refine tn_iconst dX11_isFive_14 ?_
    exact tn_zret (v := 0) rfl (by decide) dX11_isFive_15 ⟨_, rfl, rfl, by omega⟩
  · refine tn_iload_n dX11_isFive_5 rfl 0 rfl ?_
    refine tn_iconst dX11_isFive_6 ?_
    refine tn_icmp_gt (tgt := 14) dX11_isFive_7 (by decide) ⟨by omega, by omega⟩ ⟨by decide, by decide⟩ (fun h2 => ?_) (fun h2 => ?_)
    · refine tn_iconst dX11_isFive_14 ?_
      exact tn_zret (v := 0) rfl (by decide) dX11_isFive_15 ⟨_, rfl, rfl, by omega⟩
    · refine tn_iconst dX11_isFive_10 ?_
      refine tn_goto (tgt := 15) dX11_isFive_11 (by decide) ?_
      exact tn_zret (v := 1) rfl (by decide) dX11_isFive_15 ⟨_, rfl, rfl, by omega⟩
theorem cd_X11_isPure : Cond.code yX11_isPure cX11_isPure 1 (some .boolean) ∈ pWW := pw4 (List.mem_of_getElem? (i := 4) rfl) rfl
abbrev m_X11_isPure : MT := (yX11_isPure, cX11_isPure, 1, (some .boolean))
theorem ok_X11_isPure : pOk m_X11_isPure := ⟨⟨cd_X11_isPure, ini_11⟩, by decide +kernel, ⟨by decide +kernel, by decide +kernel⟩, Nat.le_of_ble_eq_true rfl⟩
theorem np_X11_isPure : (parseMethodDescriptor yX11_isPure.desc).map (fun d => d.parameters.length) = some 1 := by decide +kernel
theorem stt_X11_isPure : Cond.static yX11_isPure ∈ pWW := pw4 (List.mem_of_getElem? (i := 3) rfl) rfl
theorem dX11_isPure_0 : decode cX11_isPure 0 = .ok (.iload_n 0, 1) := by decide +kernel
theorem dX11_isPure_1 : decode cX11_isPure 1 = .ok (.ifCond .lt 12, 3) := by decide +kernel
theorem dX11_isPure_13 : decode cX11_isPure 13 = .ok (.iconst 0, 1) := by decide +kernel
theorem dX11_isPure_14 : decode cX11_isPure 14 = .ok (.ireturn, 1) := by decide +kernel
theorem dX11_isPure_4 : decode cX11_isPure 4 = .ok (.iload_n 0, 1) := by decide +kernel
theorem dX11_isPure_5 : decode cX11_isPure 5 = .ok (.iconst 5, 1) := by decide +kernel
theorem dX11_isPure_6 : decode cX11_isPure 6 = .ok (.if_icmp .gt 7, 3) := by decide +kernel
theorem dX11_isPure_9 : decode cX11_isPure 9 = .ok (.iconst 1, 1) := by decide +kernel
theorem dX11_isPure_10 : decode cX11_isPure 10 = .ok (.goto 4, 3) := by decide +kernel
set_option maxHeartbeats 4000000 in
set_option maxRecDepth 20000 in
theorem k_X11_isPure (d : Nat) {T : CT} {σ : MS} {k : Int} (h_k : -2147483648 ≤ k ∧ k ≤ 2147483647) (hw : WT T σ) : Tn (d + 1) m_X11_isPure 0 T σ [(0, .int (iI k))] [] (fun ro σ2 => ∃ v : Int, ro = some (.int (iI v)) ∧ σ = σ2 ∧ (v = 0 ∨ v = 1)) := by
  refine tn_iload_n dX11_isPure_0 rfl 0 rfl ?_
  refine tn_if_lt (tgt := 13) dX11_isPure_1 (by decide) ⟨by omega, by omega⟩ (fun h1 => ?_) (fun h1 => ?_)
  · refine tn_iconst dX11_isPure_13 ?_
    exact tn_zret (v := 0) rfl (by decide) dX11_isPure_14 ⟨_, rfl, rfl, by omega⟩
  · refine tn_iload_n dX11_isPure_4 rfl 0 rfl ?_
    refine tn_iconst dX11_isPure_5 ?_
    refine tn_icmp_gt (tgt := 13) dX11_isPure_6 (by decide) ⟨by omega, by omega⟩ ⟨by decide, by decide⟩ (fun h2 => ?_) (fun h2 => ?_)
    · refine tn_iconst dX11_isPure_13 ?_
      exact tn_zret (v := 0) rfl (by decide) dX11_isPure_14 ⟨_, rfl, rfl, by omega⟩
    · refine tn_iconst dX11_isPure_9 ?_
      refine tn_goto (tgt := 14) dX11_isPure_10 (by decide) ?_
      exact tn_zret (v := 1) rfl (by decide) dX11_isPure_14 ⟨_, rfl, rfl, by omega⟩
theorem cd_X11_isAct : Cond.code yX11_isAct cX11_isAct 1 (some .boolean) ∈ pWW := pw4 (List.mem_of_getElem? (i := 69) rfl) rfl
abbrev m_X11_isAct : MT := (yX11_isAct, cX11_isAct, 1, (some .boolean))
theorem ok_X11_isAct : pOk m_X11_isAct := ⟨⟨cd_X11_isAct, ini_11⟩, by decide +kernel, ⟨by decide +kernel, by decide +kernel⟩, Nat.le_of_ble_eq_true rfl⟩
theorem np_X11_isAct : (parseMethodDescriptor yX11_isAct.desc).map (fun d => d.parameters.length) = some 1 := by decide +kernel
theorem stt_X11_isAct : Cond.static yX11_isAct ∈ pWW := pw4 (List.mem_of_getElem? (i := 68) rfl) rfl
theorem dX11_isAct_0 : decode cX11_isAct 0 = .ok (.iload_n 0, 1) := by decide +kernel
theorem dX11_isAct_1 : decode cX11_isAct 1 = .ok (.ifCond .lt 13, 3) := by decide +kernel
theorem dX11_isAct_14 : decode cX11_isAct 14 = .ok (.iconst 0, 1) := by decide +kernel
theorem dX11_isAct_15 : decode cX11_isAct 15 = .ok (.ireturn, 1) := by decide +kernel
theorem dX11_isAct_4 : decode cX11_isAct 4 = .ok (.iload_n 0, 1) := by decide +kernel
theorem dX11_isAct_5 : decode cX11_isAct 5 = .ok (.bipush 10, 2) := by decide +kernel
theorem dX11_isAct_7 : decode cX11_isAct 7 = .ok (.if_icmp .gt 7, 3) := by decide +kernel
theorem dX11_isAct_10 : decode cX11_isAct 10 = .ok (.iconst 1, 1) := by decide +kernel
theorem dX11_isAct_11 : decode cX11_isAct 11 = .ok (.goto 4, 3) := by decide +kernel
set_option maxHeartbeats 4000000 in
set_option maxRecDepth 20000 in
theorem k_X11_isAct (d : Nat) {T : CT} {σ : MS} {k : Int} (h_k : -2147483648 ≤ k ∧ k ≤ 2147483647) (hw : WT T σ) : Tn (d + 1) m_X11_isAct 0 T σ [(0, .int (iI k))] [] (fun ro σ2 => ∃ v : Int, ro = some (.int (iI v)) ∧ σ = σ2 ∧ (v = 0 ∨ v = 1)) := by
  refine tn_iload_n dX11_isAct_0 rfl 0 rfl ?_
  refine tn_if_lt (tgt := 14) dX11_isAct_1 (by decide) ⟨by omega, by omega⟩ (fun h1 => ?_) (fun h1 => ?_)
  · refine tn_iconst dX11_isAct_14 ?_
    exact tn_zret (v := 0) rfl (by decide) dX11_isAct_15 ⟨_, rfl, rfl, by omega⟩
  · refine tn_iload_n dX11_isAct_4 rfl 0 rfl ?_
    refine tn_bipush dX11_isAct_5 (by decide) ?_
    refine tn_icmp_gt (tgt := 14) dX11_isAct_7 (by decide) ⟨by omega, by omega⟩ ⟨by decide, by decide⟩ (fun h2 => ?_) (fun h2 => ?_)
    · refine tn_iconst dX11_isAct_14 ?_
      exact tn_zret (v := 0) rfl (by decide) dX11_isAct_15 ⟨_, rfl, rfl, by omega⟩
    · refine tn_iconst dX11_isAct_10 ?_
      refine tn_goto (tgt := 15) dX11_isAct_11 (by decide) ?_
      exact tn_zret (v := 1) rfl (by decide) dX11_isAct_15 ⟨_, rfl, rfl, by omega⟩
theorem cd_X11_at : Cond.code yX11_at cX11_at 2 (some .int) ∈ pWW := pw3 (List.mem_of_getElem? (i := 79) rfl) rfl
abbrev m_X11_at : MT := (yX11_at, cX11_at, 2, (some .int))
theorem ok_X11_at : pOk m_X11_at := ⟨⟨cd_X11_at, ini_11⟩, by decide +kernel, ⟨by decide +kernel, by decide +kernel⟩, Nat.le_of_ble_eq_true rfl⟩
theorem np_X11_at : (parseMethodDescriptor yX11_at.desc).map (fun d => d.parameters.length) = some 2 := by decide +kernel
theorem stt_X11_at : Cond.static yX11_at ∈ pWW := pw3 (List.mem_of_getElem? (i := 78) rfl) rfl
theorem dX11_at_0 : decode cX11_at 0 = .ok (.aload_n 0, 1) := by decide +kernel
theorem dX11_at_1 : decode cX11_at 1 = .ok (.ifnull 19, 3) := by decide +kernel
theorem dX11_at_4 : decode cX11_at 4 = .ok (.iload_n 1, 1) := by decide +kernel
theorem dX11_at_5 : decode cX11_at 5 = .ok (.ifCond .lt 15, 3) := by decide +kernel
theorem dX11_at_20 : decode cX11_at 20 = .ok (.iconst 0, 1) := by decide +kernel
theorem dX11_at_21 : decode cX11_at 21 = .ok (.ireturn, 1) := by decide +kernel
theorem dX11_at_8 : decode cX11_at 8 = .ok (.iload_n 1, 1) := by decide +kernel
theorem dX11_at_9 : decode cX11_at 9 = .ok (.aload_n 0, 1) := by decide +kernel
theorem dX11_at_10 : decode cX11_at 10 = .ok (.arraylength, 1) := by decide +kernel
theorem dX11_at_11 : decode cX11_at 11 = .ok (.if_icmp .ge 9, 3) := by decide +kernel
theorem dX11_at_14 : decode cX11_at 14 = .ok (.aload_n 0, 1) := by decide +kernel
theorem dX11_at_15 : decode cX11_at 15 = .ok (.iload_n 1, 1) := by decide +kernel
theorem dX11_at_16 : decode cX11_at 16 = .ok (.iaload, 1) := by decide +kernel
theorem dX11_at_17 : decode cX11_at 17 = .ok (.goto 4, 3) := by decide +kernel
set_option maxHeartbeats 4000000 in
set_option maxRecDepth 20000 in
theorem k_X11_at (d : Nat) {T : CT} {σ : MS} {x : Nat} {i : Int} (h_x : IA T x) (h_i : -2147483648 ≤ i ∧ i ≤ 2147483647) (hw : WT T σ) (hln : (T x).2 ≤ 2147483647) : Tn (d + 1) m_X11_at 0 T σ [(0, .ref x), (1, .int (iI i))] [] (fun ro σ2 => ∃ v : Int, ro = some (.int (iI v)) ∧ σ = σ2 ∧ (-2147483648 ≤ v ∧ v ≤ 2147483647) ∧ ((T x).1 = 11 → 0 ≤ v ∧ v ≤ 12)) := by
  refine tn_aload_n dX11_at_0 rfl 0 rfl ?_
  refine tn_ifnull dX11_at_1 ?_
  refine tn_iload_n dX11_at_4 rfl 1 rfl ?_
  refine tn_if_lt (tgt := 20) dX11_at_5 (by decide) ⟨by omega, by omega⟩ (fun h1 => ?_) (fun h1 => ?_)
  · refine tn_iconst dX11_at_20 ?_
    exact tn_iret rfl dX11_at_21 ⟨_, rfl, rfl, by omega, by omega⟩
  · refine tn_iload_n dX11_at_8 rfl 1 rfl ?_
    refine tn_aload_n dX11_at_9 rfl 0 rfl ?_
    refine tn_alenX dX11_at_10 (Or.inl h_x) ?_
    refine tn_icmp_ge (tgt := 20) dX11_at_11 (by decide) ⟨by omega, by omega⟩ ⟨by omega, by omega⟩ (fun h2 => ?_) (fun h2 => ?_)
    · refine tn_iconst dX11_at_20 ?_
      exact tn_iret rfl dX11_at_21 ⟨_, rfl, rfl, by omega, by omega⟩
    · refine tn_aload_n dX11_at_14 rfl 0 rfl ?_
      refine tn_iload_n dX11_at_15 rfl 1 rfl ?_
      refine tn_ialdX (z := i) hw dX11_at_16 h_x (by omega) (by omega) (by omega) (fun v3 g4 g4k => ?_)
      refine tn_goto (tgt := 21) dX11_at_17 (by decide) ?_
      exact tn_iret rfl dX11_at_21 ⟨_, rfl, rfl, by omega, by assumption⟩
theorem cd_X11_put : Cond.code yX11_put cX11_put 3 none ∈ pWW := pw3 (List.mem_of_getElem? (i := 56) rfl) rfl
abbrev m_X11_put : MT := (yX11_put, cX11_put, 3, none)
theorem ok_X11_put : pOk m_X11_put := ⟨⟨cd_X11_put, ini_11⟩, by decide +kernel, ⟨by decide +kernel, by decide +kernel⟩, Nat.le_of_ble_eq_true rfl⟩
theorem np_X11_put : (parseMethodDescriptor yX11_put.desc).map (fun d => d.parameters.length) = some 3 := by decide +kernel
theorem stt_X11_put : Cond.static yX11_put ∈ pWW := pw3 (List.mem_of_getElem? (i := 55) rfl) rfl
theorem dX11_put_0 : decode cX11_put 0 = .ok (.aload_n 0, 1) := by decide +kernel
theorem dX11_put_1 : decode cX11_put 1 = .ok (.ifnull 17, 3) := by decide +kernel
theorem dX11_put_4 : decode cX11_put 4 = .ok (.iload_n 1, 1) := by decide +kernel
theorem dX11_put_5 : decode cX11_put 5 = .ok (.ifCond .lt 13, 3) := by decide +kernel
theorem dX11_put_18 : decode cX11_put 18 = .ok (.return_, 1) := by decide +kernel
theorem dX11_put_8 : decode cX11_put 8 = .ok (.iload_n 1, 1) := by decide +kernel
theorem dX11_put_9 : decode cX11_put 9 = .ok (.aload_n 0, 1) := by decide +kernel
theorem dX11_put_10 : decode cX11_put 10 = .ok (.arraylength, 1) := by decide +kernel
theorem dX11_put_11 : decode cX11_put 11 = .ok (.if_icmp .ge 7, 3) := by decide +kernel
theorem dX11_put_14 : decode cX11_put 14 = .ok (.aload_n 0, 1) := by decide +kernel
theorem dX11_put_15 : decode cX11_put 15 = .ok (.iload_n 1, 1) := by decide +kernel
theorem dX11_put_16 : decode cX11_put 16 = .ok (.iload_n 2, 1) := by decide +kernel
theorem dX11_put_17 : decode cX11_put 17 = .ok (.iastore, 1) := by decide +kernel
set_option maxHeartbeats 4000000 in
set_option maxRecDepth 20000 in
theorem k_X11_put (d : Nat) {T : CT} {σ : MS} {x : Nat} {i : Int} {y : Int} (h_x : IA T x) (h_i : -2147483648 ≤ i ∧ i ≤ 2147483647) (h_y : -2147483648 ≤ y ∧ y ≤ 2147483647) (hw : WT T σ) (hln : (T x).2 ≤ 2147483647) (h11 : (T x).1 = 11 → 0 ≤ y ∧ y ≤ 12) : Tn (d + 1) m_X11_put 0 T σ [(0, .ref x), (1, .int (iI i)), (2, .int (iI y))] [] (fun ro σ2 => ro = none ∧ WT T σ2 ∧ FrC [] σ σ2) := by
  refine tn_aload_n dX11_put_0 rfl 0 rfl ?_
  refine tn_ifnull dX11_put_1 ?_
  refine tn_iload_n dX11_put_4 rfl 1 rfl ?_
  refine tn_if_lt (tgt := 18) dX11_put_5 (by decide) ⟨by omega, by omega⟩ (fun h1 => ?_) (fun h1 => ?_)
  · exact tn_vret rfl dX11_put_18 ⟨rfl, hw, FrC.rfl⟩
  · refine tn_iload_n dX11_put_8 rfl 1 rfl ?_
    refine tn_aload_n dX11_put_9 rfl 0 rfl ?_
    refine tn_alenX dX11_put_10 (Or.inl h_x) ?_
    refine tn_icmp_ge (tgt := 18) dX11_put_11 (by decide) ⟨by omega, by omega⟩ ⟨by omega, by omega⟩ (fun h2 => ?_) (fun h2 => ?_)
    · exact tn_vret rfl dX11_put_18 ⟨rfl, hw, FrC.rfl⟩
    · refine tn_aload_n dX11_put_14 rfl 0 rfl ?_
      refine tn_iload_n dX11_put_15 rfl 1 rfl ?_
      refine tn_iload_n dX11_put_16 rfl 2 rfl ?_
      refine tn_iast (z := i) (v := y) dX11_put_17 h_x (by omega) (by omega) (by omega) ?_
      exact tn_vret rfl dX11_put_18 ⟨rfl, (hw.arr (by have q := h_x; unfold IA at q; omega) h11 ⟨by omega, by omega⟩), (FrC.rfl.arr)⟩
theorem cd_X11_bitsAt : Cond.code yX11_bitsAt cX11_bitsAt 2 (some .long) ∈ pWW := pw5 (List.mem_of_getElem? (i := 39) rfl) rfl
abbrev m_X11_bitsAt : MT := (yX11_bitsAt, cX11_bitsAt, 2, (some .long))
theorem ok_X11_bitsAt : pOk m_X11_bitsAt := ⟨⟨cd_X11_bitsAt, ini_11⟩, by decide +kernel, ⟨by decide +kernel, by decide +kernel⟩, Nat.le_of_ble_eq_true rfl⟩
theorem np_X11_bitsAt : (parseMethodDescriptor yX11_bitsAt.desc).map (fun d => d.parameters.length) = some 2 := by decide +kernel
theorem stt_X11_bitsAt : Cond.static yX11_bitsAt ∈ pWW := pw5 (List.mem_of_getElem? (i := 38) rfl) rfl
theorem dX11_bitsAt_0 : decode cX11_bitsAt 0 = .ok (.aload_n 0, 1) := by decide +kernel
theorem dX11_bitsAt_1 : decode cX11_bitsAt 1 = .ok (.ifnull 19, 3) := by decide +kernel
theorem dX11_bitsAt_4 : decode cX11_bitsAt 4 = .ok (.iload_n 1, 1) := by decide +kernel
theorem dX11_bitsAt_5 : decode cX11_bitsAt 5 = .ok (.ifCond .lt 15, 3) := by decide +kernel
theorem dX11_bitsAt_20 : decode cX11_bitsAt 20 = .ok (.lconst 0, 1) := by decide +kernel
theorem dX11_bitsAt_21 : decode cX11_bitsAt 21 = .ok (.lreturn, 1) := by decide +kernel
theorem dX11_bitsAt_8 : decode cX11_bitsAt 8 = .ok (.iload_n 1, 1) := by decide +kernel
theorem dX11_bitsAt_9 : decode cX11_bitsAt 9 = .ok (.aload_n 0, 1) := by decide +kernel
theorem dX11_bitsAt_10 : decode cX11_bitsAt 10 = .ok (.arraylength, 1) := by decide +kernel
theorem dX11_bitsAt_11 : decode cX11_bitsAt 11 = .ok (.if_icmp .ge 9, 3) := by decide +kernel
theorem dX11_bitsAt_14 : decode cX11_bitsAt 14 = .ok (.aload_n 0, 1) := by decide +kernel
theorem dX11_bitsAt_15 : decode cX11_bitsAt 15 = .ok (.iload_n 1, 1) := by decide +kernel
theorem dX11_bitsAt_16 : decode cX11_bitsAt 16 = .ok (.laload, 1) := by decide +kernel
theorem dX11_bitsAt_17 : decode cX11_bitsAt 17 = .ok (.goto 4, 3) := by decide +kernel
set_option maxHeartbeats 4000000 in
set_option maxRecDepth 20000 in
theorem k_X11_bitsAt (d : Nat) {T : CT} {σ : MS} {x : Nat} {i : Int} (h_x : (T x).1 = 3) (h_i : -2147483648 ≤ i ∧ i ≤ 2147483647) (hw : WT T σ) (hln : (T x).2 ≤ 2147483647) : Tn (d + 1) m_X11_bitsAt 0 T σ [(0, .ref x), (1, .int (iI i))] [] (fun ro σ2 => ∃ v : Int64, ro = some (.long v) ∧ σ = σ2) := by
  refine tn_aload_n dX11_bitsAt_0 rfl 0 rfl ?_
  refine tn_ifnull dX11_bitsAt_1 ?_
  refine tn_iload_n dX11_bitsAt_4 rfl 1 rfl ?_
  refine tn_if_lt (tgt := 20) dX11_bitsAt_5 (by decide) ⟨by omega, by omega⟩ (fun h1 => ?_) (fun h1 => ?_)
  · refine tn_lconst (v := 0) dX11_bitsAt_20 rfl ?_
    exact tn_lret rfl dX11_bitsAt_21 ⟨_, rfl, rfl⟩
  · refine tn_iload_n dX11_bitsAt_8 rfl 1 rfl ?_
    refine tn_aload_n dX11_bitsAt_9 rfl 0 rfl ?_
    refine tn_alenX dX11_bitsAt_10 (Or.inr (Or.inr (Or.inl h_x))) ?_
    refine tn_icmp_ge (tgt := 20) dX11_bitsAt_11 (by decide) ⟨by omega, by omega⟩ ⟨by omega, by omega⟩ (fun h2 => ?_) (fun h2 => ?_)
    · refine tn_lconst (v := 0) dX11_bitsAt_20 rfl ?_
      exact tn_lret rfl dX11_bitsAt_21 ⟨_, rfl, rfl⟩
    · refine tn_aload_n dX11_bitsAt_14 rfl 0 rfl ?_
      refine tn_iload_n dX11_bitsAt_15 rfl 1 rfl ?_
      refine tn_laldX (z := i) dX11_bitsAt_16 h_x (by omega) (by omega) (by omega) (fun v3 => ?_)
      refine tn_goto (tgt := 21) dX11_bitsAt_17 (by decide) ?_
      exact tn_lret rfl dX11_bitsAt_21 ⟨_, rfl, rfl⟩
theorem cd_X11_putBits : Cond.code yX11_putBits cX11_putBits 4 none ∈ pWW := pw5 (List.mem_of_getElem? (i := 42) rfl) rfl
abbrev m_X11_putBits : MT := (yX11_putBits, cX11_putBits, 4, none)
theorem ok_X11_putBits : pOk m_X11_putBits := ⟨⟨cd_X11_putBits, ini_11⟩, by decide +kernel, ⟨by decide +kernel, by decide +kernel⟩, Nat.le_of_ble_eq_true rfl⟩
theorem np_X11_putBits : (parseMethodDescriptor yX11_putBits.desc).map (fun d => d.parameters.length) = some 3 := by decide +kernel
theorem stt_X11_putBits : Cond.static yX11_putBits ∈ pWW := pw5 (List.mem_of_getElem? (i := 41) rfl) rfl
theorem dX11_putBits_0 : decode cX11_putBits 0 = .ok (.aload_n 0, 1) := by decide +kernel
theorem dX11_putBits_1 : decode cX11_putBits 1 = .ok (.ifnull 17, 3) := by decide +kernel
theorem dX11_putBits_4 : decode cX11_putBits 4 = .ok (.iload_n 1, 1) := by decide +kernel
theorem dX11_putBits_5 : decode cX11_putBits 5 = .ok (.ifCond .lt 13, 3) := by decide +kernel
theorem dX11_putBits_18 : decode cX11_putBits 18 = .ok (.return_, 1) := by decide +kernel
theorem dX11_putBits_8 : decode cX11_putBits 8 = .ok (.iload_n 1, 1) := by decide +kernel
theorem dX11_putBits_9 : decode cX11_putBits 9 = .ok (.aload_n 0, 1) := by decide +kernel
theorem dX11_putBits_10 : decode cX11_putBits 10 = .ok (.arraylength, 1) := by decide +kernel
theorem dX11_putBits_11 : decode cX11_putBits 11 = .ok (.if_icmp .ge 7, 3) := by decide +kernel
theorem dX11_putBits_14 : decode cX11_putBits 14 = .ok (.aload_n 0, 1) := by decide +kernel
theorem dX11_putBits_15 : decode cX11_putBits 15 = .ok (.iload_n 1, 1) := by decide +kernel
theorem dX11_putBits_16 : decode cX11_putBits 16 = .ok (.lload_n 2, 1) := by decide +kernel
theorem dX11_putBits_17 : decode cX11_putBits 17 = .ok (.lastore, 1) := by decide +kernel
set_option maxHeartbeats 4000000 in
set_option maxRecDepth 20000 in
theorem k_X11_putBits (d : Nat) {T : CT} {σ : MS} {x : Nat} {i : Int} {w : Int64} (h_x : (T x).1 = 3) (h_i : -2147483648 ≤ i ∧ i ≤ 2147483647) (hw : WT T σ) (hln : (T x).2 ≤ 2147483647) : Tn (d + 1) m_X11_putBits 0 T σ [(0, .ref x), (1, .int (iI i)), (2, .long (w))] [] (fun ro σ2 => ro = none ∧ WT T σ2 ∧ FrC [] σ σ2) := by
  refine tn_aload_n dX11_putBits_0 rfl 0 rfl ?_
  refine tn_ifnull dX11_putBits_1 ?_
  refine tn_iload_n dX11_putBits_4 rfl 1 rfl ?_
  refine tn_if_lt (tgt := 18) dX11_putBits_5 (by decide) ⟨by omega, by omega⟩ (fun h1 => ?_) (fun h1 => ?_)
  · exact tn_vret rfl dX11_putBits_18 ⟨rfl, hw, FrC.rfl⟩
  · refine tn_iload_n dX11_putBits_8 rfl 1 rfl ?_
    refine tn_aload_n dX11_putBits_9 rfl 0 rfl ?_
    refine tn_alenX dX11_putBits_10 (Or.inr (Or.inr (Or.inl h_x))) ?_
    refine tn_icmp_ge (tgt := 18) dX11_putBits_11 (by decide) ⟨by omega, by omega⟩ ⟨by omega, by omega⟩ (fun h2 => ?_) (fun h2 => ?_)
    · exact tn_vret rfl dX11_putBits_18 ⟨rfl, hw, FrC.rfl⟩
    · refine tn_aload_n dX11_putBits_14 rfl 0 rfl ?_
      refine tn_iload_n dX11_putBits_15 rfl 1 rfl ?_
      refine tn_lload_n dX11_putBits_16 rfl 2 rfl ?_
      refine tn_last (z := i) (v := w) dX11_putBits_17 h_x (by omega) (by omega) (by omega) ?_
      exact tn_vret rfl dX11_putBits_18 ⟨rfl, (hw.lng), (FrC.rfl.lng)⟩
