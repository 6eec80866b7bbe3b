theorem lay_0 : ∀ w ∈ u_ws RX0 TX0 5, w ∈ pWW := pLay (fun k hk => match k, hk with
  | 0, _ => pw6 (List.mem_of_getElem? (i := 190) rfl) rfl
  | 1, _ => pw6 (List.mem_of_getElem? (i := 192) rfl) rfl
  | 2, _ => pw6 (List.mem_of_getElem? (i := 194) rfl) rfl
  | 3, _ => pw6 (List.mem_of_getElem? (i := 196) rfl) rfl
  | 4, _ => pw6 (List.mem_of_getElem? (i := 198) rfl) rfl
  | k + 5, h => absurd h (by omega))
theorem lay_1 : ∀ w ∈ u_ws RX1 TX1 12, w ∈ pWW := pLay (fun k hk => match k, hk with
  | 0, _ => pw1 (List.mem_of_getElem? (i := 128) rfl) rfl
  | 1, _ => pw1 (List.mem_of_getElem? (i := 130) rfl) rfl
  | 2, _ => pw1 (List.mem_of_getElem? (i := 132) rfl) rfl
  | 3, _ => pw1 (List.mem_of_getElem? (i := 134) rfl) rfl
  | 4, _ => pw1 (List.mem_of_getElem? (i := 136) rfl) rfl
  | 5, _ => pw1 (List.mem_of_getElem? (i := 138) rfl) rfl
  | 6, _ => pw1 (List.mem_of_getElem? (i := 140) rfl) rfl
  | 7, _ => pw1 (List.mem_of_getElem? (i := 142) rfl) rfl
  | 8, _ => pw1 (List.mem_of_getElem? (i := 144) rfl) rfl
  | 9, _ => pw1 (List.mem_of_getElem? (i := 146) rfl) rfl
  | 10, _ => pw1 (List.mem_of_getElem? (i := 148) rfl) rfl
  | 11, _ => pw1 (List.mem_of_getElem? (i := 150) rfl) rfl
  | k + 12, h => absurd h (by omega))
theorem lay_2 : ∀ w ∈ u_ws RX2 TX2 1, w ∈ pWW := pLay (fun k hk => match k, hk with
  | 0, _ => pw2 (List.mem_of_getElem? (i := 52) rfl) rfl
  | k + 1, h => absurd h (by omega))
theorem lay_3 : ∀ w ∈ u_ws RX3 TX3 5, w ∈ pWW := pLay (fun k hk => match k, hk with
  | 0, _ => pw1 (List.mem_of_getElem? (i := 227) rfl) rfl
  | 1, _ => pw1 (List.mem_of_getElem? (i := 229) rfl) rfl
  | 2, _ => pw1 (List.mem_of_getElem? (i := 231) rfl) rfl
  | 3, _ => pw1 (List.mem_of_getElem? (i := 233) rfl) rfl
  | 4, _ => pw1 (List.mem_of_getElem? (i := 235) rfl) rfl
  | k + 5, h => absurd h (by omega))
theorem lay_4 : ∀ w ∈ u_ws RX4 TX4 10, w ∈ pWW := pLay (fun k hk => match k, hk with
  | 0, _ => pw2 (List.mem_of_getElem? (i := 71) rfl) rfl
  | 1, _ => pw2 (List.mem_of_getElem? (i := 73) rfl) rfl
  | 2, _ => pw2 (List.mem_of_getElem? (i := 75) rfl) rfl
  | 3, _ => pw2 (List.mem_of_getElem? (i := 77) rfl) rfl
  | 4, _ => pw2 (List.mem_of_getElem? (i := 79) rfl) rfl
  | 5, _ => pw2 (List.mem_of_getElem? (i := 81) rfl) rfl
  | 6, _ => pw2 (List.mem_of_getElem? (i := 83) rfl) rfl
  | 7, _ => pw2 (List.mem_of_getElem? (i := 85) rfl) rfl
  | 8, _ => pw2 (List.mem_of_getElem? (i := 87) rfl) rfl
  | 9, _ => pw2 (List.mem_of_getElem? (i := 89) rfl) rfl
  | k + 10, h => absurd h (by omega))
theorem lay_5 : ∀ w ∈ u_ws RX5 TX5 19, w ∈ pWW := pLay (fun k hk => match k, hk with
  | 0, _ => pw1 (List.mem_of_getElem? (i := 175) rfl) rfl
  | 1, _ => pw1 (List.mem_of_getElem? (i := 177) rfl) rfl
  | 2, _ => pw1 (List.mem_of_getElem? (i := 179) rfl) rfl
  | 3, _ => pw1 (List.mem_of_getElem? (i := 181) rfl) rfl
  | 4, _ => pw1 (List.mem_of_getElem? (i := 183) rfl) rfl
  | 5, _ => pw1 (List.mem_of_getElem? (i := 185) rfl) rfl
  | 6, _ => pw1 (List.mem_of_getElem? (i := 187) rfl) rfl
  | 7, _ => pw1 (List.mem_of_getElem? (i := 189) rfl) rfl
  | 8, _ => pw1 (List.mem_of_getElem? (i := 191) rfl) rfl
  | 9, _ => pw1 (List.mem_of_getElem? (i := 193) rfl) rfl
  | 10, _ => pw1 (List.mem_of_getElem? (i := 195) rfl) rfl
  | 11, _ => pw1 (List.mem_of_getElem? (i := 197) rfl) rfl
  | 12, _ => pw1 (List.mem_of_getElem? (i := 199) rfl) rfl
  | 13, _ => pw1 (List.mem_of_getElem? (i := 201) rfl) rfl
  | 14, _ => pw1 (List.mem_of_getElem? (i := 203) rfl) rfl
  | 15, _ => pw1 (List.mem_of_getElem? (i := 205) rfl) rfl
  | 16, _ => pw1 (List.mem_of_getElem? (i := 207) rfl) rfl
  | 17, _ => pw1 (List.mem_of_getElem? (i := 209) rfl) rfl
  | 18, _ => pw1 (List.mem_of_getElem? (i := 211) rfl) rfl
  | k + 19, h => absurd h (by omega))
theorem lay_6 : ∀ w ∈ u_ws RX6 TX6 3, w ∈ pWW := pLay (fun k hk => match k, hk with
  | 0, _ => pw2 (List.mem_of_getElem? (i := 38) rfl) rfl
  | 1, _ => pw2 (List.mem_of_getElem? (i := 40) rfl) rfl
  | 2, _ => pw2 (List.mem_of_getElem? (i := 42) rfl) rfl
  | k + 3, h => absurd h (by omega))
theorem lay_7 : ∀ w ∈ u_ws RX7 TX7 17, w ∈ pWW := pLay (fun k hk => match k, hk with
  | 0, _ => pw2 (List.mem_of_getElem? (i := 161) rfl) rfl
  | 1, _ => pw2 (List.mem_of_getElem? (i := 163) rfl) rfl
  | 2, _ => pw2 (List.mem_of_getElem? (i := 165) rfl) rfl
  | 3, _ => pw2 (List.mem_of_getElem? (i := 167) rfl) rfl
  | 4, _ => pw2 (List.mem_of_getElem? (i := 169) rfl) rfl
  | 5, _ => pw2 (List.mem_of_getElem? (i := 171) rfl) rfl
  | 6, _ => pw2 (List.mem_of_getElem? (i := 173) rfl) rfl
  | 7, _ => pw2 (List.mem_of_getElem? (i := 175) rfl) rfl
  | 8, _ => pw2 (List.mem_of_getElem? (i := 177) rfl) rfl
  | 9, _ => pw2 (List.mem_of_getElem? (i := 179) rfl) rfl
  | 10, _ => pw2 (List.mem_of_getElem? (i := 181) rfl) rfl
  | 11, _ => pw2 (List.mem_of_getElem? (i := 183) rfl) rfl
  | 12, _ => pw2 (List.mem_of_getElem? (i := 185) rfl) rfl
  | 13, _ => pw2 (List.mem_of_getElem? (i := 187) rfl) rfl
  | 14, _ => pw2 (List.mem_of_getElem? (i := 189) rfl) rfl
  | 15, _ => pw2 (List.mem_of_getElem? (i := 191) rfl) rfl
  | 16, _ => pw2 (List.mem_of_getElem? (i := 193) rfl) rfl
  | k + 17, h => absurd h (by omega))
theorem lay_8 : ∀ w ∈ u_ws RX8 TX8 9, w ∈ pWW := pLay (fun k hk => match k, hk with
  | 0, _ => pw2 (List.mem_of_getElem? (i := 107) rfl) rfl
  | 1, _ => pw2 (List.mem_of_getElem? (i := 109) rfl) rfl
  | 2, _ => pw2 (List.mem_of_getElem? (i := 111) rfl) rfl
  | 3, _ => pw2 (List.mem_of_getElem? (i := 113) rfl) rfl
  | 4, _ => pw2 (List.mem_of_getElem? (i := 115) rfl) rfl
  | 5, _ => pw2 (List.mem_of_getElem? (i := 117) rfl) rfl
  | 6, _ => pw2 (List.mem_of_getElem? (i := 119) rfl) rfl
  | 7, _ => pw2 (List.mem_of_getElem? (i := 121) rfl) rfl
  | 8, _ => pw2 (List.mem_of_getElem? (i := 123) rfl) rfl
  | k + 9, h => absurd h (by omega))
theorem lay_9 : ∀ w ∈ u_ws RX9 TX9 7, w ∈ pWW := pLay (fun k hk => match k, hk with
  | 0, _ => pw1 (List.mem_of_getElem? (i := 54) rfl) rfl
  | 1, _ => pw1 (List.mem_of_getElem? (i := 56) rfl) rfl
  | 2, _ => pw1 (List.mem_of_getElem? (i := 58) rfl) rfl
  | 3, _ => pw1 (List.mem_of_getElem? (i := 60) rfl) rfl
  | 4, _ => pw1 (List.mem_of_getElem? (i := 62) rfl) rfl
  | 5, _ => pw1 (List.mem_of_getElem? (i := 64) rfl) rfl
  | 6, _ => pw1 (List.mem_of_getElem? (i := 66) rfl) rfl
  | k + 7, h => absurd h (by omega))
theorem lay_10 : ∀ w ∈ u_ws RX10 TX10 7, w ∈ pWW := pLay (fun k hk => match k, hk with
  | 0, _ => pw2 (List.mem_of_getElem? (i := 14) rfl) rfl
  | 1, _ => pw2 (List.mem_of_getElem? (i := 16) rfl) rfl
  | 2, _ => pw2 (List.mem_of_getElem? (i := 18) rfl) rfl
  | 3, _ => pw2 (List.mem_of_getElem? (i := 20) rfl) rfl
  | 4, _ => pw2 (List.mem_of_getElem? (i := 22) rfl) rfl
  | 5, _ => pw2 (List.mem_of_getElem? (i := 24) rfl) rfl
  | 6, _ => pw2 (List.mem_of_getElem? (i := 26) rfl) rfl
  | k + 7, h => absurd h (by omega))
theorem lay_11 : ∀ w ∈ u_ws RX11 TX11 16, w ∈ pWW := pLay (fun k hk => match k, hk with
  | 0, _ => pw2 (List.mem_of_getElem? (i := 212) rfl) rfl
  | 1, _ => pw2 (List.mem_of_getElem? (i := 214) rfl) rfl
  | 2, _ => pw2 (List.mem_of_getElem? (i := 216) rfl) rfl
  | 3, _ => pw2 (List.mem_of_getElem? (i := 218) rfl) rfl
  | 4, _ => pw2 (List.mem_of_getElem? (i := 220) rfl) rfl
  | 5, _ => pw2 (List.mem_of_getElem? (i := 222) rfl) rfl
  | 6, _ => pw2 (List.mem_of_getElem? (i := 224) rfl) rfl
  | 7, _ => pw2 (List.mem_of_getElem? (i := 226) rfl) rfl
  | 8, _ => pw2 (List.mem_of_getElem? (i := 228) rfl) rfl
  | 9, _ => pw2 (List.mem_of_getElem? (i := 230) rfl) rfl
  | 10, _ => pw2 (List.mem_of_getElem? (i := 232) rfl) rfl
  | 11, _ => pw2 (List.mem_of_getElem? (i := 234) rfl) rfl
  | 12, _ => pw2 (List.mem_of_getElem? (i := 236) rfl) rfl
  | 13, _ => pw2 (List.mem_of_getElem? (i := 238) rfl) rfl
  | 14, _ => pw3 (List.mem_of_getElem? (i := 0) rfl) rfl
  | 15, _ => pw3 (List.mem_of_getElem? (i := 2) rfl) rfl
  | k + 16, h => absurd h (by omega))
theorem stM_max : Cond.static Lib.Math.max.name ∈ pWW := pw3 (List.mem_of_getElem? (i := 33) rfl) rfl
theorem cdM_max : Cond.code Lib.Math.max.name Lib.Math.max.code 2 (some .int) ∈ pWW := pw3 (List.mem_of_getElem? (i := 34) rfl) rfl
theorem stM_min : Cond.static Lib.Math.min.name ∈ pWW := pw3 (List.mem_of_getElem? (i := 30) rfl) rfl
theorem cdM_min : Cond.code Lib.Math.min.name Lib.Math.min.code 2 (some .int) ∈ pWW := pw3 (List.mem_of_getElem? (i := 31) rfl) rfl
theorem iniM : Cond.initialized "java/lang/Math" ∈ pWW := pw1 (List.mem_of_getElem? (i := 13) rfl) rfl
theorem acNat : Cond.native arraycopyName ∈ pWW := pw3 (List.mem_of_getElem? (i := 143) rfl) rfl
theorem acSt : Cond.static arraycopyName ∈ pWW := pw3 (List.mem_of_getElem? (i := 142) rfl) rfl
theorem acIni : Cond.initialized "java/lang/System" ∈ pWW := pw1 (List.mem_of_getElem? (i := 15) rfl) rfl
theorem arC_int : Cond.arrayClass .int ∈ pWW := pw1 (List.mem_of_getElem? (i := 70) rfl) rfl
theorem arC_byte : Cond.arrayClass .byte ∈ pWW := pw1 (List.mem_of_getElem? (i := 69) rfl) rfl
theorem arC_long : Cond.arrayClass .long ∈ pWW := pw1 (List.mem_of_getElem? (i := 238) rfl) rfl
theorem cd_J7_fill_53178 : Cond.code yJ7_fill_53178 cJ7_fill_53178 4 none ∈ pWW := pw3 (List.mem_of_getElem? (i := 161) rfl) rfl
theorem ini_J7 : Cond.initialized RXJ7 ∈ pWW := pw1 (List.mem_of_getElem? (i := 14) rfl) rfl
abbrev m_J7_fill_53178 : MT := (yJ7_fill_53178, cJ7_fill_53178, 4, none)
theorem ok_J7_fill_53178 : pOk m_J7_fill_53178 := ⟨⟨cd_J7_fill_53178, ini_J7⟩, by decide +kernel, ⟨by decide +kernel, by decide +kernel⟩, Nat.le_of_ble_eq_true rfl⟩
theorem np_J7_fill_53178 : (parseMethodDescriptor yJ7_fill_53178.desc).map (fun d => d.parameters.length) = some 2 := by decide +kernel
theorem stt_J7_fill_53178 : Cond.static yJ7_fill_53178 ∈ pWW := pw3 (List.mem_of_getElem? (i := 160) rfl) rfl
theorem cd_J7_fill_fda19 : Cond.code yJ7_fill_fda19 cJ7_fill_fda19 5 none ∈ pWW := pw3 (List.mem_of_getElem? (i := 146) rfl) rfl
abbrev m_J7_fill_fda19 : MT := (yJ7_fill_fda19, cJ7_fill_fda19, 5, none)
theorem ok_J7_fill_fda19 : pOk m_J7_fill_fda19 := ⟨⟨cd_J7_fill_fda19, ini_J7⟩, by decide +kernel, ⟨by decide +kernel, by decide +kernel⟩, Nat.le_of_ble_eq_true rfl⟩
theorem np_J7_fill_fda19 : (parseMethodDescriptor yJ7_fill_fda19.desc).map (fun d => d.parameters.length) = some 4 := by decide +kernel
theorem stt_J7_fill_fda19 : Cond.static yJ7_fill_fda19 ∈ pWW := pw3 (List.mem_of_getElem? (i := 145) rfl) rfl
theorem cd_J7_fill_bad5a : Cond.code yJ7_fill_bad5a cJ7_fill_bad5a 6 none ∈ pWW := pw5 (List.mem_of_getElem? (i := 32) rfl) rfl
abbrev m_J7_fill_bad5a : MT := (yJ7_fill_bad5a, cJ7_fill_bad5a, 6, none)
theorem ok_J7_fill_bad5a : pOk m_J7_fill_bad5a := ⟨⟨cd_J7_fill_bad5a, ini_J7⟩, by decide +kernel, ⟨by decide +kernel, by decide +kernel⟩, Nat.le_of_ble_eq_true rfl⟩
theorem np_J7_fill_bad5a : (parseMethodDescriptor yJ7_fill_bad5a.desc).map (fun d => d.parameters.length) = some 4 := by decide +kernel
theorem stt_J7_fill_bad5a : Cond.static yJ7_fill_bad5a ∈ pWW := pw5 (List.mem_of_getElem? (i := 31) rfl) rfl
theorem cd_J7_rangeCheck_23922 : Cond.code yJ7_rangeCheck_23922 cJ7_rangeCheck_23922 3 none ∈ pWW := pw3 (List.mem_of_getElem? (i := 149) rfl) rfl
abbrev m_J7_rangeCheck_23922 : MT := (yJ7_rangeCheck_23922, cJ7_rangeCheck_23922, 3, none)
theorem ok_J7_rangeCheck_23922 : pOk m_J7_rangeCheck_23922 := ⟨⟨cd_J7_rangeCheck_23922, ini_J7⟩, by decide +kernel, ⟨by decide +kernel, by decide +kernel⟩, Nat.le_of_ble_eq_true rfl⟩
theorem np_J7_rangeCheck_23922 : (parseMethodDescriptor yJ7_rangeCheck_23922.desc).map (fun d => d.parameters.length) = some 3 := by decide +kernel
theorem stt_J7_rangeCheck_23922 : Cond.static yJ7_rangeCheck_23922 ∈ pWW := pw3 (List.mem_of_getElem? (i := 148) rfl) rfl
theorem cd_J7_copyOf_59c91 : Cond.code yJ7_copyOf_59c91 cJ7_copyOf_59c91 3 (some (.array .int)) ∈ pWW := pw3 (List.mem_of_getElem? (i := 132) rfl) rfl
abbrev m_J7_copyOf_59c91 : MT := (yJ7_copyOf_59c91, cJ7_copyOf_59c91, 3, (some (.array .int)))
theorem ok_J7_copyOf_59c91 : pOk m_J7_copyOf_59c91 := ⟨⟨cd_J7_copyOf_59c91, ini_J7⟩, by decide +kernel, ⟨by decide +kernel, by decide +kernel⟩, Nat.le_of_ble_eq_true rfl⟩
theorem np_J7_copyOf_59c91 : (parseMethodDescriptor yJ7_copyOf_59c91.desc).map (fun d => d.parameters.length) = some 2 := by decide +kernel
theorem stt_J7_copyOf_59c91 : Cond.static yJ7_copyOf_59c91 ∈ pWW := pw3 (List.mem_of_getElem? (i := 131) rfl) rfl
theorem cd_X11_isFive : Cond.code yX11_isFive cX11_isFive 1 (some .boolean) ∈ pWW := pw4 (List.mem_of_getElem? (i := 208) rfl) rfl
theorem ini_11 : Cond.initialized RX11 ∈ pWW := pw1 (List.mem_of_getElem? (i := 1) rfl) rfl
abbrev m_X11_isFive : MT := (yX11_isFive, cX11_isFive, 1, (some .boolean))
theorem ok_X11_isFive : pOk m_X11_isFive := ⟨⟨cd_X11_isFive, ini_11⟩, by decide +kernel, ⟨by decide +kernel, by decide +kernel⟩, Nat.le_of_ble_eq_true rfl⟩
theorem np_X11_isFive : (parseMethodDescriptor yX11_isFive.desc).map (fun d => d.parameters.length) = some 1 := by decide +kernel
theorem stt_X11_isFive : Cond.static yX11_isFive ∈ pWW := pw4 (List.mem_of_getElem? (i := 207) rfl) rfl
theorem dX11_isFive_0 : decode cX11_isFive 0 = .ok (.iload_n 0, 1) := by decide +kernel
theorem dX11_isFive_1 : decode cX11_isFive 1 = .ok (.iconst 1, 1) := by decide +kernel
theorem dX11_isFive_2 : decode cX11_isFive 2 = .ok (.if_icmp .lt 12, 3) := by decide +kernel
theorem dX11_isFive_14 : decode cX11_isFive 14 = .ok (.iconst 0, 1) := by decide +kernel
theorem dX11_isFive_15 : decode cX11_isFive 15 = .ok (.ireturn, 1) := by decide +kernel
theorem dX11_isFive_5 : decode cX11_isFive 5 = .ok (.iload_n 0, 1) := by decide +kernel
theorem dX11_isFive_6 : decode cX11_isFive 6 = .ok (.iconst 5, 1) := by decide +kernel
theorem dX11_isFive_7 : decode cX11_isFive 7 = .ok (.if_icmp .gt 7, 3) := by decide +kernel
theorem dX11_isFive_10 : decode cX11_isFive 10 = .ok (.iconst 1, 1) := by decide +kernel
theorem dX11_isFive_11 : decode cX11_isFive 11 = .ok (.goto 4, 3) := by decide +kernel
set_option maxRecDepth 20000 in
theorem k_X11_isFive (d : Nat) {T : CT} {σ : MS} {k : Int} (h_k : -2147483648 ≤ k ∧ k ≤ 2147483647) (hw : WT T σ) : Tn (d + 1) m_X11_isFive 0 T σ [(0, .int (iI k))] [] (fun ro T2 σ2 => ∃ v : Int, ro = some (.int (iI v)) ∧ T = T2 ∧ σ = σ2 ∧ (v = 0 ∨ v = 1)) := by
  refine tn_iload_n dX11_isFive_0 rfl 0 rfl ?_
  refine tn_iconst dX11_isFive_1 ?_
  refine tn_icmp_lt (tgt := 14) dX11_isFive_2 (by decide) ⟨by omega, by omega⟩ ⟨by decide, by decide⟩ (fun h1 => ?_) (fun h1 => ?_)
  · refine tn_iconst dX11_isFive_14 ?_
    exact tn_zret (v := 0) rfl (by decide) dX11_isFive_15 ⟨_, rfl, rfl, rfl, by omega⟩
  · refine tn_iload_n dX11_isFive_5 rfl 0 rfl ?_
    refine tn_iconst dX11_isFive_6 ?_
    refine tn_icmp_gt (tgt := 14) dX11_isFive_7 (by decide) ⟨by omega, by omega⟩ ⟨by decide, by decide⟩ (fun h2 => ?_) (fun h2 => ?_)
    · refine tn_iconst dX11_isFive_14 ?_
      exact tn_zret (v := 0) rfl (by decide) dX11_isFive_15 ⟨_, rfl, rfl, rfl, by omega⟩
    · refine tn_iconst dX11_isFive_10 ?_
      refine tn_goto (tgt := 15) dX11_isFive_11 (by decide) ?_
      exact tn_zret (v := 1) rfl (by decide) dX11_isFive_15 ⟨_, rfl, rfl, rfl, by omega⟩
theorem cd_X11_isPure : Cond.code yX11_isPure cX11_isPure 1 (some .boolean) ∈ pWW := pw4 (List.mem_of_getElem? (i := 4) rfl) rfl
abbrev m_X11_isPure : MT := (yX11_isPure, cX11_isPure, 1, (some .boolean))
theorem ok_X11_isPure : pOk m_X11_isPure := ⟨⟨cd_X11_isPure, ini_11⟩, by decide +kernel, ⟨by decide +kernel, by decide +kernel⟩, Nat.le_of_ble_eq_true rfl⟩
theorem np_X11_isPure : (parseMethodDescriptor yX11_isPure.desc).map (fun d => d.parameters.length) = some 1 := by decide +kernel
theorem stt_X11_isPure : Cond.static yX11_isPure ∈ pWW := pw4 (List.mem_of_getElem? (i := 3) rfl) rfl
theorem dX11_isPure_0 : decode cX11_isPure 0 = .ok (.iload_n 0, 1) := by decide +kernel
theorem dX11_isPure_1 : decode cX11_isPure 1 = .ok (.ifCond .lt 12, 3) := by decide +kernel
theorem dX11_isPure_13 : decode cX11_isPure 13 = .ok (.iconst 0, 1) := by decide +kernel
theorem dX11_isPure_14 : decode cX11_isPure 14 = .ok (.ireturn, 1) := by decide +kernel
theorem dX11_isPure_4 : decode cX11_isPure 4 = .ok (.iload_n 0, 1) := by decide +kernel
theorem dX11_isPure_5 : decode cX11_isPure 5 = .ok (.iconst 5, 1) := by decide +kernel
theorem dX11_isPure_6 : decode cX11_isPure 6 = .ok (.if_icmp .gt 7, 3) := by decide +kernel
theorem dX11_isPure_9 : decode cX11_isPure 9 = .ok (.iconst 1, 1) := by decide +kernel
theorem dX11_isPure_10 : decode cX11_isPure 10 = .ok (.goto 4, 3) := by decide +kernel
set_option maxRecDepth 20000 in
theorem k_X11_isPure (d : Nat) {T : CT} {σ : MS} {k : Int} (h_k : -2147483648 ≤ k ∧ k ≤ 2147483647) (hw : WT T σ) : Tn (d + 1) m_X11_isPure 0 T σ [(0, .int (iI k))] [] (fun ro T2 σ2 => ∃ v : Int, ro = some (.int (iI v)) ∧ T = T2 ∧ σ = σ2 ∧ (v = 0 ∨ v = 1)) := by
  refine tn_iload_n dX11_isPure_0 rfl 0 rfl ?_
  refine tn_if_lt (tgt := 13) dX11_isPure_1 (by decide) ⟨by omega, by omega⟩ (fun h1 => ?_) (fun h1 => ?_)
  · refine tn_iconst dX11_isPure_13 ?_
    exact tn_zret (v := 0) rfl (by decide) dX11_isPure_14 ⟨_, rfl, rfl, rfl, by omega⟩
  · refine tn_iload_n dX11_isPure_4 rfl 0 rfl ?_
    refine tn_iconst dX11_isPure_5 ?_
    refine tn_icmp_gt (tgt := 13) dX11_isPure_6 (by decide) ⟨by omega, by omega⟩ ⟨by decide, by decide⟩ (fun h2 => ?_) (fun h2 => ?_)
    · refine tn_iconst dX11_isPure_13 ?_
      exact tn_zret (v := 0) rfl (by decide) dX11_isPure_14 ⟨_, rfl, rfl, rfl, by omega⟩
    · refine tn_iconst dX11_isPure_9 ?_
      refine tn_goto (tgt := 14) dX11_isPure_10 (by decide) ?_
      exact tn_zret (v := 1) rfl (by decide) dX11_isPure_14 ⟨_, rfl, rfl, rfl, by omega⟩
theorem cd_X11_isAct : Cond.code yX11_isAct cX11_isAct 1 (some .boolean) ∈ pWW := pw4 (List.mem_of_getElem? (i := 69) rfl) rfl
abbrev m_X11_isAct : MT := (yX11_isAct, cX11_isAct, 1, (some .boolean))
theorem ok_X11_isAct : pOk m_X11_isAct := ⟨⟨cd_X11_isAct, ini_11⟩, by decide +kernel, ⟨by decide +kernel, by decide +kernel⟩, Nat.le_of_ble_eq_true rfl⟩
theorem np_X11_isAct : (parseMethodDescriptor yX11_isAct.desc).map (fun d => d.parameters.length) = some 1 := by decide +kernel
theorem stt_X11_isAct : Cond.static yX11_isAct ∈ pWW := pw4 (List.mem_of_getElem? (i := 68) rfl) rfl
theorem dX11_isAct_0 : decode cX11_isAct 0 = .ok (.iload_n 0, 1) := by decide +kernel
theorem dX11_isAct_1 : decode cX11_isAct 1 = .ok (.ifCond .lt 13, 3) := by decide +kernel
theorem dX11_isAct_14 : decode cX11_isAct 14 = .ok (.iconst 0, 1) := by decide +kernel
theorem dX11_isAct_15 : decode cX11_isAct 15 = .ok (.ireturn, 1) := by decide +kernel
theorem dX11_isAct_4 : decode cX11_isAct 4 = .ok (.iload_n 0, 1) := by decide +kernel
theorem dX11_isAct_5 : decode cX11_isAct 5 = .ok (.bipush 10, 2) := by decide +kernel
theorem dX11_isAct_7 : decode cX11_isAct 7 = .ok (.if_icmp .gt 7, 3) := by decide +kernel
theorem dX11_isAct_10 : decode cX11_isAct 10 = .ok (.iconst 1, 1) := by decide +kernel
theorem dX11_isAct_11 : decode cX11_isAct 11 = .ok (.goto 4, 3) := by decide +kernel
set_option maxRecDepth 20000 in
theorem k_X11_isAct (d : Nat) {T : CT} {σ : MS} {k : Int} (h_k : -2147483648 ≤ k ∧ k ≤ 2147483647) (hw : WT T σ) : Tn (d + 1) m_X11_isAct 0 T σ [(0, .int (iI k))] [] (fun ro T2 σ2 => ∃ v : Int, ro = some (.int (iI v)) ∧ T = T2 ∧ σ = σ2 ∧ (v = 0 ∨ v = 1)) := by
  refine tn_iload_n dX11_isAct_0 rfl 0 rfl ?_
  refine tn_if_lt (tgt := 14) dX11_isAct_1 (by decide) ⟨by omega, by omega⟩ (fun h1 => ?_) (fun h1 => ?_)
  · refine tn_iconst dX11_isAct_14 ?_
    exact tn_zret (v := 0) rfl (by decide) dX11_isAct_15 ⟨_, rfl, rfl, rfl, by omega⟩
  · refine tn_iload_n dX11_isAct_4 rfl 0 rfl ?_
    refine tn_bipush dX11_isAct_5 (by decide) ?_
    refine tn_icmp_gt (tgt := 14) dX11_isAct_7 (by decide) ⟨by omega, by omega⟩ ⟨by decide, by decide⟩ (fun h2 => ?_) (fun h2 => ?_)
    · refine tn_iconst dX11_isAct_14 ?_
      exact tn_zret (v := 0) rfl (by decide) dX11_isAct_15 ⟨_, rfl, rfl, rfl, by omega⟩
    · refine tn_iconst dX11_isAct_10 ?_
      refine tn_goto (tgt := 15) dX11_isAct_11 (by decide) ?_
      exact tn_zret (v := 1) rfl (by decide) dX11_isAct_15 ⟨_, rfl, rfl, rfl, by omega⟩
theorem cd_X11_reckon : Cond.code yX11_reckon cX11_reckon 3 (some .int) ∈ pWW := pw4 (List.mem_of_getElem? (i := 211) rfl) rfl
abbrev m_X11_reckon : MT := (yX11_reckon, cX11_reckon, 3, (some .int))
theorem ok_X11_reckon : pOk m_X11_reckon := ⟨⟨cd_X11_reckon, ini_11⟩, by decide +kernel, ⟨by decide +kernel, by decide +kernel⟩, Nat.le_of_ble_eq_true rfl⟩
theorem np_X11_reckon : (parseMethodDescriptor yX11_reckon.desc).map (fun d => d.parameters.length) = some 3 := by decide +kernel
theorem stt_X11_reckon : Cond.static yX11_reckon ∈ pWW := pw4 (List.mem_of_getElem? (i := 210) rfl) rfl
theorem dX11_reckon_0 : decode cX11_reckon 0 = .ok (.iload_n 0, 1) := by decide +kernel
theorem dX11_reckon_1 : decode cX11_reckon 1 = .ok (.tableswitch 69 1 5 #[35, 39, 43, 47, 58], 35) := by decide +kernel
theorem dX11_reckon_70 : decode cX11_reckon 70 = .ok (.iload_n 1, 1) := by decide +kernel
theorem dX11_reckon_71 : decode cX11_reckon 71 = .ok (.ireturn, 1) := by decide +kernel
theorem dX11_reckon_36 : decode cX11_reckon 36 = .ok (.iload_n 1, 1) := by decide +kernel
theorem dX11_reckon_37 : decode cX11_reckon 37 = .ok (.iload_n 2, 1) := by decide +kernel
theorem dX11_reckon_38 : decode cX11_reckon 38 = .ok (.iadd, 1) := by decide +kernel
theorem dX11_reckon_39 : decode cX11_reckon 39 = .ok (.ireturn, 1) := by decide +kernel
theorem dX11_reckon_40 : decode cX11_reckon 40 = .ok (.iload_n 1, 1) := by decide +kernel
theorem dX11_reckon_41 : decode cX11_reckon 41 = .ok (.iload_n 2, 1) := by decide +kernel
theorem dX11_reckon_42 : decode cX11_reckon 42 = .ok (.isub, 1) := by decide +kernel
theorem dX11_reckon_43 : decode cX11_reckon 43 = .ok (.ireturn, 1) := by decide +kernel
theorem dX11_reckon_44 : decode cX11_reckon 44 = .ok (.iload_n 1, 1) := by decide +kernel
theorem dX11_reckon_45 : decode cX11_reckon 45 = .ok (.iload_n 2, 1) := by decide +kernel
theorem dX11_reckon_46 : decode cX11_reckon 46 = .ok (.imul, 1) := by decide +kernel
theorem dX11_reckon_47 : decode cX11_reckon 47 = .ok (.ireturn, 1) := by decide +kernel
theorem dX11_reckon_48 : decode cX11_reckon 48 = .ok (.iload_n 1, 1) := by decide +kernel
theorem dX11_reckon_49 : decode cX11_reckon 49 = .ok (.iload_n 2, 1) := by decide +kernel
theorem dX11_reckon_50 : decode cX11_reckon 50 = .ok (.if_icmp .ne 7, 3) := by decide +kernel
theorem dX11_reckon_57 : decode cX11_reckon 57 = .ok (.iconst 0, 1) := by decide +kernel
theorem dX11_reckon_58 : decode cX11_reckon 58 = .ok (.ireturn, 1) := by decide +kernel
theorem dX11_reckon_53 : decode cX11_reckon 53 = .ok (.iconst 1, 1) := by decide +kernel
theorem dX11_reckon_54 : decode cX11_reckon 54 = .ok (.goto 4, 3) := by decide +kernel
theorem dX11_reckon_59 : decode cX11_reckon 59 = .ok (.iload_n 1, 1) := by decide +kernel
theorem dX11_reckon_60 : decode cX11_reckon 60 = .ok (.iload_n 2, 1) := by decide +kernel
theorem dX11_reckon_61 : decode cX11_reckon 61 = .ok (.if_icmp .ge 7, 3) := by decide +kernel
theorem dX11_reckon_68 : decode cX11_reckon 68 = .ok (.iconst 0, 1) := by decide +kernel
theorem dX11_reckon_69 : decode cX11_reckon 69 = .ok (.ireturn, 1) := by decide +kernel
theorem dX11_reckon_64 : decode cX11_reckon 64 = .ok (.iconst 1, 1) := by decide +kernel
theorem dX11_reckon_65 : decode cX11_reckon 65 = .ok (.goto 4, 3) := by decide +kernel
set_option maxRecDepth 20000 in
theorem k_X11_reckon (d : Nat) {T : CT} {σ : MS} {k : Int} {x : Int} {y : Int} (h_k : -2147483648 ≤ k ∧ k ≤ 2147483647) (h_x : -2147483648 ≤ x ∧ x ≤ 2147483647) (h_y : -2147483648 ≤ y ∧ y ≤ 2147483647) (hw : WT T σ) : Tn (d + 1) m_X11_reckon 0 T σ [(0, .int (iI k)), (1, .int (iI x)), (2, .int (iI y))] [] (fun ro T2 σ2 => ∃ v : Int, ro = some (.int (iI v)) ∧ T = T2 ∧ σ = σ2 ∧ (-2147483648 ≤ v ∧ v ≤ 2147483647)) := by
  refine tn_iload_n dX11_reckon_0 rfl 0 rfl ?_
  by_cases h1 : k < 1 ∨ 5 < k
  · refine tn_tableOut (tgt := 70) dX11_reckon_1 (x := k) ⟨by omega, by omega⟩ h1 (by decide) ?_
    refine tn_iload_n dX11_reckon_70 rfl 1 rfl ?_
    exact tn_iret rfl dX11_reckon_71 ⟨_, rfl, rfl, rfl, by omega⟩
  · have h2 : k = 1 ∨ k = 2 ∨ k = 3 ∨ k = 4 ∨ k = 5 := by omega
    rcases h2 with h2 | h2 | h2 | h2 | h2
    · refine tn_tableIn (tgt := 36) (off := 35) dX11_reckon_1 (x := k) ⟨by omega, by omega⟩ (by omega) (by omega) (by rw [h2]; rfl) (by decide) ?_
      refine tn_iload_n dX11_reckon_36 rfl 1 rfl ?_
      refine tn_iload_n dX11_reckon_37 rfl 2 rfl ?_
      refine tn_iadd dX11_reckon_38 ?_
      refine tn_any (fun z3 g4 => ?_)
      have g4r : -2147483648 ≤ z3 ∧ z3 ≤ 2147483647 := g4
      exact tn_iret rfl dX11_reckon_39 ⟨_, rfl, rfl, rfl, by omega⟩
    · refine tn_tableIn (tgt := 40) (off := 39) dX11_reckon_1 (x := k) ⟨by omega, by omega⟩ (by omega) (by omega) (by rw [h2]; rfl) (by decide) ?_
      refine tn_iload_n dX11_reckon_40 rfl 1 rfl ?_
      refine tn_iload_n dX11_reckon_41 rfl 2 rfl ?_
      refine tn_isub dX11_reckon_42 ?_
      refine tn_any (fun z5 g6 => ?_)
      have g6r : -2147483648 ≤ z5 ∧ z5 ≤ 2147483647 := g6
      exact tn_iret rfl dX11_reckon_43 ⟨_, rfl, rfl, rfl, by omega⟩
    · refine tn_tableIn (tgt := 44) (off := 43) dX11_reckon_1 (x := k) ⟨by omega, by omega⟩ (by omega) (by omega) (by rw [h2]; rfl) (by decide) ?_
      refine tn_iload_n dX11_reckon_44 rfl 1 rfl ?_
      refine tn_iload_n dX11_reckon_45 rfl 2 rfl ?_
      refine tn_imul dX11_reckon_46 ?_
      refine tn_any (fun z7 g8 => ?_)
      have g8r : -2147483648 ≤ z7 ∧ z7 ≤ 2147483647 := g8
      exact tn_iret rfl dX11_reckon_47 ⟨_, rfl, rfl, rfl, by omega⟩
    · refine tn_tableIn (tgt := 48) (off := 47) dX11_reckon_1 (x := k) ⟨by omega, by omega⟩ (by omega) (by omega) (by rw [h2]; rfl) (by decide) ?_
      refine tn_iload_n dX11_reckon_48 rfl 1 rfl ?_
      refine tn_iload_n dX11_reckon_49 rfl 2 rfl ?_
      refine tn_icmp_ne (tgt := 57) dX11_reckon_50 (by decide) ⟨by omega, by omega⟩ ⟨by omega, by omega⟩ (fun h9 => ?_) (fun h9 => ?_)
      · refine tn_iconst dX11_reckon_57 ?_
        exact tn_iret rfl dX11_reckon_58 ⟨_, rfl, rfl, rfl, by omega⟩
      · refine tn_iconst dX11_reckon_53 ?_
        refine tn_goto (tgt := 58) dX11_reckon_54 (by decide) ?_
        exact tn_iret rfl dX11_reckon_58 ⟨_, rfl, rfl, rfl, by omega⟩
    · refine tn_tableIn (tgt := 59) (off := 58) dX11_reckon_1 (x := k) ⟨by omega, by omega⟩ (by omega) (by omega) (by rw [h2]; rfl) (by decide) ?_
      refine tn_iload_n dX11_reckon_59 rfl 1 rfl ?_
      refine tn_iload_n dX11_reckon_60 rfl 2 rfl ?_
      refine tn_icmp_ge (tgt := 68) dX11_reckon_61 (by decide) ⟨by omega, by omega⟩ ⟨by omega, by omega⟩ (fun h10 => ?_) (fun h10 => ?_)
      · refine tn_iconst dX11_reckon_68 ?_
        exact tn_iret rfl dX11_reckon_69 ⟨_, rfl, rfl, rfl, by omega⟩
      · refine tn_iconst dX11_reckon_64 ?_
        refine tn_goto (tgt := 69) dX11_reckon_65 (by decide) ?_
        exact tn_iret rfl dX11_reckon_69 ⟨_, rfl, rfl, rfl, by omega⟩
theorem cd_X11_at : Cond.code yX11_at cX11_at 2 (some .int) ∈ pWW := pw3 (List.mem_of_getElem? (i := 79) rfl) rfl
abbrev m_X11_at : MT := (yX11_at, cX11_at, 2, (some .int))
theorem ok_X11_at : pOk m_X11_at := ⟨⟨cd_X11_at, ini_11⟩, by decide +kernel, ⟨by decide +kernel, by decide +kernel⟩, Nat.le_of_ble_eq_true rfl⟩
theorem np_X11_at : (parseMethodDescriptor yX11_at.desc).map (fun d => d.parameters.length) = some 2 := by decide +kernel
theorem stt_X11_at : Cond.static yX11_at ∈ pWW := pw3 (List.mem_of_getElem? (i := 78) rfl) rfl
theorem dX11_at_0 : decode cX11_at 0 = .ok (.aload_n 0, 1) := by decide +kernel
theorem dX11_at_1 : decode cX11_at 1 = .ok (.ifnull 19, 3) := by decide +kernel
theorem dX11_at_4 : decode cX11_at 4 = .ok (.iload_n 1, 1) := by decide +kernel
theorem dX11_at_5 : decode cX11_at 5 = .ok (.ifCond .lt 15, 3) := by decide +kernel
theorem dX11_at_20 : decode cX11_at 20 = .ok (.iconst 0, 1) := by decide +kernel
theorem dX11_at_21 : decode cX11_at 21 = .ok (.ireturn, 1) := by decide +kernel
theorem dX11_at_8 : decode cX11_at 8 = .ok (.iload_n 1, 1) := by decide +kernel
theorem dX11_at_9 : decode cX11_at 9 = .ok (.aload_n 0, 1) := by decide +kernel
theorem dX11_at_10 : decode cX11_at 10 = .ok (.arraylength, 1) := by decide +kernel
theorem dX11_at_11 : decode cX11_at 11 = .ok (.if_icmp .ge 9, 3) := by decide +kernel
theorem dX11_at_14 : decode cX11_at 14 = .ok (.aload_n 0, 1) := by decide +kernel
theorem dX11_at_15 : decode cX11_at 15 = .ok (.iload_n 1, 1) := by decide +kernel
theorem dX11_at_16 : decode cX11_at 16 = .ok (.iaload, 1) := by decide +kernel
theorem dX11_at_17 : decode cX11_at 17 = .ok (.goto 4, 3) := by decide +kernel
set_option maxRecDepth 20000 in
theorem k_X11_at (d : Nat) {T : CT} {σ : MS} {x : Nat} {i : Int} (h_x : IA T x) (l_x : (T x).2 ≤ 1000000) (h_i : -2147483648 ≤ i ∧ i ≤ 2147483647) (hw : WT T σ) : Tn (d + 1) m_X11_at 0 T σ [(0, .ref x), (1, .int (iI i))] [] (fun ro T2 σ2 => ∃ v : Int, ro = some (.int (iI v)) ∧ T = T2 ∧ σ = σ2 ∧ (-2147483648 ≤ v ∧ v ≤ 2147483647) ∧ (VOK (T x).1 i v) ∧ (v = ATV T σ x i)) := by
  refine tn_aload_n dX11_at_0 rfl 0 rfl ?_
  refine tn_ifnull dX11_at_1 ?_
  refine tn_iload_n dX11_at_4 rfl 1 rfl ?_
  refine tn_if_lt (tgt := 20) dX11_at_5 (by decide) ⟨by omega, by omega⟩ (fun h1 => ?_) (fun h1 => ?_)
  · refine tn_iconst dX11_at_20 ?_
    exact tn_iret rfl dX11_at_21 ⟨_, rfl, rfl, rfl, by omega, vok_0, atv_out (by omega)⟩
  · refine tn_iload_n dX11_at_8 rfl 1 rfl ?_
    refine tn_aload_n dX11_at_9 rfl 0 rfl ?_
    refine tn_alenX dX11_at_10 (Or.inl h_x) ?_
    refine tn_icmp_ge (tgt := 20) dX11_at_11 (by decide) ⟨by omega, by omega⟩ ⟨by omega, by omega⟩ (fun h2 => ?_) (fun h2 => ?_)
    · refine tn_iconst dX11_at_20 ?_
      exact tn_iret rfl dX11_at_21 ⟨_, rfl, rfl, rfl, by omega, vok_0, atv_out (by omega)⟩
    · refine tn_aload_n dX11_at_14 rfl 0 rfl ?_
      refine tn_iload_n dX11_at_15 rfl 1 rfl ?_
      refine tn_ialdX (z := i) hw dX11_at_16 h_x (by omega) (by omega) (by omega) (fun v3 g4q g4 g4k => ?_)
      have g4u := g4k
      have g4w := atv_in (T := T) (by omega) (by omega) g4q
      clear g4k g4q
      refine tn_goto (tgt := 21) dX11_at_17 (by decide) ?_
      exact tn_iret rfl dX11_at_21 ⟨_, rfl, rfl, rfl, by omega, by assumption, by assumption⟩
set_option maxRecDepth 20000 in
theorem k_X11_at_0 (d : Nat) {T : CT} {σ : MS} {i : Int} (h_i : -2147483648 ≤ i ∧ i ≤ 2147483647) (hw : WT T σ) : Tn (d + 1) m_X11_at 0 T σ [(0, .null), (1, .int (iI i))] [] (fun ro T2 σ2 => ∃ v : Int, ro = some (.int (iI v)) ∧ T = T2 ∧ σ = σ2 ∧ (0 ≤ v ∧ v ≤ 0)) := by
  refine tn_aload_nN dX11_at_0 rfl 0 rfl ?_
  refine tn_ifnullN (tgt := 20) dX11_at_1 (by decide) ?_
  refine tn_iconst dX11_at_20 ?_
  exact tn_iret rfl dX11_at_21 ⟨_, rfl, rfl, rfl, by omega⟩
theorem cd_X11_put : Cond.code yX11_put cX11_put 3 none ∈ pWW := pw3 (List.mem_of_getElem? (i := 56) rfl) rfl
abbrev m_X11_put : MT := (yX11_put, cX11_put, 3, none)
theorem ok_X11_put : pOk m_X11_put := ⟨⟨cd_X11_put, ini_11⟩, by decide +kernel, ⟨by decide +kernel, by decide +kernel⟩, Nat.le_of_ble_eq_true rfl⟩
theorem np_X11_put : (parseMethodDescriptor yX11_put.desc).map (fun d => d.parameters.length) = some 3 := by decide +kernel
theorem stt_X11_put : Cond.static yX11_put ∈ pWW := pw3 (List.mem_of_getElem? (i := 55) rfl) rfl
theorem dX11_put_0 : decode cX11_put 0 = .ok (.aload_n 0, 1) := by decide +kernel
theorem dX11_put_1 : decode cX11_put 1 = .ok (.ifnull 17, 3) := by decide +kernel
theorem dX11_put_4 : decode cX11_put 4 = .ok (.iload_n 1, 1) := by decide +kernel
theorem dX11_put_5 : decode cX11_put 5 = .ok (.ifCond .lt 13, 3) := by decide +kernel
theorem dX11_put_18 : decode cX11_put 18 = .ok (.return_, 1) := by decide +kernel
theorem dX11_put_8 : decode cX11_put 8 = .ok (.iload_n 1, 1) := by decide +kernel
theorem dX11_put_9 : decode cX11_put 9 = .ok (.aload_n 0, 1) := by decide +kernel
theorem dX11_put_10 : decode cX11_put 10 = .ok (.arraylength, 1) := by decide +kernel
theorem dX11_put_11 : decode cX11_put 11 = .ok (.if_icmp .ge 7, 3) := by decide +kernel
theorem dX11_put_14 : decode cX11_put 14 = .ok (.aload_n 0, 1) := by decide +kernel
theorem dX11_put_15 : decode cX11_put 15 = .ok (.iload_n 1, 1) := by decide +kernel
theorem dX11_put_16 : decode cX11_put 16 = .ok (.iload_n 2, 1) := by decide +kernel
theorem dX11_put_17 : decode cX11_put 17 = .ok (.iastore, 1) := by decide +kernel
set_option maxRecDepth 20000 in
theorem k_X11_put (d : Nat) {T : CT} {σ : MS} {x : Nat} {i : Int} {y : Int} (h_x : IA T x) (l_x : (T x).2 ≤ 1000000) (h_i : -2147483648 ≤ i ∧ i ≤ 2147483647) (h_y : -2147483648 ≤ y ∧ y ≤ 2147483647) (hw : WT T σ) (n_x : NH T x) (k_x : VOK (T x).1 i y) : Tn (d + 1) m_X11_put 0 T σ [(0, .ref x), (1, .int (iI i)), (2, .int (iI y))] [] (fun ro T2 σ2 => ro = none ∧ T = T2 ∧ WT T2 σ2 ∧ FrC T [] σ σ2) := by
  refine tn_aload_n dX11_put_0 rfl 0 rfl ?_
  refine tn_ifnull dX11_put_1 ?_
  refine tn_iload_n dX11_put_4 rfl 1 rfl ?_
  refine tn_if_lt (tgt := 18) dX11_put_5 (by decide) ⟨by omega, by omega⟩ (fun h1 => ?_) (fun h1 => ?_)
  · exact tn_vret rfl dX11_put_18 ⟨rfl, rfl, hw, FrC.rfl⟩
  · refine tn_iload_n dX11_put_8 rfl 1 rfl ?_
    refine tn_aload_n dX11_put_9 rfl 0 rfl ?_
    refine tn_alenX dX11_put_10 (Or.inl h_x) ?_
    refine tn_icmp_ge (tgt := 18) dX11_put_11 (by decide) ⟨by omega, by omega⟩ ⟨by omega, by omega⟩ (fun h2 => ?_) (fun h2 => ?_)
    · exact tn_vret rfl dX11_put_18 ⟨rfl, rfl, hw, FrC.rfl⟩
    · refine tn_aload_n dX11_put_14 rfl 0 rfl ?_
      refine tn_iload_n dX11_put_15 rfl 1 rfl ?_
      refine tn_iload_n dX11_put_16 rfl 2 rfl ?_
      refine tn_iast (z := i) (v := y) dX11_put_17 h_x (by omega) (by omega) (by omega) ?_
      exact tn_vret rfl dX11_put_18 ⟨rfl, rfl, (hw.arr (Or.inl h_x) k_x), (FrC.rfl.arr (hk_no n_x))⟩
set_option maxRecDepth 20000 in
theorem k_X11_put_12 (d : Nat) {T : CT} {σ : MS} {x : Nat} {i : Int} {y : Int} (h_x : IA T x) (l_x : (T x).2 ≤ 1000000) (t_x : (T x).1 = 12) (h_i : -2147483648 ≤ i ∧ i ≤ 2147483647) (h_y : -2147483648 ≤ y ∧ y ≤ 2147483647) (hw : WT T σ) (k_x : VOK (T x).1 i y) : Tn (d + 1) m_X11_put 0 T σ [(0, .ref x), (1, .int (iI i)), (2, .int (iI y))] [] (fun ro T2 σ2 => ro = none ∧ T = T2 ∧ WT T2 σ2 ∧ FrC T [512] σ σ2 ∧ (σ2 = (if 0 ≤ i ∧ i < ((T x).2 : Int) then sA (1000 + x) i y σ else σ))) := by
  refine tn_aload_n dX11_put_0 rfl 0 rfl ?_
  refine tn_ifnull dX11_put_1 ?_
  refine tn_iload_n dX11_put_4 rfl 1 rfl ?_
  refine tn_if_lt (tgt := 18) dX11_put_5 (by decide) ⟨by omega, by omega⟩ (fun h1 => ?_) (fun h1 => ?_)
  · exact tn_vret rfl dX11_put_18 ⟨rfl, rfl, hw, FrC.rfl, (if_neg (by omega)).symm⟩
  · refine tn_iload_n dX11_put_8 rfl 1 rfl ?_
    refine tn_aload_n dX11_put_9 rfl 0 rfl ?_
    refine tn_alenX dX11_put_10 (Or.inl h_x) ?_
    refine tn_icmp_ge (tgt := 18) dX11_put_11 (by decide) ⟨by omega, by omega⟩ ⟨by omega, by omega⟩ (fun h2 => ?_) (fun h2 => ?_)
    · exact tn_vret rfl dX11_put_18 ⟨rfl, rfl, hw, FrC.rfl, (if_neg (by omega)).symm⟩
    · refine tn_aload_n dX11_put_14 rfl 0 rfl ?_
      refine tn_iload_n dX11_put_15 rfl 1 rfl ?_
      refine tn_iload_n dX11_put_16 rfl 2 rfl ?_
      refine tn_iast (z := i) (v := y) dX11_put_17 h_x (by omega) (by omega) (by omega) ?_
      exact tn_vret rfl dX11_put_18 ⟨rfl, rfl, (hw.arr (Or.inl h_x) k_x), (FrC.rfl.arr (hk_in t_x (by decide))), (if_pos ⟨by omega, by omega⟩).symm⟩
set_option maxRecDepth 20000 in
theorem k_X11_put_15 (d : Nat) {T : CT} {σ : MS} {x : Nat} {i : Int} {y : Int} (h_x : IA T x) (l_x : (T x).2 ≤ 1000000) (t_x : (T x).1 = 15) (h_i : -2147483648 ≤ i ∧ i ≤ 2147483647) (h_y : -2147483648 ≤ y ∧ y ≤ 2147483647) (hw : WT T σ) : Tn (d + 1) m_X11_put 0 T σ [(0, .ref x), (1, .int (iI i)), (2, .int (iI y))] [] (fun ro T2 σ2 => ro = none ∧ T = T2 ∧ WT T2 σ2 ∧ FrC T [515] σ σ2 ∧ (σ2 = (if 0 ≤ i ∧ i < ((T x).2 : Int) then sA (1000 + x) i y σ else σ))) := by
  refine tn_aload_n dX11_put_0 rfl 0 rfl ?_
  refine tn_ifnull dX11_put_1 ?_
  refine tn_iload_n dX11_put_4 rfl 1 rfl ?_
  refine tn_if_lt (tgt := 18) dX11_put_5 (by decide) ⟨by omega, by omega⟩ (fun h1 => ?_) (fun h1 => ?_)
  · exact tn_vret rfl dX11_put_18 ⟨rfl, rfl, hw, FrC.rfl, (if_neg (by omega)).symm⟩
  · refine tn_iload_n dX11_put_8 rfl 1 rfl ?_
    refine tn_aload_n dX11_put_9 rfl 0 rfl ?_
    refine tn_alenX dX11_put_10 (Or.inl h_x) ?_
    refine tn_icmp_ge (tgt := 18) dX11_put_11 (by decide) ⟨by omega, by omega⟩ ⟨by omega, by omega⟩ (fun h2 => ?_) (fun h2 => ?_)
    · exact tn_vret rfl dX11_put_18 ⟨rfl, rfl, hw, FrC.rfl, (if_neg (by omega)).symm⟩
    · refine tn_aload_n dX11_put_14 rfl 0 rfl ?_
      refine tn_iload_n dX11_put_15 rfl 1 rfl ?_
      refine tn_iload_n dX11_put_16 rfl 2 rfl ?_
      refine tn_iast (z := i) (v := y) dX11_put_17 h_x (by omega) (by omega) (by omega) ?_
      exact tn_vret rfl dX11_put_18 ⟨rfl, rfl, (hw.arr (Or.inl h_x) (vok_1 (by have q9 := t_x; omega) (by omega))), (FrC.rfl.arr (hk_in t_x (by decide))), (if_pos ⟨by omega, by omega⟩).symm⟩
set_option maxRecDepth 20000 in
theorem k_X11_put_16 (d : Nat) {T : CT} {σ : MS} {x : Nat} {i : Int} {y : Int} (h_x : IA T x) (l_x : (T x).2 ≤ 1000000) (t_x : (T x).1 = 16) (h_i : -2147483648 ≤ i ∧ i ≤ 2147483647) (h_y : -2147483648 ≤ y ∧ y ≤ 2147483647) (hw : WT T σ) : Tn (d + 1) m_X11_put 0 T σ [(0, .ref x), (1, .int (iI i)), (2, .int (iI y))] [] (fun ro T2 σ2 => ro = none ∧ T = T2 ∧ WT T2 σ2 ∧ FrC T [516] σ σ2 ∧ (σ2 = (if 0 ≤ i ∧ i < ((T x).2 : Int) then sA (1000 + x) i y σ else σ))) := by
  refine tn_aload_n dX11_put_0 rfl 0 rfl ?_
  refine tn_ifnull dX11_put_1 ?_
  refine tn_iload_n dX11_put_4 rfl 1 rfl ?_
  refine tn_if_lt (tgt := 18) dX11_put_5 (by decide) ⟨by omega, by omega⟩ (fun h1 => ?_) (fun h1 => ?_)
  · exact tn_vret rfl dX11_put_18 ⟨rfl, rfl, hw, FrC.rfl, (if_neg (by omega)).symm⟩
  · refine tn_iload_n dX11_put_8 rfl 1 rfl ?_
    refine tn_aload_n dX11_put_9 rfl 0 rfl ?_
    refine tn_alenX dX11_put_10 (Or.inl h_x) ?_
    refine tn_icmp_ge (tgt := 18) dX11_put_11 (by decide) ⟨by omega, by omega⟩ ⟨by omega, by omega⟩ (fun h2 => ?_) (fun h2 => ?_)
    · exact tn_vret rfl dX11_put_18 ⟨rfl, rfl, hw, FrC.rfl, (if_neg (by omega)).symm⟩
    · refine tn_aload_n dX11_put_14 rfl 0 rfl ?_
      refine tn_iload_n dX11_put_15 rfl 1 rfl ?_
      refine tn_iload_n dX11_put_16 rfl 2 rfl ?_
      refine tn_iast (z := i) (v := y) dX11_put_17 h_x (by omega) (by omega) (by omega) ?_
      exact tn_vret rfl dX11_put_18 ⟨rfl, rfl, (hw.arr (Or.inl h_x) (vok_1 (by have q9 := t_x; omega) (by omega))), (FrC.rfl.arr (hk_in t_x (by decide))), (if_pos ⟨by omega, by omega⟩).symm⟩
set_option maxRecDepth 20000 in
theorem k_X11_put_17 (d : Nat) {T : CT} {σ : MS} {x : Nat} {i : Int} {y : Int} (h_x : IA T x) (l_x : (T x).2 ≤ 1000000) (t_x : (T x).1 = 17) (h_i : -2147483648 ≤ i ∧ i ≤ 2147483647) (h_y : -2147483648 ≤ y ∧ y ≤ 2147483647) (hw : WT T σ) : Tn (d + 1) m_X11_put 0 T σ [(0, .ref x), (1, .int (iI i)), (2, .int (iI y))] [] (fun ro T2 σ2 => ro = none ∧ T = T2 ∧ WT T2 σ2 ∧ FrC T [517] σ σ2 ∧ (σ2 = (if 0 ≤ i ∧ i < ((T x).2 : Int) then sA (1000 + x) i y σ else σ))) := by
  refine tn_aload_n dX11_put_0 rfl 0 rfl ?_
  refine tn_ifnull dX11_put_1 ?_
  refine tn_iload_n dX11_put_4 rfl 1 rfl ?_
  refine tn_if_lt (tgt := 18) dX11_put_5 (by decide) ⟨by omega, by omega⟩ (fun h1 => ?_) (fun h1 => ?_)
  · exact tn_vret rfl dX11_put_18 ⟨rfl, rfl, hw, FrC.rfl, (if_neg (by omega)).symm⟩
  · refine tn_iload_n dX11_put_8 rfl 1 rfl ?_
    refine tn_aload_n dX11_put_9 rfl 0 rfl ?_
    refine tn_alenX dX11_put_10 (Or.inl h_x) ?_
    refine tn_icmp_ge (tgt := 18) dX11_put_11 (by decide) ⟨by omega, by omega⟩ ⟨by omega, by omega⟩ (fun h2 => ?_) (fun h2 => ?_)
    · exact tn_vret rfl dX11_put_18 ⟨rfl, rfl, hw, FrC.rfl, (if_neg (by omega)).symm⟩
    · refine tn_aload_n dX11_put_14 rfl 0 rfl ?_
      refine tn_iload_n dX11_put_15 rfl 1 rfl ?_
      refine tn_iload_n dX11_put_16 rfl 2 rfl ?_
      refine tn_iast (z := i) (v := y) dX11_put_17 h_x (by omega) (by omega) (by omega) ?_
      exact tn_vret rfl dX11_put_18 ⟨rfl, rfl, (hw.arr (Or.inl h_x) (vok_1 (by have q9 := t_x; omega) (by omega))), (FrC.rfl.arr (hk_in t_x (by decide))), (if_pos ⟨by omega, by omega⟩).symm⟩
set_option maxRecDepth 20000 in
theorem k_X11_put_18 (d : Nat) {T : CT} {σ : MS} {x : Nat} {i : Int} {y : Int} (h_x : IA T x) (l_x : (T x).2 ≤ 1000000) (t_x : (T x).1 = 18) (h_i : -2147483648 ≤ i ∧ i ≤ 2147483647) (h_y : -2147483648 ≤ y ∧ y ≤ 2147483647) (hw : WT T σ) : Tn (d + 1) m_X11_put 0 T σ [(0, .ref x), (1, .int (iI i)), (2, .int (iI y))] [] (fun ro T2 σ2 => ro = none ∧ T = T2 ∧ WT T2 σ2 ∧ FrC T [518] σ σ2 ∧ (σ2 = (if 0 ≤ i ∧ i < ((T x).2 : Int) then sA (1000 + x) i y σ else σ))) := by
  refine tn_aload_n dX11_put_0 rfl 0 rfl ?_
  refine tn_ifnull dX11_put_1 ?_
  refine tn_iload_n dX11_put_4 rfl 1 rfl ?_
  refine tn_if_lt (tgt := 18) dX11_put_5 (by decide) ⟨by omega, by omega⟩ (fun h1 => ?_) (fun h1 => ?_)
  · exact tn_vret rfl dX11_put_18 ⟨rfl, rfl, hw, FrC.rfl, (if_neg (by omega)).symm⟩
  · refine tn_iload_n dX11_put_8 rfl 1 rfl ?_
    refine tn_aload_n dX11_put_9 rfl 0 rfl ?_
    refine tn_alenX dX11_put_10 (Or.inl h_x) ?_
    refine tn_icmp_ge (tgt := 18) dX11_put_11 (by decide) ⟨by omega, by omega⟩ ⟨by omega, by omega⟩ (fun h2 => ?_) (fun h2 => ?_)
    · exact tn_vret rfl dX11_put_18 ⟨rfl, rfl, hw, FrC.rfl, (if_neg (by omega)).symm⟩
    · refine tn_aload_n dX11_put_14 rfl 0 rfl ?_
      refine tn_iload_n dX11_put_15 rfl 1 rfl ?_
      refine tn_iload_n dX11_put_16 rfl 2 rfl ?_
      refine tn_iast (z := i) (v := y) dX11_put_17 h_x (by omega) (by omega) (by omega) ?_
      exact tn_vret rfl dX11_put_18 ⟨rfl, rfl, (hw.arr (Or.inl h_x) (vok_1 (by have q9 := t_x; omega) (by omega))), (FrC.rfl.arr (hk_in t_x (by decide))), (if_pos ⟨by omega, by omega⟩).symm⟩
set_option maxRecDepth 20000 in
theorem k_X11_put_19 (d : Nat) {T : CT} {σ : MS} {x : Nat} {i : Int} {y : Int} (h_x : IA T x) (l_x : (T x).2 ≤ 1000000) (t_x : (T x).1 = 19) (h_i : -2147483648 ≤ i ∧ i ≤ 2147483647) (h_y : -2147483648 ≤ y ∧ y ≤ 2147483647) (hw : WT T σ) : Tn (d + 1) m_X11_put 0 T σ [(0, .ref x), (1, .int (iI i)), (2, .int (iI y))] [] (fun ro T2 σ2 => ro = none ∧ T = T2 ∧ WT T2 σ2 ∧ FrC T [519] σ σ2 ∧ (σ2 = (if 0 ≤ i ∧ i < ((T x).2 : Int) then sA (1000 + x) i y σ else σ))) := by
  refine tn_aload_n dX11_put_0 rfl 0 rfl ?_
  refine tn_ifnull dX11_put_1 ?_
  refine tn_iload_n dX11_put_4 rfl 1 rfl ?_
  refine tn_if_lt (tgt := 18) dX11_put_5 (by decide) ⟨by omega, by omega⟩ (fun h1 => ?_) (fun h1 => ?_)
  · exact tn_vret rfl dX11_put_18 ⟨rfl, rfl, hw, FrC.rfl, (if_neg (by omega)).symm⟩
  · refine tn_iload_n dX11_put_8 rfl 1 rfl ?_
    refine tn_aload_n dX11_put_9 rfl 0 rfl ?_
    refine tn_alenX dX11_put_10 (Or.inl h_x) ?_
    refine tn_icmp_ge (tgt := 18) dX11_put_11 (by decide) ⟨by omega, by omega⟩ ⟨by omega, by omega⟩ (fun h2 => ?_) (fun h2 => ?_)
    · exact tn_vret rfl dX11_put_18 ⟨rfl, rfl, hw, FrC.rfl, (if_neg (by omega)).symm⟩
    · refine tn_aload_n dX11_put_14 rfl 0 rfl ?_
      refine tn_iload_n dX11_put_15 rfl 1 rfl ?_
      refine tn_iload_n dX11_put_16 rfl 2 rfl ?_
      refine tn_iast (z := i) (v := y) dX11_put_17 h_x (by omega) (by omega) (by omega) ?_
      exact tn_vret rfl dX11_put_18 ⟨rfl, rfl, (hw.arr (Or.inl h_x) (vok_1 (by have q9 := t_x; omega) (by omega))), (FrC.rfl.arr (hk_in t_x (by decide))), (if_pos ⟨by omega, by omega⟩).symm⟩
set_option maxRecDepth 20000 in
theorem k_X11_put_20 (d : Nat) {T : CT} {σ : MS} {x : Nat} {i : Int} {y : Int} (h_x : IA T x) (l_x : (T x).2 ≤ 1000000) (t_x : (T x).1 = 20) (h_i : -2147483648 ≤ i ∧ i ≤ 2147483647) (h_y : -2147483648 ≤ y ∧ y ≤ 2147483647) (hw : WT T σ) : Tn (d + 1) m_X11_put 0 T σ [(0, .ref x), (1, .int (iI i)), (2, .int (iI y))] [] (fun ro T2 σ2 => ro = none ∧ T = T2 ∧ WT T2 σ2 ∧ FrC T [520] σ σ2 ∧ (σ2 = (if 0 ≤ i ∧ i < ((T x).2 : Int) then sA (1000 + x) i y σ else σ))) := by
  refine tn_aload_n dX11_put_0 rfl 0 rfl ?_
  refine tn_ifnull dX11_put_1 ?_
  refine tn_iload_n dX11_put_4 rfl 1 rfl ?_
  refine tn_if_lt (tgt := 18) dX11_put_5 (by decide) ⟨by omega, by omega⟩ (fun h1 => ?_) (fun h1 => ?_)
  · exact tn_vret rfl dX11_put_18 ⟨rfl, rfl, hw, FrC.rfl, (if_neg (by omega)).symm⟩
  · refine tn_iload_n dX11_put_8 rfl 1 rfl ?_
    refine tn_aload_n dX11_put_9 rfl 0 rfl ?_
    refine tn_alenX dX11_put_10 (Or.inl h_x) ?_
    refine tn_icmp_ge (tgt := 18) dX11_put_11 (by decide) ⟨by omega, by omega⟩ ⟨by omega, by omega⟩ (fun h2 => ?_) (fun h2 => ?_)
    · exact tn_vret rfl dX11_put_18 ⟨rfl, rfl, hw, FrC.rfl, (if_neg (by omega)).symm⟩
    · refine tn_aload_n dX11_put_14 rfl 0 rfl ?_
      refine tn_iload_n dX11_put_15 rfl 1 rfl ?_
      refine tn_iload_n dX11_put_16 rfl 2 rfl ?_
      refine tn_iast (z := i) (v := y) dX11_put_17 h_x (by omega) (by omega) (by omega) ?_
      exact tn_vret rfl dX11_put_18 ⟨rfl, rfl, (hw.arr (Or.inl h_x) (vok_1 (by have q9 := t_x; omega) (by omega))), (FrC.rfl.arr (hk_in t_x (by decide))), (if_pos ⟨by omega, by omega⟩).symm⟩
set_option maxRecDepth 20000 in
theorem k_X11_put_21 (d : Nat) {T : CT} {σ : MS} {x : Nat} {i : Int} {y : Int} (h_x : IA T x) (l_x : (T x).2 ≤ 1000000) (t_x : (T x).1 = 21) (h_i : -2147483648 ≤ i ∧ i ≤ 2147483647) (h_y : -2147483648 ≤ y ∧ y ≤ 2147483647) (hw : WT T σ) : Tn (d + 1) m_X11_put 0 T σ [(0, .ref x), (1, .int (iI i)), (2, .int (iI y))] [] (fun ro T2 σ2 => ro = none ∧ T = T2 ∧ WT T2 σ2 ∧ FrC T [521] σ σ2 ∧ (σ2 = (if 0 ≤ i ∧ i < ((T x).2 : Int) then sA (1000 + x) i y σ else σ))) := by
  refine tn_aload_n dX11_put_0 rfl 0 rfl ?_
  refine tn_ifnull dX11_put_1 ?_
  refine tn_iload_n dX11_put_4 rfl 1 rfl ?_
  refine tn_if_lt (tgt := 18) dX11_put_5 (by decide) ⟨by omega, by omega⟩ (fun h1 => ?_) (fun h1 => ?_)
  · exact tn_vret rfl dX11_put_18 ⟨rfl, rfl, hw, FrC.rfl, (if_neg (by omega)).symm⟩
  · refine tn_iload_n dX11_put_8 rfl 1 rfl ?_
    refine tn_aload_n dX11_put_9 rfl 0 rfl ?_
    refine tn_alenX dX11_put_10 (Or.inl h_x) ?_
    refine tn_icmp_ge (tgt := 18) dX11_put_11 (by decide) ⟨by omega, by omega⟩ ⟨by omega, by omega⟩ (fun h2 => ?_) (fun h2 => ?_)
    · exact tn_vret rfl dX11_put_18 ⟨rfl, rfl, hw, FrC.rfl, (if_neg (by omega)).symm⟩
    · refine tn_aload_n dX11_put_14 rfl 0 rfl ?_
      refine tn_iload_n dX11_put_15 rfl 1 rfl ?_
      refine tn_iload_n dX11_put_16 rfl 2 rfl ?_
      refine tn_iast (z := i) (v := y) dX11_put_17 h_x (by omega) (by omega) (by omega) ?_
      exact tn_vret rfl dX11_put_18 ⟨rfl, rfl, (hw.arr (Or.inl h_x) (vok_1 (by have q9 := t_x; omega) (by omega))), (FrC.rfl.arr (hk_in t_x (by decide))), (if_pos ⟨by omega, by omega⟩).symm⟩
set_option maxRecDepth 20000 in
theorem k_X11_put_22 (d : Nat) {T : CT} {σ : MS} {x : Nat} {i : Int} {y : Int} (h_x : IA T x) (l_x : (T x).2 ≤ 1000000) (t_x : (T x).1 = 22) (h_i : -2147483648 ≤ i ∧ i ≤ 2147483647) (h_y : -2147483648 ≤ y ∧ y ≤ 2147483647) (hw : WT T σ) : Tn (d + 1) m_X11_put 0 T σ [(0, .ref x), (1, .int (iI i)), (2, .int (iI y))] [] (fun ro T2 σ2 => ro = none ∧ T = T2 ∧ WT T2 σ2 ∧ FrC T [522] σ σ2 ∧ (σ2 = (if 0 ≤ i ∧ i < ((T x).2 : Int) then sA (1000 + x) i y σ else σ))) := by
  refine tn_aload_n dX11_put_0 rfl 0 rfl ?_
  refine tn_ifnull dX11_put_1 ?_
  refine tn_iload_n dX11_put_4 rfl 1 rfl ?_
  refine tn_if_lt (tgt := 18) dX11_put_5 (by decide) ⟨by omega, by omega⟩ (fun h1 => ?_) (fun h1 => ?_)
  · exact tn_vret rfl dX11_put_18 ⟨rfl, rfl, hw, FrC.rfl, (if_neg (by omega)).symm⟩
  · refine tn_iload_n dX11_put_8 rfl 1 rfl ?_
    refine tn_aload_n dX11_put_9 rfl 0 rfl ?_
    refine tn_alenX dX11_put_10 (Or.inl h_x) ?_
    refine tn_icmp_ge (tgt := 18) dX11_put_11 (by decide) ⟨by omega, by omega⟩ ⟨by omega, by omega⟩ (fun h2 => ?_) (fun h2 => ?_)
    · exact tn_vret rfl dX11_put_18 ⟨rfl, rfl, hw, FrC.rfl, (if_neg (by omega)).symm⟩
    · refine tn_aload_n dX11_put_14 rfl 0 rfl ?_
      refine tn_iload_n dX11_put_15 rfl 1 rfl ?_
      refine tn_iload_n dX11_put_16 rfl 2 rfl ?_
      refine tn_iast (z := i) (v := y) dX11_put_17 h_x (by omega) (by omega) (by omega) ?_
      exact tn_vret rfl dX11_put_18 ⟨rfl, rfl, (hw.arr (Or.inl h_x) (vok_1 (by have q9 := t_x; omega) (by omega))), (FrC.rfl.arr (hk_in t_x (by decide))), (if_pos ⟨by omega, by omega⟩).symm⟩
set_option maxRecDepth 20000 in
theorem k_X11_put_23 (d : Nat) {T : CT} {σ : MS} {x : Nat} {i : Int} {y : Int} (h_x : IA T x) (l_x : (T x).2 ≤ 1000000) (t_x : (T x).1 = 23) (h_i : -2147483648 ≤ i ∧ i ≤ 2147483647) (h_y : -2147483648 ≤ y ∧ y ≤ 2147483647) (hw : WT T σ) : Tn (d + 1) m_X11_put 0 T σ [(0, .ref x), (1, .int (iI i)), (2, .int (iI y))] [] (fun ro T2 σ2 => ro = none ∧ T = T2 ∧ WT T2 σ2 ∧ FrC T [523] σ σ2 ∧ (σ2 = (if 0 ≤ i ∧ i < ((T x).2 : Int) then sA (1000 + x) i y σ else σ))) := by
  refine tn_aload_n dX11_put_0 rfl 0 rfl ?_
  refine tn_ifnull dX11_put_1 ?_
  refine tn_iload_n dX11_put_4 rfl 1 rfl ?_
  refine tn_if_lt (tgt := 18) dX11_put_5 (by decide) ⟨by omega, by omega⟩ (fun h1 => ?_) (fun h1 => ?_)
  · exact tn_vret rfl dX11_put_18 ⟨rfl, rfl, hw, FrC.rfl, (if_neg (by omega)).symm⟩
  · refine tn_iload_n dX11_put_8 rfl 1 rfl ?_
    refine tn_aload_n dX11_put_9 rfl 0 rfl ?_
    refine tn_alenX dX11_put_10 (Or.inl h_x) ?_
    refine tn_icmp_ge (tgt := 18) dX11_put_11 (by decide) ⟨by omega, by omega⟩ ⟨by omega, by omega⟩ (fun h2 => ?_) (fun h2 => ?_)
    · exact tn_vret rfl dX11_put_18 ⟨rfl, rfl, hw, FrC.rfl, (if_neg (by omega)).symm⟩
    · refine tn_aload_n dX11_put_14 rfl 0 rfl ?_
      refine tn_iload_n dX11_put_15 rfl 1 rfl ?_
      refine tn_iload_n dX11_put_16 rfl 2 rfl ?_
      refine tn_iast (z := i) (v := y) dX11_put_17 h_x (by omega) (by omega) (by omega) ?_
      exact tn_vret rfl dX11_put_18 ⟨rfl, rfl, (hw.arr (Or.inl h_x) (vok_1 (by have q9 := t_x; omega) (by omega))), (FrC.rfl.arr (hk_in t_x (by decide))), (if_pos ⟨by omega, by omega⟩).symm⟩
theorem cd_X11_bitsAt : Cond.code yX11_bitsAt cX11_bitsAt 2 (some .long) ∈ pWW := pw5 (List.mem_of_getElem? (i := 39) rfl) rfl
abbrev m_X11_bitsAt : MT := (yX11_bitsAt, cX11_bitsAt, 2, (some .long))
theorem ok_X11_bitsAt : pOk m_X11_bitsAt := ⟨⟨cd_X11_bitsAt, ini_11⟩, by decide +kernel, ⟨by decide +kernel, by decide +kernel⟩, Nat.le_of_ble_eq_true rfl⟩
theorem np_X11_bitsAt : (parseMethodDescriptor yX11_bitsAt.desc).map (fun d => d.parameters.length) = some 2 := by decide +kernel
theorem stt_X11_bitsAt : Cond.static yX11_bitsAt ∈ pWW := pw5 (List.mem_of_getElem? (i := 38) rfl) rfl
theorem dX11_bitsAt_0 : decode cX11_bitsAt 0 = .ok (.aload_n 0, 1) := by decide +kernel
theorem dX11_bitsAt_1 : decode cX11_bitsAt 1 = .ok (.ifnull 19, 3) := by decide +kernel
theorem dX11_bitsAt_4 : decode cX11_bitsAt 4 = .ok (.iload_n 1, 1) := by decide +kernel
theorem dX11_bitsAt_5 : decode cX11_bitsAt 5 = .ok (.ifCond .lt 15, 3) := by decide +kernel
theorem dX11_bitsAt_20 : decode cX11_bitsAt 20 = .ok (.lconst 0, 1) := by decide +kernel
theorem dX11_bitsAt_21 : decode cX11_bitsAt 21 = .ok (.lreturn, 1) := by decide +kernel
theorem dX11_bitsAt_8 : decode cX11_bitsAt 8 = .ok (.iload_n 1, 1) := by decide +kernel
theorem dX11_bitsAt_9 : decode cX11_bitsAt 9 = .ok (.aload_n 0, 1) := by decide +kernel
theorem dX11_bitsAt_10 : decode cX11_bitsAt 10 = .ok (.arraylength, 1) := by decide +kernel
theorem dX11_bitsAt_11 : decode cX11_bitsAt 11 = .ok (.if_icmp .ge 9, 3) := by decide +kernel
theorem dX11_bitsAt_14 : decode cX11_bitsAt 14 = .ok (.aload_n 0, 1) := by decide +kernel
theorem dX11_bitsAt_15 : decode cX11_bitsAt 15 = .ok (.iload_n 1, 1) := by decide +kernel
theorem dX11_bitsAt_16 : decode cX11_bitsAt 16 = .ok (.laload, 1) := by decide +kernel
theorem dX11_bitsAt_17 : decode cX11_bitsAt 17 = .ok (.goto 4, 3) := by decide +kernel
set_option maxRecDepth 20000 in
theorem k_X11_bitsAt (d : Nat) {T : CT} {σ : MS} {x : Nat} {i : Int} (h_x : (T x).1 = 3) (l_x : (T x).2 ≤ 1000000) (h_i : -2147483648 ≤ i ∧ i ≤ 2147483647) (hw : WT T σ) : Tn (d + 1) m_X11_bitsAt 0 T σ [(0, .ref x), (1, .int (iI i))] [] (fun ro T2 σ2 => ∃ v : Int64, ro = some (.long v) ∧ T = T2 ∧ σ = σ2) := by
  refine tn_aload_n dX11_bitsAt_0 rfl 0 rfl ?_
  refine tn_ifnull dX11_bitsAt_1 ?_
  refine tn_iload_n dX11_bitsAt_4 rfl 1 rfl ?_
  refine tn_if_lt (tgt := 20) dX11_bitsAt_5 (by decide) ⟨by omega, by omega⟩ (fun h1 => ?_) (fun h1 => ?_)
  · refine tn_lconst (v := 0) dX11_bitsAt_20 rfl ?_
    exact tn_lret rfl dX11_bitsAt_21 ⟨_, rfl, rfl, rfl⟩
  · refine tn_iload_n dX11_bitsAt_8 rfl 1 rfl ?_
    refine tn_aload_n dX11_bitsAt_9 rfl 0 rfl ?_
    refine tn_alenX dX11_bitsAt_10 (Or.inr (Or.inr (Or.inl h_x))) ?_
    refine tn_icmp_ge (tgt := 20) dX11_bitsAt_11 (by decide) ⟨by omega, by omega⟩ ⟨by omega, by omega⟩ (fun h2 => ?_) (fun h2 => ?_)
    · refine tn_lconst (v := 0) dX11_bitsAt_20 rfl ?_
      exact tn_lret rfl dX11_bitsAt_21 ⟨_, rfl, rfl, rfl⟩
    · refine tn_aload_n dX11_bitsAt_14 rfl 0 rfl ?_
      refine tn_iload_n dX11_bitsAt_15 rfl 1 rfl ?_
      refine tn_laldX (z := i) dX11_bitsAt_16 h_x (by omega) (by omega) (by omega) (fun v3 => ?_)
      refine tn_goto (tgt := 21) dX11_bitsAt_17 (by decide) ?_
      exact tn_lret rfl dX11_bitsAt_21 ⟨_, rfl, rfl, rfl⟩
theorem cd_X11_putBits : Cond.code yX11_putBits cX11_putBits 4 none ∈ pWW := pw5 (List.mem_of_getElem? (i := 42) rfl) rfl
abbrev m_X11_putBits : MT := (yX11_putBits, cX11_putBits, 4, none)
theorem ok_X11_putBits : pOk m_X11_putBits := ⟨⟨cd_X11_putBits, ini_11⟩, by decide +kernel, ⟨by decide +kernel, by decide +kernel⟩, Nat.le_of_ble_eq_true rfl⟩
theorem np_X11_putBits : (parseMethodDescriptor yX11_putBits.desc).map (fun d => d.parameters.length) = some 3 := by decide +kernel
theorem stt_X11_putBits : Cond.static yX11_putBits ∈ pWW := pw5 (List.mem_of_getElem? (i := 41) rfl) rfl
theorem dX11_putBits_0 : decode cX11_putBits 0 = .ok (.aload_n 0, 1) := by decide +kernel
theorem dX11_putBits_1 : decode cX11_putBits 1 = .ok (.ifnull 17, 3) := by decide +kernel
theorem dX11_putBits_4 : decode cX11_putBits 4 = .ok (.iload_n 1, 1) := by decide +kernel
theorem dX11_putBits_5 : decode cX11_putBits 5 = .ok (.ifCond .lt 13, 3) := by decide +kernel
theorem dX11_putBits_18 : decode cX11_putBits 18 = .ok (.return_, 1) := by decide +kernel
theorem dX11_putBits_8 : decode cX11_putBits 8 = .ok (.iload_n 1, 1) := by decide +kernel
theorem dX11_putBits_9 : decode cX11_putBits 9 = .ok (.aload_n 0, 1) := by decide +kernel
theorem dX11_putBits_10 : decode cX11_putBits 10 = .ok (.arraylength, 1) := by decide +kernel
theorem dX11_putBits_11 : decode cX11_putBits 11 = .ok (.if_icmp .ge 7, 3) := by decide +kernel
theorem dX11_putBits_14 : decode cX11_putBits 14 = .ok (.aload_n 0, 1) := by decide +kernel
theorem dX11_putBits_15 : decode cX11_putBits 15 = .ok (.iload_n 1, 1) := by decide +kernel
theorem dX11_putBits_16 : decode cX11_putBits 16 = .ok (.lload_n 2, 1) := by decide +kernel
theorem dX11_putBits_17 : decode cX11_putBits 17 = .ok (.lastore, 1) := by decide +kernel
set_option maxRecDepth 20000 in
theorem k_X11_putBits (d : Nat) {T : CT} {σ : MS} {x : Nat} {i : Int} {w : Int64} (h_x : (T x).1 = 3) (l_x : (T x).2 ≤ 1000000) (h_i : -2147483648 ≤ i ∧ i ≤ 2147483647) (hw : WT T σ) : Tn (d + 1) m_X11_putBits 0 T σ [(0, .ref x), (1, .int (iI i)), (2, .long (w))] [] (fun ro T2 σ2 => ro = none ∧ T = T2 ∧ WT T2 σ2 ∧ FrC T [] σ σ2) := by
  refine tn_aload_n dX11_putBits_0 rfl 0 rfl ?_
  refine tn_ifnull dX11_putBits_1 ?_
  refine tn_iload_n dX11_putBits_4 rfl 1 rfl ?_
  refine tn_if_lt (tgt := 18) dX11_putBits_5 (by decide) ⟨by omega, by omega⟩ (fun h1 => ?_) (fun h1 => ?_)
  · exact tn_vret rfl dX11_putBits_18 ⟨rfl, rfl, hw, FrC.rfl⟩
  · refine tn_iload_n dX11_putBits_8 rfl 1 rfl ?_
    refine tn_aload_n dX11_putBits_9 rfl 0 rfl ?_
    refine tn_alenX dX11_putBits_10 (Or.inr (Or.inr (Or.inl h_x))) ?_
    refine tn_icmp_ge (tgt := 18) dX11_putBits_11 (by decide) ⟨by omega, by omega⟩ ⟨by omega, by omega⟩ (fun h2 => ?_) (fun h2 => ?_)
    · exact tn_vret rfl dX11_putBits_18 ⟨rfl, rfl, hw, FrC.rfl⟩
    · refine tn_aload_n dX11_putBits_14 rfl 0 rfl ?_
      refine tn_iload_n dX11_putBits_15 rfl 1 rfl ?_
      refine tn_lload_n dX11_putBits_16 rfl 2 rfl ?_
      refine tn_last (z := i) (v := w) dX11_putBits_17 h_x (by omega) (by omega) (by omega) ?_
      exact tn_vret rfl dX11_putBits_18 ⟨rfl, rfl, (hw.lng), (FrC.rfl.lng)⟩
theorem cd_X11_has : Cond.code yX11_has cX11_has 3 (some .boolean) ∈ pWW := pw5 (List.mem_of_getElem? (i := 70) rfl) rfl
abbrev m_X11_has : MT := (yX11_has, cX11_has, 3, (some .boolean))
theorem ok_X11_has : pOk m_X11_has := ⟨⟨cd_X11_has, ini_11⟩, by decide +kernel, ⟨by decide +kernel, by decide +kernel⟩, Nat.le_of_ble_eq_true rfl⟩
theorem np_X11_has : (parseMethodDescriptor yX11_has.desc).map (fun d => d.parameters.length) = some 3 := by decide +kernel
theorem stt_X11_has : Cond.static yX11_has ∈ pWW := pw5 (List.mem_of_getElem? (i := 69) rfl) rfl
theorem ml11_313 : Cond.methodLink RX11 313 yX11_bitsAt ∈ pWW := pw5 (List.mem_of_getElem? (i := 50) rfl) rfl
theorem dX11_has_0 : decode cX11_has 0 = .ok (.iload_n 2, 1) := by decide +kernel
theorem dX11_has_1 : decode cX11_has 1 = .ok (.ifCond .lt 38, 3) := by decide +kernel
theorem dX11_has_39 : decode cX11_has 39 = .ok (.iconst 0, 1) := by decide +kernel
theorem dX11_has_40 : decode cX11_has 40 = .ok (.ireturn, 1) := by decide +kernel
theorem dX11_has_4 : decode cX11_has 4 = .ok (.iload_n 2, 1) := by decide +kernel
theorem dX11_has_5 : decode cX11_has 5 = .ok (.sipush 192, 3) := by decide +kernel
theorem dX11_has_8 : decode cX11_has 8 = .ok (.if_icmp .ge 31, 3) := by decide +kernel
theorem dX11_has_11 : decode cX11_has 11 = .ok (.aload_n 0, 1) := by decide +kernel
theorem dX11_has_12 : decode cX11_has 12 = .ok (.iload_n 1, 1) := by decide +kernel
theorem dX11_has_13 : decode cX11_has 13 = .ok (.iconst 3, 1) := by decide +kernel
theorem dX11_has_14 : decode cX11_has 14 = .ok (.imul, 1) := by decide +kernel
theorem dX11_has_15 : decode cX11_has 15 = .ok (.iload_n 2, 1) := by decide +kernel
theorem dX11_has_16 : decode cX11_has 16 = .ok (.bipush 6, 2) := by decide +kernel
theorem dX11_has_18 : decode cX11_has 18 = .ok (.ishr, 1) := by decide +kernel
theorem dX11_has_19 : decode cX11_has 19 = .ok (.iadd, 1) := by decide +kernel
theorem dX11_has_20 : decode cX11_has 20 = .ok (.invokestatic 313, 3) := by decide +kernel
theorem dX11_has_23 : decode cX11_has 23 = .ok (.iload_n 2, 1) := by decide +kernel
theorem dX11_has_24 : decode cX11_has 24 = .ok (.bipush 63, 2) := by decide +kernel
theorem dX11_has_26 : decode cX11_has 26 = .ok (.iand, 1) := by decide +kernel
theorem dX11_has_27 : decode cX11_has 27 = .ok (.lushr, 1) := by decide +kernel
theorem dX11_has_28 : decode cX11_has 28 = .ok (.lconst 1, 1) := by decide +kernel
theorem dX11_has_29 : decode cX11_has 29 = .ok (.land, 1) := by decide +kernel
theorem dX11_has_30 : decode cX11_has 30 = .ok (.lconst 0, 1) := by decide +kernel
theorem dX11_has_31 : decode cX11_has 31 = .ok (.lcmp, 1) := by decide +kernel
theorem dX11_has_32 : decode cX11_has 32 = .ok (.ifCond .eq 7, 3) := by decide +kernel
theorem dX11_has_35 : decode cX11_has 35 = .ok (.iconst 1, 1) := by decide +kernel
theorem dX11_has_36 : decode cX11_has 36 = .ok (.goto 4, 3) := by decide +kernel
set_option maxRecDepth 20000 in
theorem k_X11_has (d : Nat) {T : CT} {σ : MS} {x : Nat} {k : Int} {r : Int} (h_x : (T x).1 = 3) (l_x : (T x).2 ≤ 1000000) (h_k : -2147483648 ≤ k ∧ k ≤ 2147483647) (h_r : -2147483648 ≤ r ∧ r ≤ 2147483647) (hw : WT T σ) : Tn (d + 2) m_X11_has 0 T σ [(0, .ref x), (1, .int (iI k)), (2, .int (iI r))] [] (fun ro T2 σ2 => ∃ v : Int, ro = some (.int (iI v)) ∧ T = T2 ∧ σ = σ2 ∧ (v = 0 ∨ v = 1)) := by
  refine tn_iload_n dX11_has_0 rfl 2 rfl ?_
  refine tn_if_lt (tgt := 39) dX11_has_1 (by decide) ⟨by omega, by omega⟩ (fun h1 => ?_) (fun h1 => ?_)
  · refine tn_iconst dX11_has_39 ?_
    exact tn_zret (v := 0) rfl (by decide) dX11_has_40 ⟨_, rfl, rfl, rfl, by omega⟩
  · refine tn_iload_n dX11_has_4 rfl 2 rfl ?_
    refine tn_sipush dX11_has_5 (by decide) ?_
    refine tn_icmp_ge (tgt := 39) dX11_has_8 (by decide) ⟨by omega, by omega⟩ ⟨by decide, by decide⟩ (fun h2 => ?_) (fun h2 => ?_)
    · refine tn_iconst dX11_has_39 ?_
      exact tn_zret (v := 0) rfl (by decide) dX11_has_40 ⟨_, rfl, rfl, rfl, by omega⟩
    · refine tn_aload_n dX11_has_11 rfl 0 rfl ?_
      refine tn_iload_n dX11_has_12 rfl 1 rfl ?_
      refine tn_iconst dX11_has_13 ?_
      refine tn_imul dX11_has_14 ?_
      refine tn_any (fun z3 g4 => ?_)
      have g4r : -2147483648 ≤ z3 ∧ z3 ≤ 2147483647 := g4
      refine tn_iload_n dX11_has_15 rfl 2 rfl ?_
      refine tn_bipush dX11_has_16 (by decide) ?_
      refine tn_ishr dX11_has_18 ?_
      refine tn_anyI (fun z5 g6 => ?_)
      have g6r : -2147483648 ≤ z5 ∧ z5 ≤ 2147483647 := g6
      refine tn_iadd dX11_has_19 ?_
      refine tn_any (fun z7 g8 => ?_)
      have g8r : -2147483648 ≤ z7 ∧ z7 ≤ 2147483647 := g8
      refine tn_callS (M := m_X11_has) (pc := 20) (ix := 313) (M' := m_X11_bitsAt) (As := [.ref x, .int (iI z7)]) (rest := []) dX11_has_20 ok_X11_bitsAt stt_X11_bitsAt ml11_313 np_X11_bitsAt rfl (Nat.le_of_ble_eq_true rfl) (Nat.le_of_ble_eq_true rfl) rfl (k_X11_bitsAt (d) (T := T) (σ := σ) (x := x) (i := z7) h_x (by omega) (by omega) hw ) (fun r9 T11 σ10 gt12 hp => ?_)
      obtain ⟨v13, rfl, rfl, rfl⟩ := hp
      clear gt12
      show Tn _ _ 23 T σ [(0, .ref x), (1, .int (iI k)), (2, .int (iI r))] [.long (v13)] _
      refine tn_iload_n dX11_has_23 rfl 2 rfl ?_
      refine tn_bipush dX11_has_24 (by decide) ?_
      refine tn_iand dX11_has_26 ?_
      refine tn_anyI (fun z14 g15 => ?_)
      have g15r : -2147483648 ≤ z14 ∧ z14 ≤ 2147483647 := g15
      refine tn_lushr dX11_has_27 ?_
      refine tn_longX (fun w16 => ?_)
      refine tn_lconst (v := 1) dX11_has_28 rfl ?_
      refine tn_land dX11_has_29 ?_
      refine tn_longX (fun w17 => ?_)
      refine tn_lconst (v := 0) dX11_has_30 rfl ?_
      refine tn_lcmpX dX11_has_31 ?_
      refine tn_anyI (fun z18 g19 => ?_)
      have g19r : -2147483648 ≤ z18 ∧ z18 ≤ 2147483647 := g19
      refine tn_if_eq (tgt := 39) dX11_has_32 (by decide) ⟨by omega, by omega⟩ (fun h20 => ?_) (fun h20 => ?_)
      · refine tn_iconst dX11_has_39 ?_
        exact tn_zret (v := 0) rfl (by decide) dX11_has_40 ⟨_, rfl, rfl, rfl, by omega⟩
      · refine tn_iconst dX11_has_35 ?_
        refine tn_goto (tgt := 40) dX11_has_36 (by decide) ?_
        exact tn_zret (v := 1) rfl (by decide) dX11_has_40 ⟨_, rfl, rfl, rfl, by omega⟩
theorem cd_X11_include : Cond.code yX11_include cX11_include 4 none ∈ pWW := pw5 (List.mem_of_getElem? (i := 58) rfl) rfl
abbrev m_X11_include : MT := (yX11_include, cX11_include, 4, none)
theorem ok_X11_include : pOk m_X11_include := ⟨⟨cd_X11_include, ini_11⟩, by decide +kernel, ⟨by decide +kernel, by decide +kernel⟩, Nat.le_of_ble_eq_true rfl⟩
theorem np_X11_include : (parseMethodDescriptor yX11_include.desc).map (fun d => d.parameters.length) = some 3 := by decide +kernel
theorem stt_X11_include : Cond.static yX11_include ∈ pWW := pw5 (List.mem_of_getElem? (i := 57) rfl) rfl
theorem ml11_317 : Cond.methodLink RX11 317 yX11_putBits ∈ pWW := pw5 (List.mem_of_getElem? (i := 52) rfl) rfl
theorem dX11_include_0 : decode cX11_include 0 = .ok (.iload_n 2, 1) := by decide +kernel
theorem dX11_include_1 : decode cX11_include 1 = .ok (.ifCond .lt 36, 3) := by decide +kernel
theorem dX11_include_37 : decode cX11_include 37 = .ok (.return_, 1) := by decide +kernel
theorem dX11_include_4 : decode cX11_include 4 = .ok (.iload_n 2, 1) := by decide +kernel
theorem dX11_include_5 : decode cX11_include 5 = .ok (.sipush 192, 3) := by decide +kernel
theorem dX11_include_8 : decode cX11_include 8 = .ok (.if_icmp .ge 29, 3) := by decide +kernel
theorem dX11_include_11 : decode cX11_include 11 = .ok (.iload_n 1, 1) := by decide +kernel
theorem dX11_include_12 : decode cX11_include 12 = .ok (.iconst 3, 1) := by decide +kernel
theorem dX11_include_13 : decode cX11_include 13 = .ok (.imul, 1) := by decide +kernel
theorem dX11_include_14 : decode cX11_include 14 = .ok (.iload_n 2, 1) := by decide +kernel
theorem dX11_include_15 : decode cX11_include 15 = .ok (.bipush 6, 2) := by decide +kernel
theorem dX11_include_17 : decode cX11_include 17 = .ok (.ishr, 1) := by decide +kernel
theorem dX11_include_18 : decode cX11_include 18 = .ok (.iadd, 1) := by decide +kernel
theorem dX11_include_19 : decode cX11_include 19 = .ok (.istore_n 3, 1) := by decide +kernel
theorem dX11_include_20 : decode cX11_include 20 = .ok (.aload_n 0, 1) := by decide +kernel
theorem dX11_include_21 : decode cX11_include 21 = .ok (.iload_n 3, 1) := by decide +kernel
theorem dX11_include_22 : decode cX11_include 22 = .ok (.aload_n 0, 1) := by decide +kernel
theorem dX11_include_23 : decode cX11_include 23 = .ok (.iload_n 3, 1) := by decide +kernel
theorem dX11_include_24 : decode cX11_include 24 = .ok (.invokestatic 313, 3) := by decide +kernel
theorem dX11_include_27 : decode cX11_include 27 = .ok (.lconst 1, 1) := by decide +kernel
theorem dX11_include_28 : decode cX11_include 28 = .ok (.iload_n 2, 1) := by decide +kernel
theorem dX11_include_29 : decode cX11_include 29 = .ok (.bipush 63, 2) := by decide +kernel
theorem dX11_include_31 : decode cX11_include 31 = .ok (.iand, 1) := by decide +kernel
theorem dX11_include_32 : decode cX11_include 32 = .ok (.lshl, 1) := by decide +kernel
theorem dX11_include_33 : decode cX11_include 33 = .ok (.lor, 1) := by decide +kernel
theorem dX11_include_34 : decode cX11_include 34 = .ok (.invokestatic 317, 3) := by decide +kernel
set_option maxRecDepth 20000 in
theorem k_X11_include (d : Nat) {T : CT} {σ : MS} {x : Nat} {k : Int} {r : Int} (h_x : (T x).1 = 3) (l_x : (T x).2 ≤ 1000000) (h_k : -2147483648 ≤ k ∧ k ≤ 2147483647) (h_r : -2147483648 ≤ r ∧ r ≤ 2147483647) (hw : WT T σ) : Tn (d + 2) m_X11_include 0 T σ [(0, .ref x), (1, .int (iI k)), (2, .int (iI r))] [] (fun ro T2 σ2 => ro = none ∧ T = T2 ∧ WT T2 σ2 ∧ FrC T [] σ σ2) := by
  refine tn_iload_n dX11_include_0 rfl 2 rfl ?_
  refine tn_if_lt (tgt := 37) dX11_include_1 (by decide) ⟨by omega, by omega⟩ (fun h1 => ?_) (fun h1 => ?_)
  · exact tn_vret rfl dX11_include_37 ⟨rfl, rfl, hw, FrC.rfl⟩
  · refine tn_iload_n dX11_include_4 rfl 2 rfl ?_
    refine tn_sipush dX11_include_5 (by decide) ?_
    refine tn_icmp_ge (tgt := 37) dX11_include_8 (by decide) ⟨by omega, by omega⟩ ⟨by decide, by decide⟩ (fun h2 => ?_) (fun h2 => ?_)
    · exact tn_vret rfl dX11_include_37 ⟨rfl, rfl, hw, FrC.rfl⟩
    · refine tn_iload_n dX11_include_11 rfl 1 rfl ?_
      refine tn_iconst dX11_include_12 ?_
      refine tn_imul dX11_include_13 ?_
      refine tn_any (fun z3 g4 => ?_)
      have g4r : -2147483648 ≤ z3 ∧ z3 ≤ 2147483647 := g4
      refine tn_iload_n dX11_include_14 rfl 2 rfl ?_
      refine tn_bipush dX11_include_15 (by decide) ?_
      refine tn_ishr dX11_include_17 ?_
      refine tn_anyI (fun z5 g6 => ?_)
      have g6r : -2147483648 ≤ z5 ∧ z5 ≤ 2147483647 := g6
      refine tn_iadd dX11_include_18 ?_
      refine tn_any (fun z7 g8 => ?_)
      have g8r : -2147483648 ≤ z7 ∧ z7 ≤ 2147483647 := g8
      refine tn_istore_n (L' := [(3, .int (iI z7)), (0, .ref x), (1, .int (iI k)), (2, .int (iI r))]) dX11_include_19 rfl (by decide) rfl ?_
      refine tn_aload_n dX11_include_20 rfl 1 rfl ?_
      refine tn_iload_n dX11_include_21 rfl 0 rfl ?_
      refine tn_aload_n dX11_include_22 rfl 1 rfl ?_
      refine tn_iload_n dX11_include_23 rfl 0 rfl ?_
      refine tn_callS (M := m_X11_include) (pc := 24) (ix := 313) (M' := m_X11_bitsAt) (As := [.ref x, .int (iI z7)]) (rest := [.int (iI z7), .ref x]) dX11_include_24 ok_X11_bitsAt stt_X11_bitsAt ml11_313 np_X11_bitsAt rfl (Nat.le_of_ble_eq_true rfl) (Nat.le_of_ble_eq_true rfl) rfl (k_X11_bitsAt (d) (T := T) (σ := σ) (x := x) (i := z7) h_x (by omega) (by omega) hw ) (fun r9 T11 σ10 gt12 hp => ?_)
      obtain ⟨v13, rfl, rfl, rfl⟩ := hp
      clear gt12
      show Tn _ _ 27 T σ [(3, .int (iI z7)), (0, .ref x), (1, .int (iI k)), (2, .int (iI r))] [.long (v13), .int (iI z7), .ref x] _
      refine tn_lconst (v := 1) dX11_include_27 rfl ?_
      refine tn_iload_n dX11_include_28 rfl 3 rfl ?_
      refine tn_bipush dX11_include_29 (by decide) ?_
      refine tn_iand dX11_include_31 ?_
      refine tn_anyI (fun z14 g15 => ?_)
      have g15r : -2147483648 ≤ z14 ∧ z14 ≤ 2147483647 := g15
      refine tn_lshl dX11_include_32 ?_
      refine tn_longX (fun w16 => ?_)
      refine tn_lor dX11_include_33 ?_
      refine tn_longX (fun w17 => ?_)
      refine tn_callS (M := m_X11_include) (pc := 34) (ix := 317) (M' := m_X11_putBits) (As := [.ref x, .int (iI z7), .long (w17)]) (rest := []) dX11_include_34 ok_X11_putBits stt_X11_putBits ml11_317 np_X11_putBits rfl (Nat.le_of_ble_eq_true rfl) (Nat.le_of_ble_eq_true rfl) rfl (k_X11_putBits (d) (T := T) (σ := σ) (x := x) (i := z7) (w := w17) h_x (by omega) (by omega) hw ) (fun r18 T20 σ19 gt21 hp => ?_)
      obtain ⟨rfl, rfl, w23, F24⟩ := hp
      clear gt21
      show Tn _ _ 37 T σ19 [(3, .int (iI z7)), (0, .ref x), (1, .int (iI k)), (2, .int (iI r))] [] _
      exact tn_vret rfl dX11_include_37 ⟨rfl, rfl, w23, (FrC.rfl.trans (FrC.sub F24 (by decide)))⟩
theorem cd_X11_exclude : Cond.code yX11_exclude cX11_exclude 4 none ∈ pWW := pw5 (List.mem_of_getElem? (i := 49) rfl) rfl
abbrev m_X11_exclude : MT := (yX11_exclude, cX11_exclude, 4, none)
theorem ok_X11_exclude : pOk m_X11_exclude := ⟨⟨cd_X11_exclude, ini_11⟩, by decide +kernel, ⟨by decide +kernel, by decide +kernel⟩, Nat.le_of_ble_eq_true rfl⟩
theorem np_X11_exclude : (parseMethodDescriptor yX11_exclude.desc).map (fun d => d.parameters.length) = some 3 := by decide +kernel
theorem stt_X11_exclude : Cond.static yX11_exclude ∈ pWW := pw5 (List.mem_of_getElem? (i := 48) rfl) rfl
theorem cst11_321 : Cond.constantLong RX11 321 (-1) ∈ pWW := pw5 (List.mem_of_getElem? (i := 51) rfl) rfl
theorem dX11_exclude_0 : decode cX11_exclude 0 = .ok (.iload_n 2, 1) := by decide +kernel
theorem dX11_exclude_1 : decode cX11_exclude 1 = .ok (.ifCond .lt 40, 3) := by decide +kernel
theorem dX11_exclude_41 : decode cX11_exclude 41 = .ok (.return_, 1) := by decide +kernel
theorem dX11_exclude_4 : decode cX11_exclude 4 = .ok (.iload_n 2, 1) := by decide +kernel
theorem dX11_exclude_5 : decode cX11_exclude 5 = .ok (.sipush 192, 3) := by decide +kernel
theorem dX11_exclude_8 : decode cX11_exclude 8 = .ok (.if_icmp .ge 33, 3) := by decide +kernel
theorem dX11_exclude_11 : decode cX11_exclude 11 = .ok (.iload_n 1, 1) := by decide +kernel
theorem dX11_exclude_12 : decode cX11_exclude 12 = .ok (.iconst 3, 1) := by decide +kernel
theorem dX11_exclude_13 : decode cX11_exclude 13 = .ok (.imul, 1) := by decide +kernel
theorem dX11_exclude_14 : decode cX11_exclude 14 = .ok (.iload_n 2, 1) := by decide +kernel
theorem dX11_exclude_15 : decode cX11_exclude 15 = .ok (.bipush 6, 2) := by decide +kernel
theorem dX11_exclude_17 : decode cX11_exclude 17 = .ok (.ishr, 1) := by decide +kernel
theorem dX11_exclude_18 : decode cX11_exclude 18 = .ok (.iadd, 1) := by decide +kernel
theorem dX11_exclude_19 : decode cX11_exclude 19 = .ok (.istore_n 3, 1) := by decide +kernel
theorem dX11_exclude_20 : decode cX11_exclude 20 = .ok (.aload_n 0, 1) := by decide +kernel
theorem dX11_exclude_21 : decode cX11_exclude 21 = .ok (.iload_n 3, 1) := by decide +kernel
theorem dX11_exclude_22 : decode cX11_exclude 22 = .ok (.aload_n 0, 1) := by decide +kernel
theorem dX11_exclude_23 : decode cX11_exclude 23 = .ok (.iload_n 3, 1) := by decide +kernel
theorem dX11_exclude_24 : decode cX11_exclude 24 = .ok (.invokestatic 313, 3) := by decide +kernel
theorem dX11_exclude_27 : decode cX11_exclude 27 = .ok (.lconst 1, 1) := by decide +kernel
theorem dX11_exclude_28 : decode cX11_exclude 28 = .ok (.iload_n 2, 1) := by decide +kernel
theorem dX11_exclude_29 : decode cX11_exclude 29 = .ok (.bipush 63, 2) := by decide +kernel
theorem dX11_exclude_31 : decode cX11_exclude 31 = .ok (.iand, 1) := by decide +kernel
theorem dX11_exclude_32 : decode cX11_exclude 32 = .ok (.lshl, 1) := by decide +kernel
theorem dX11_exclude_33 : decode cX11_exclude 33 = .ok (.ldc2_w 321, 3) := by decide +kernel
theorem dX11_exclude_36 : decode cX11_exclude 36 = .ok (.lxor, 1) := by decide +kernel
theorem dX11_exclude_37 : decode cX11_exclude 37 = .ok (.land, 1) := by decide +kernel
theorem dX11_exclude_38 : decode cX11_exclude 38 = .ok (.invokestatic 317, 3) := by decide +kernel
set_option maxRecDepth 20000 in
theorem k_X11_exclude (d : Nat) {T : CT} {σ : MS} {x : Nat} {k : Int} {r : Int} (h_x : (T x).1 = 3) (l_x : (T x).2 ≤ 1000000) (h_k : -2147483648 ≤ k ∧ k ≤ 2147483647) (h_r : -2147483648 ≤ r ∧ r ≤ 2147483647) (hw : WT T σ) : Tn (d + 2) m_X11_exclude 0 T σ [(0, .ref x), (1, .int (iI k)), (2, .int (iI r))] [] (fun ro T2 σ2 => ro = none ∧ T = T2 ∧ WT T2 σ2 ∧ FrC T [] σ σ2) := by
  refine tn_iload_n dX11_exclude_0 rfl 2 rfl ?_
  refine tn_if_lt (tgt := 41) dX11_exclude_1 (by decide) ⟨by omega, by omega⟩ (fun h1 => ?_) (fun h1 => ?_)
  · exact tn_vret rfl dX11_exclude_41 ⟨rfl, rfl, hw, FrC.rfl⟩
  · refine tn_iload_n dX11_exclude_4 rfl 2 rfl ?_
    refine tn_sipush dX11_exclude_5 (by decide) ?_
    refine tn_icmp_ge (tgt := 41) dX11_exclude_8 (by decide) ⟨by omega, by omega⟩ ⟨by decide, by decide⟩ (fun h2 => ?_) (fun h2 => ?_)
    · exact tn_vret rfl dX11_exclude_41 ⟨rfl, rfl, hw, FrC.rfl⟩
    · refine tn_iload_n dX11_exclude_11 rfl 1 rfl ?_
      refine tn_iconst dX11_exclude_12 ?_
      refine tn_imul dX11_exclude_13 ?_
      refine tn_any (fun z3 g4 => ?_)
      have g4r : -2147483648 ≤ z3 ∧ z3 ≤ 2147483647 := g4
      refine tn_iload_n dX11_exclude_14 rfl 2 rfl ?_
      refine tn_bipush dX11_exclude_15 (by decide) ?_
      refine tn_ishr dX11_exclude_17 ?_
      refine tn_anyI (fun z5 g6 => ?_)
      have g6r : -2147483648 ≤ z5 ∧ z5 ≤ 2147483647 := g6
      refine tn_iadd dX11_exclude_18 ?_
      refine tn_any (fun z7 g8 => ?_)
      have g8r : -2147483648 ≤ z7 ∧ z7 ≤ 2147483647 := g8
      refine tn_istore_n (L' := [(3, .int (iI z7)), (0, .ref x), (1, .int (iI k)), (2, .int (iI r))]) dX11_exclude_19 rfl (by decide) rfl ?_
      refine tn_aload_n dX11_exclude_20 rfl 1 rfl ?_
      refine tn_iload_n dX11_exclude_21 rfl 0 rfl ?_
      refine tn_aload_n dX11_exclude_22 rfl 1 rfl ?_
      refine tn_iload_n dX11_exclude_23 rfl 0 rfl ?_
      refine tn_callS (M := m_X11_exclude) (pc := 24) (ix := 313) (M' := m_X11_bitsAt) (As := [.ref x, .int (iI z7)]) (rest := [.int (iI z7), .ref x]) dX11_exclude_24 ok_X11_bitsAt stt_X11_bitsAt ml11_313 np_X11_bitsAt rfl (Nat.le_of_ble_eq_true rfl) (Nat.le_of_ble_eq_true rfl) rfl (k_X11_bitsAt (d) (T := T) (σ := σ) (x := x) (i := z7) h_x (by omega) (by omega) hw ) (fun r9 T11 σ10 gt12 hp => ?_)
      obtain ⟨v13, rfl, rfl, rfl⟩ := hp
      clear gt12
      show Tn _ _ 27 T σ [(3, .int (iI z7)), (0, .ref x), (1, .int (iI k)), (2, .int (iI r))] [.long (v13), .int (iI z7), .ref x] _
      refine tn_lconst (v := 1) dX11_exclude_27 rfl ?_
      refine tn_iload_n dX11_exclude_28 rfl 3 rfl ?_
      refine tn_bipush dX11_exclude_29 (by decide) ?_
      refine tn_iand dX11_exclude_31 ?_
      refine tn_anyI (fun z14 g15 => ?_)
      have g15r : -2147483648 ≤ z14 ∧ z14 ≤ 2147483647 := g15
      refine tn_lshl dX11_exclude_32 ?_
      refine tn_longX (fun w16 => ?_)
      refine tn_ldc2 dX11_exclude_33 cst11_321 ?_
      refine tn_lxor dX11_exclude_36 ?_
      refine tn_longX (fun w17 => ?_)
      refine tn_land dX11_exclude_37 ?_
      refine tn_longX (fun w18 => ?_)
      refine tn_callS (M := m_X11_exclude) (pc := 38) (ix := 317) (M' := m_X11_putBits) (As := [.ref x, .int (iI z7), .long (w18)]) (rest := []) dX11_exclude_38 ok_X11_putBits stt_X11_putBits ml11_317 np_X11_putBits rfl (Nat.le_of_ble_eq_true rfl) (Nat.le_of_ble_eq_true rfl) rfl (k_X11_putBits (d) (T := T) (σ := σ) (x := x) (i := z7) (w := w18) h_x (by omega) (by omega) hw ) (fun r19 T21 σ20 gt22 hp => ?_)
      obtain ⟨rfl, rfl, w24, F25⟩ := hp
      clear gt22
      show Tn _ _ 41 T σ20 [(3, .int (iI z7)), (0, .ref x), (1, .int (iI k)), (2, .int (iI r))] [] _
      exact tn_vret rfl dX11_exclude_41 ⟨rfl, rfl, w24, (FrC.rfl.trans (FrC.sub F25 (by decide)))⟩
theorem dJ7_rangeCheck_23922_0 : decode cJ7_rangeCheck_23922 0 = .ok (.iload_n 1, 1) := by decide +kernel
theorem dJ7_rangeCheck_23922_1 : decode cJ7_rangeCheck_23922 1 = .ok (.iload_n 2, 1) := by decide +kernel
theorem dJ7_rangeCheck_23922_2 : decode cJ7_rangeCheck_23922 2 = .ok (.if_icmp .le 44, 3) := by decide +kernel
theorem dJ7_rangeCheck_23922_46 : decode cJ7_rangeCheck_23922 46 = .ok (.iload_n 1, 1) := by decide +kernel
theorem dJ7_rangeCheck_23922_47 : decode cJ7_rangeCheck_23922 47 = .ok (.ifCond .ge 12, 3) := by decide +kernel
theorem dJ7_rangeCheck_23922_59 : decode cJ7_rangeCheck_23922 59 = .ok (.iload_n 2, 1) := by decide +kernel
theorem dJ7_rangeCheck_23922_60 : decode cJ7_rangeCheck_23922 60 = .ok (.iload_n 0, 1) := by decide +kernel
theorem dJ7_rangeCheck_23922_61 : decode cJ7_rangeCheck_23922 61 = .ok (.if_icmp .le 12, 3) := by decide +kernel
theorem dJ7_rangeCheck_23922_73 : decode cJ7_rangeCheck_23922 73 = .ok (.return_, 1) := by decide +kernel
set_option maxRecDepth 20000 in
theorem k_J7_rangeCheck_23922 (d : Nat) {T : CT} {σ : MS} {n : Int} {f : Int} {t : Int} (h_n : -2147483648 ≤ n ∧ n ≤ 2147483647) (h_f : -2147483648 ≤ f ∧ f ≤ 2147483647) (h_t : -2147483648 ≤ t ∧ t ≤ 2147483647) (hw : WT T σ) (hr : 0 ≤ f ∧ f ≤ t ∧ t ≤ n) : Tn (d + 1) m_J7_rangeCheck_23922 0 T σ [(0, .int (iI n)), (1, .int (iI f)), (2, .int (iI t))] [] (fun ro T2 σ2 => ro = none ∧ T = T2 ∧ σ = σ2) := by
  refine tn_iload_n dJ7_rangeCheck_23922_0 rfl 1 rfl ?_
  refine tn_iload_n dJ7_rangeCheck_23922_1 rfl 2 rfl ?_
  refine tn_icmp_le (tgt := 46) dJ7_rangeCheck_23922_2 (by decide) ⟨by omega, by omega⟩ ⟨by omega, by omega⟩ (fun h1 => ?_) (fun h1 => ?_)
  · refine tn_iload_n dJ7_rangeCheck_23922_46 rfl 1 rfl ?_
    refine tn_if_ge (tgt := 59) dJ7_rangeCheck_23922_47 (by decide) ⟨by omega, by omega⟩ (fun h2 => ?_) (fun h2 => ?_)
    · refine tn_iload_n dJ7_rangeCheck_23922_59 rfl 2 rfl ?_
      refine tn_iload_n dJ7_rangeCheck_23922_60 rfl 0 rfl ?_
      refine tn_icmp_le (tgt := 73) dJ7_rangeCheck_23922_61 (by decide) ⟨by omega, by omega⟩ ⟨by omega, by omega⟩ (fun h3 => ?_) (fun h3 => ?_)
      · exact tn_vret rfl dJ7_rangeCheck_23922_73 ⟨rfl, rfl, rfl⟩
      · exact absurd True.intro (by omega)
    · exact absurd True.intro (by omega)
  · exact absurd True.intro (by omega)
theorem dJ7_fill_53178_0 : decode cJ7_fill_53178 0 = .ok (.iconst 0, 1) := by decide +kernel
theorem dJ7_fill_53178_1 : decode cJ7_fill_53178 1 = .ok (.istore_n 2, 1) := by decide +kernel
theorem dJ7_fill_53178_2 : decode cJ7_fill_53178 2 = .ok (.aload_n 0, 1) := by decide +kernel
theorem dJ7_fill_53178_3 : decode cJ7_fill_53178 3 = .ok (.arraylength, 1) := by decide +kernel
theorem dJ7_fill_53178_4 : decode cJ7_fill_53178 4 = .ok (.istore_n 3, 1) := by decide +kernel
theorem dJ7_fill_53178_5 : decode cJ7_fill_53178 5 = .ok (.iload_n 2, 1) := by decide +kernel
theorem dJ7_fill_53178_6 : decode cJ7_fill_53178 6 = .ok (.iload_n 3, 1) := by decide +kernel
theorem dJ7_fill_53178_7 : decode cJ7_fill_53178 7 = .ok (.if_icmp .ge 13, 3) := by decide +kernel
theorem dJ7_fill_53178_10 : decode cJ7_fill_53178 10 = .ok (.aload_n 0, 1) := by decide +kernel
theorem dJ7_fill_53178_11 : decode cJ7_fill_53178 11 = .ok (.iload_n 2, 1) := by decide +kernel
theorem dJ7_fill_53178_12 : decode cJ7_fill_53178 12 = .ok (.iload_n 1, 1) := by decide +kernel
theorem dJ7_fill_53178_13 : decode cJ7_fill_53178 13 = .ok (.iastore, 1) := by decide +kernel
theorem dJ7_fill_53178_14 : decode cJ7_fill_53178 14 = .ok (.iinc 2 1, 3) := by decide +kernel
theorem dJ7_fill_53178_17 : decode cJ7_fill_53178 17 = .ok (.goto (-12), 3) := by decide +kernel
set_option maxRecDepth 20000 in
theorem l_J7_fill_53178_5 (d : Nat) {T : CT} {σ0 : MS} {rx0 : Nat} {c1 : Int} {c3 : Int} {post : Option Value → CT → MS → Prop} (h_rx0 : IA T rx0) (l_rx0 : (T rx0).2 ≤ 1000000) (r_c1 : 0 ≤ c1 ∧ c1 ≤ 0) (r_c3 : 0 ≤ c3 ∧ c3 ≤ 1000000) (hw0 : WT T σ0) (n_rx0 : NH T rx0) (hc3 : c3 ≤ ((T rx0).2 : Int)) (hx_20 : ∀ (i2 : Int) (σ : MS) , (WT T σ) → (FrC T [] σ0 σ) → (0 ≤ i2 ∧ i2 ≤ 2147483647) → Tn (d + 1) m_J7_fill_53178 20 T σ [(0, .ref rx0), (1, .int (iI c1)), (2, .int (iI i2)), (3, .int (iI c3))] [] post) : ∀ (n : Nat) (i2 : Int) (σ : MS) , (WT T σ) → (FrC T [] σ0 σ) → (0 ≤ i2 ∧ i2 ≤ 2147483647) → (2147483700 - i2).toNat = n → Tn (d + 1) m_J7_fill_53178 5 T σ [(0, .ref rx0), (1, .int (iI c1)), (2, .int (iI i2)), (3, .int (iI c3))] [] post := by
  intro n
  induction n using Nat.strongRecOn with
  | _ n ih =>
    intro i2 σ hw hF r_i2 hm
    refine tn_iload_n dJ7_fill_53178_5 rfl 2 rfl ?_
    refine tn_iload_n dJ7_fill_53178_6 rfl 3 rfl ?_
    refine tn_icmp_ge (tgt := 20) dJ7_fill_53178_7 (by decide) ⟨by omega, by omega⟩ ⟨by omega, by omega⟩ (fun h1 => ?_) (fun h1 => ?_)
    · exact tn_sub [0, 1, 2, 3] rfl (hx_20 (i2) σ hw (FrC.rfl.trans (FrC.sub hF (by decide))) (by omega))
    · refine tn_aload_n dJ7_fill_53178_10 rfl 0 rfl ?_
      refine tn_iload_n dJ7_fill_53178_11 rfl 2 rfl ?_
      refine tn_iload_n dJ7_fill_53178_12 rfl 1 rfl ?_
      refine tn_iast (z := i2) (v := c1) dJ7_fill_53178_13 h_rx0 (by omega) (by omega) (by omega) ?_
      refine tn_iinc (q0 := 2) (L' := [(2, .int (iI (i2 + 1))), (0, .ref rx0), (1, .int (iI c1)), (3, .int (iI c3))]) dJ7_fill_53178_14 rfl (by decide) rfl ?_
      refine tn_goto (tgt := 5) dJ7_fill_53178_17 (by decide) ?_
      exact tn_sub [1, 2, 0, 3] rfl (ih _ (by omega) (i2 + 1) (sA (1000 + rx0) (i2) (c1) σ) (hw.arr (Or.inl h_rx0) (vok_z (by omega))) ((FrC.rfl.trans (FrC.sub hF (by decide))).arr (hk_no n_rx0)) (by omega) rfl)
theorem dJ7_fill_53178_20 : decode cJ7_fill_53178 20 = .ok (.return_, 1) := by decide +kernel
set_option maxRecDepth 20000 in
theorem k_J7_fill_53178 (d : Nat) {T : CT} {σ : MS} {x : Nat} {y : Int} (h_x : IA T x) (l_x : (T x).2 ≤ 1000000) (h_y : -2147483648 ≤ y ∧ y ≤ 2147483647) (hw : WT T σ) (n_x : NH T x) (hy : y = 0) : Tn (d + 1) m_J7_fill_53178 0 T σ [(0, .ref x), (1, .int (iI y))] [] (fun ro T2 σ2 => ro = none ∧ T = T2 ∧ WT T2 σ2 ∧ FrC T [] σ σ2) := by
  refine tn_iconst dJ7_fill_53178_0 ?_
  refine tn_istore_n (L' := [(2, .int (iI 0)), (0, .ref x), (1, .int (iI y))]) dJ7_fill_53178_1 rfl (by decide) rfl ?_
  refine tn_aload_n dJ7_fill_53178_2 rfl 1 rfl ?_
  refine tn_alenX dJ7_fill_53178_3 (Or.inl h_x) ?_
  refine tn_istore_n (L' := [(3, .int (iI (((T x).2 : Int)))), (2, .int (iI 0)), (0, .ref x), (1, .int (iI y))]) dJ7_fill_53178_4 rfl (by decide) rfl ?_
  refine tn_sub [2, 3, 1, 0] rfl (l_J7_fill_53178_5 (d) (T := T) (σ0 := σ) (rx0 := x) (c1 := y) (c3 := ((T x).2 : Int)) h_x (by omega) (by omega) (by omega) hw n_x (by omega) (fun i21 σ2 w5 F6 r7 => ?_) _ (0) σ hw FrC.rfl (by omega) rfl)
  show Tn _ _ 20 T σ2 [(0, .ref x), (1, .int (iI y)), (2, .int (iI i21)), (3, .int (iI (((T x).2 : Int))))] [] _
  exact tn_vret rfl dJ7_fill_53178_20 ⟨rfl, rfl, w5, (FrC.rfl.trans (FrC.sub F6 (by decide)))⟩
theorem mlJ7_13 : Cond.methodLink RXJ7 13 yJ7_rangeCheck_23922 ∈ pWW := pw3 (List.mem_of_getElem? (i := 147) rfl) rfl
theorem dJ7_fill_fda19_0 : decode cJ7_fill_fda19 0 = .ok (.aload_n 0, 1) := by decide +kernel
theorem dJ7_fill_fda19_1 : decode cJ7_fill_fda19 1 = .ok (.arraylength, 1) := by decide +kernel
theorem dJ7_fill_fda19_2 : decode cJ7_fill_fda19 2 = .ok (.iload_n 1, 1) := by decide +kernel
theorem dJ7_fill_fda19_3 : decode cJ7_fill_fda19 3 = .ok (.iload_n 2, 1) := by decide +kernel
theorem dJ7_fill_fda19_4 : decode cJ7_fill_fda19 4 = .ok (.invokestatic 13, 3) := by decide +kernel
theorem dJ7_fill_fda19_7 : decode cJ7_fill_fda19 7 = .ok (.iload_n 1, 1) := by decide +kernel
theorem dJ7_fill_fda19_8 : decode cJ7_fill_fda19 8 = .ok (.istore 4, 2) := by decide +kernel
theorem dJ7_fill_fda19_10 : decode cJ7_fill_fda19 10 = .ok (.iload 4, 2) := by decide +kernel
theorem dJ7_fill_fda19_12 : decode cJ7_fill_fda19 12 = .ok (.iload_n 2, 1) := by decide +kernel
theorem dJ7_fill_fda19_13 : decode cJ7_fill_fda19 13 = .ok (.if_icmp .ge 14, 3) := by decide +kernel
theorem dJ7_fill_fda19_16 : decode cJ7_fill_fda19 16 = .ok (.aload_n 0, 1) := by decide +kernel
theorem dJ7_fill_fda19_17 : decode cJ7_fill_fda19 17 = .ok (.iload 4, 2) := by decide +kernel
theorem dJ7_fill_fda19_19 : decode cJ7_fill_fda19 19 = .ok (.iload_n 3, 1) := by decide +kernel
theorem dJ7_fill_fda19_20 : decode cJ7_fill_fda19 20 = .ok (.iastore, 1) := by decide +kernel
theorem dJ7_fill_fda19_21 : decode cJ7_fill_fda19 21 = .ok (.iinc 4 1, 3) := by decide +kernel
theorem dJ7_fill_fda19_24 : decode cJ7_fill_fda19 24 = .ok (.goto (-14), 3) := by decide +kernel
set_option maxRecDepth 20000 in
theorem l_J7_fill_fda19_10 (d : Nat) {T : CT} {σ0 : MS} {rx0 : Nat} {c2 : Int} {c3 : Int} {post : Option Value → CT → MS → Prop} (h_rx0 : IA T rx0) (l_rx0 : (T rx0).2 ≤ 1000000) (r_c2 : -2147483648 ≤ c2 ∧ c2 ≤ 2147483647) (r_c3 : 0 ≤ c3 ∧ c3 ≤ 0) (hw0 : WT T σ0) (n_rx0 : NH T rx0) (hc2 : c2 ≤ ((T rx0).2 : Int)) (hx_27 : ∀ (i4 : Int) (σ : MS) , (WT T σ) → (FrC T [] σ0 σ) → (0 ≤ i4 ∧ i4 ≤ 2147483647) → Tn (d + 2) m_J7_fill_fda19 27 T σ [(0, .ref rx0), (2, .int (iI c2)), (3, .int (iI c3)), (4, .int (iI i4))] [] post) : ∀ (n : Nat) (i4 : Int) (σ : MS) , (WT T σ) → (FrC T [] σ0 σ) → (0 ≤ i4 ∧ i4 ≤ 2147483647) → (2147483700 - i4).toNat = n → Tn (d + 2) m_J7_fill_fda19 10 T σ [(0, .ref rx0), (2, .int (iI c2)), (3, .int (iI c3)), (4, .int (iI i4))] [] post := by
  intro n
  induction n using Nat.strongRecOn with
  | _ n ih =>
    intro i4 σ hw hF r_i4 hm
    refine tn_iload dJ7_fill_fda19_10 3 rfl ?_
    refine tn_iload_n dJ7_fill_fda19_12 rfl 1 rfl ?_
    refine tn_icmp_ge (tgt := 27) dJ7_fill_fda19_13 (by decide) ⟨by omega, by omega⟩ ⟨by omega, by omega⟩ (fun h1 => ?_) (fun h1 => ?_)
    · exact tn_sub [0, 1, 2, 3] rfl (hx_27 (i4) σ hw (FrC.rfl.trans (FrC.sub hF (by decide))) (by omega))
    · refine tn_aload_n dJ7_fill_fda19_16 rfl 0 rfl ?_
      refine tn_iload dJ7_fill_fda19_17 3 rfl ?_
      refine tn_iload_n dJ7_fill_fda19_19 rfl 2 rfl ?_
      refine tn_iast (z := i4) (v := c3) dJ7_fill_fda19_20 h_rx0 (by omega) (by omega) (by omega) ?_
      refine tn_iinc (q0 := 3) (L' := [(4, .int (iI (i4 + 1))), (0, .ref rx0), (2, .int (iI c2)), (3, .int (iI c3))]) dJ7_fill_fda19_21 rfl (by decide) rfl ?_
      refine tn_goto (tgt := 10) dJ7_fill_fda19_24 (by decide) ?_
      exact tn_sub [1, 2, 3, 0] rfl (ih _ (by omega) (i4 + 1) (sA (1000 + rx0) (i4) (c3) σ) (hw.arr (Or.inl h_rx0) (vok_z (by omega))) ((FrC.rfl.trans (FrC.sub hF (by decide))).arr (hk_no n_rx0)) (by omega) rfl)
theorem dJ7_fill_fda19_27 : decode cJ7_fill_fda19 27 = .ok (.return_, 1) := by decide +kernel
set_option maxRecDepth 20000 in
theorem k_J7_fill_fda19 (d : Nat) {T : CT} {σ : MS} {x : Nat} {f : Int} {t : Int} {y : Int} (h_x : IA T x) (l_x : (T x).2 ≤ 1000000) (h_f : -2147483648 ≤ f ∧ f ≤ 2147483647) (h_t : -2147483648 ≤ t ∧ t ≤ 2147483647) (h_y : -2147483648 ≤ y ∧ y ≤ 2147483647) (hw : WT T σ) (n_x : NH T x) (hy : y = 0) (hf : 0 ≤ f ∧ f ≤ t ∧ t ≤ ((T x).2 : Int)) : Tn (d + 2) m_J7_fill_fda19 0 T σ [(0, .ref x), (1, .int (iI f)), (2, .int (iI t)), (3, .int (iI y))] [] (fun ro T2 σ2 => ro = none ∧ T = T2 ∧ WT T2 σ2 ∧ FrC T [] σ σ2) := by
  refine tn_aload_n dJ7_fill_fda19_0 rfl 0 rfl ?_
  refine tn_alenX dJ7_fill_fda19_1 (Or.inl h_x) ?_
  refine tn_iload_n dJ7_fill_fda19_2 rfl 1 rfl ?_
  refine tn_iload_n dJ7_fill_fda19_3 rfl 2 rfl ?_
  refine tn_callS (M := m_J7_fill_fda19) (pc := 4) (ix := 13) (M' := m_J7_rangeCheck_23922) (As := [.int (iI (((T x).2 : Int))), .int (iI f), .int (iI t)]) (rest := []) dJ7_fill_fda19_4 ok_J7_rangeCheck_23922 stt_J7_rangeCheck_23922 mlJ7_13 np_J7_rangeCheck_23922 rfl (Nat.le_of_ble_eq_true rfl) (Nat.le_of_ble_eq_true rfl) rfl (k_J7_rangeCheck_23922 (d) (T := T) (σ := σ) (n := ((T x).2 : Int)) (f := f) (t := t) (by omega) (by omega) (by omega) hw (by omega)) (fun r1 T3 σ2 gt4 hp => ?_)
  obtain ⟨rfl, rfl, rfl⟩ := hp
  clear gt4
  show Tn _ _ 7 T σ [(0, .ref x), (1, .int (iI f)), (2, .int (iI t)), (3, .int (iI y))] [] _
  refine tn_iload_n dJ7_fill_fda19_7 rfl 1 rfl ?_
  refine tn_istore (L' := [(4, .int (iI f)), (0, .ref x), (1, .int (iI f)), (2, .int (iI t)), (3, .int (iI y))]) dJ7_fill_fda19_8 (by decide) rfl ?_
  refine tn_sub [1, 3, 4, 0] rfl (l_J7_fill_fda19_10 (d) (T := T) (σ0 := σ) (rx0 := x) (c2 := t) (c3 := y) h_x (by omega) (by omega) (by omega) hw n_x (by omega) (fun i46 σ7 w10 F11 r12 => ?_) _ (f) σ hw FrC.rfl (by omega) rfl)
  show Tn _ _ 27 T σ7 [(0, .ref x), (2, .int (iI t)), (3, .int (iI y)), (4, .int (iI i46))] [] _
  exact tn_vret rfl dJ7_fill_fda19_27 ⟨rfl, rfl, w10, (FrC.rfl.trans (FrC.sub F11 (by decide)))⟩
theorem dJ7_fill_bad5a_0 : decode cJ7_fill_bad5a 0 = .ok (.aload_n 0, 1) := by decide +kernel
theorem dJ7_fill_bad5a_1 : decode cJ7_fill_bad5a 1 = .ok (.arraylength, 1) := by decide +kernel
theorem dJ7_fill_bad5a_2 : decode cJ7_fill_bad5a 2 = .ok (.iload_n 1, 1) := by decide +kernel
theorem dJ7_fill_bad5a_3 : decode cJ7_fill_bad5a 3 = .ok (.iload_n 2, 1) := by decide +kernel
theorem dJ7_fill_bad5a_4 : decode cJ7_fill_bad5a 4 = .ok (.invokestatic 13, 3) := by decide +kernel
theorem dJ7_fill_bad5a_7 : decode cJ7_fill_bad5a 7 = .ok (.iload_n 1, 1) := by decide +kernel
theorem dJ7_fill_bad5a_8 : decode cJ7_fill_bad5a 8 = .ok (.istore 5, 2) := by decide +kernel
theorem dJ7_fill_bad5a_10 : decode cJ7_fill_bad5a 10 = .ok (.iload 5, 2) := by decide +kernel
theorem dJ7_fill_bad5a_12 : decode cJ7_fill_bad5a 12 = .ok (.iload_n 2, 1) := by decide +kernel
theorem dJ7_fill_bad5a_13 : decode cJ7_fill_bad5a 13 = .ok (.if_icmp .ge 14, 3) := by decide +kernel
theorem dJ7_fill_bad5a_16 : decode cJ7_fill_bad5a 16 = .ok (.aload_n 0, 1) := by decide +kernel
theorem dJ7_fill_bad5a_17 : decode cJ7_fill_bad5a 17 = .ok (.iload 5, 2) := by decide +kernel
theorem dJ7_fill_bad5a_19 : decode cJ7_fill_bad5a 19 = .ok (.lload_n 3, 1) := by decide +kernel
theorem dJ7_fill_bad5a_20 : decode cJ7_fill_bad5a 20 = .ok (.lastore, 1) := by decide +kernel
theorem dJ7_fill_bad5a_21 : decode cJ7_fill_bad5a 21 = .ok (.iinc 5 1, 3) := by decide +kernel
theorem dJ7_fill_bad5a_24 : decode cJ7_fill_bad5a 24 = .ok (.goto (-14), 3) := by decide +kernel
set_option maxRecDepth 20000 in
theorem l_J7_fill_bad5a_10 (d : Nat) {T : CT} {σ0 : MS} {rx0 : Nat} {c2 : Int} {j3 : Int64} {post : Option Value → CT → MS → Prop} (h_rx0 : (T rx0).1 = 3) (l_rx0 : (T rx0).2 ≤ 1000000) (r_c2 : -2147483648 ≤ c2 ∧ c2 ≤ 2147483647) (hw0 : WT T σ0) (hc2 : c2 ≤ ((T rx0).2 : Int)) (hx_27 : ∀ (i5 : Int) (σ : MS) , (WT T σ) → (FrC T [] σ0 σ) → (0 ≤ i5 ∧ i5 ≤ 2147483647) → Tn (d + 2) m_J7_fill_bad5a 27 T σ [(0, .ref rx0), (2, .int (iI c2)), (3, .long (j3)), (5, .int (iI i5))] [] post) : ∀ (n : Nat) (i5 : Int) (σ : MS) , (WT T σ) → (FrC T [] σ0 σ) → (0 ≤ i5 ∧ i5 ≤ 2147483647) → (2147483700 - i5).toNat = n → Tn (d + 2) m_J7_fill_bad5a 10 T σ [(0, .ref rx0), (2, .int (iI c2)), (3, .long (j3)), (5, .int (iI i5))] [] post := by
  intro n
  induction n using Nat.strongRecOn with
  | _ n ih =>
    intro i5 σ hw hF r_i5 hm
    refine tn_iload dJ7_fill_bad5a_10 3 rfl ?_
    refine tn_iload_n dJ7_fill_bad5a_12 rfl 1 rfl ?_
    refine tn_icmp_ge (tgt := 27) dJ7_fill_bad5a_13 (by decide) ⟨by omega, by omega⟩ ⟨by omega, by omega⟩ (fun h1 => ?_) (fun h1 => ?_)
    · exact tn_sub [0, 1, 2, 3] rfl (hx_27 (i5) σ hw (FrC.rfl.trans (FrC.sub hF (by decide))) (by omega))
    · refine tn_aload_n dJ7_fill_bad5a_16 rfl 0 rfl ?_
      refine tn_iload dJ7_fill_bad5a_17 3 rfl ?_
      refine tn_lload_n dJ7_fill_bad5a_19 rfl 2 rfl ?_
      refine tn_last (z := i5) (v := j3) dJ7_fill_bad5a_20 h_rx0 (by omega) (by omega) (by omega) ?_
      refine tn_iinc (q0 := 3) (L' := [(5, .int (iI (i5 + 1))), (0, .ref rx0), (2, .int (iI c2)), (3, .long (j3))]) dJ7_fill_bad5a_21 rfl (by decide) rfl ?_
      refine tn_goto (tgt := 10) dJ7_fill_bad5a_24 (by decide) ?_
      exact tn_sub [1, 2, 3, 0] rfl (ih _ (by omega) (i5 + 1) (sJ rx0 (i5) (j3) σ) (hw.lng) ((FrC.rfl.trans (FrC.sub hF (by decide))).lng) (by omega) rfl)
theorem dJ7_fill_bad5a_27 : decode cJ7_fill_bad5a 27 = .ok (.return_, 1) := by decide +kernel
set_option maxRecDepth 20000 in
theorem k_J7_fill_bad5a (d : Nat) {T : CT} {σ : MS} {x : Nat} {f : Int} {t : Int} {w : Int64} (h_x : (T x).1 = 3) (l_x : (T x).2 ≤ 1000000) (h_f : -2147483648 ≤ f ∧ f ≤ 2147483647) (h_t : -2147483648 ≤ t ∧ t ≤ 2147483647) (hw : WT T σ) (hf : 0 ≤ f ∧ f ≤ t ∧ t ≤ ((T x).2 : Int)) : Tn (d + 2) m_J7_fill_bad5a 0 T σ [(0, .ref x), (1, .int (iI f)), (2, .int (iI t)), (3, .long (w))] [] (fun ro T2 σ2 => ro = none ∧ T = T2 ∧ WT T2 σ2 ∧ FrC T [] σ σ2) := by
  refine tn_aload_n dJ7_fill_bad5a_0 rfl 0 rfl ?_
  refine tn_alenX dJ7_fill_bad5a_1 (Or.inr (Or.inr (Or.inl h_x))) ?_
  refine tn_iload_n dJ7_fill_bad5a_2 rfl 1 rfl ?_
  refine tn_iload_n dJ7_fill_bad5a_3 rfl 2 rfl ?_
  refine tn_callS (M := m_J7_fill_bad5a) (pc := 4) (ix := 13) (M' := m_J7_rangeCheck_23922) (As := [.int (iI (((T x).2 : Int))), .int (iI f), .int (iI t)]) (rest := []) dJ7_fill_bad5a_4 ok_J7_rangeCheck_23922 stt_J7_rangeCheck_23922 mlJ7_13 np_J7_rangeCheck_23922 rfl (Nat.le_of_ble_eq_true rfl) (Nat.le_of_ble_eq_true rfl) rfl (k_J7_rangeCheck_23922 (d) (T := T) (σ := σ) (n := ((T x).2 : Int)) (f := f) (t := t) (by omega) (by omega) (by omega) hw (by omega)) (fun r1 T3 σ2 gt4 hp => ?_)
  obtain ⟨rfl, rfl, rfl⟩ := hp
  clear gt4
  show Tn _ _ 7 T σ [(0, .ref x), (1, .int (iI f)), (2, .int (iI t)), (3, .long (w))] [] _
  refine tn_iload_n dJ7_fill_bad5a_7 rfl 1 rfl ?_
  refine tn_istore (L' := [(5, .int (iI f)), (0, .ref x), (1, .int (iI f)), (2, .int (iI t)), (3, .long (w))]) dJ7_fill_bad5a_8 (by decide) rfl ?_
  refine tn_sub [1, 3, 4, 0] rfl (l_J7_fill_bad5a_10 (d) (T := T) (σ0 := σ) (rx0 := x) (c2 := t) (j3 := w) h_x (by omega) (by omega) hw (by omega) (fun i56 σ7 w10 F11 r12 => ?_) _ (f) σ hw FrC.rfl (by omega) rfl)
  show Tn _ _ 27 T σ7 [(0, .ref x), (2, .int (iI t)), (3, .long (w)), (5, .int (iI i56))] [] _
  exact tn_vret rfl dJ7_fill_bad5a_27 ⟨rfl, rfl, w10, (FrC.rfl.trans (FrC.sub F11 (by decide)))⟩
theorem cd_X11_clear : Cond.code yX11_clear cX11_clear 2 none ∈ pWW := pw5 (List.mem_of_getElem? (i := 28) rfl) rfl
abbrev m_X11_clear : MT := (yX11_clear, cX11_clear, 2, none)
theorem ok_X11_clear : pOk m_X11_clear := ⟨⟨cd_X11_clear, ini_11⟩, by decide +kernel, ⟨by decide +kernel, by decide +kernel⟩, Nat.le_of_ble_eq_true rfl⟩
theorem np_X11_clear : (parseMethodDescriptor yX11_clear.desc).map (fun d => d.parameters.length) = some 2 := by decide +kernel
theorem stt_X11_clear : Cond.static yX11_clear ∈ pWW := pw5 (List.mem_of_getElem? (i := 27) rfl) rfl
theorem mlm11_110 : Cond.methodLink RX11 110 Lib.Math.min.name ∈ pWW := pw4 (List.mem_of_getElem? (i := 15) rfl) rfl
theorem mlm11_323 : Cond.methodLink RX11 323 Lib.Math.max.name ∈ pWW := pw5 (List.mem_of_getElem? (i := 29) rfl) rfl
theorem ml11_326 : Cond.methodLink RX11 326 yJ7_fill_bad5a ∈ pWW := pw5 (List.mem_of_getElem? (i := 30) rfl) rfl
theorem dX11_clear_0 : decode cX11_clear 0 = .ok (.aload_n 0, 1) := by decide +kernel
theorem dX11_clear_1 : decode cX11_clear 1 = .ok (.iconst 0, 1) := by decide +kernel
theorem dX11_clear_2 : decode cX11_clear 2 = .ok (.iconst 0, 1) := by decide +kernel
theorem dX11_clear_3 : decode cX11_clear 3 = .ok (.iload_n 1, 1) := by decide +kernel
theorem dX11_clear_4 : decode cX11_clear 4 = .ok (.aload_n 0, 1) := by decide +kernel
theorem dX11_clear_5 : decode cX11_clear 5 = .ok (.arraylength, 1) := by decide +kernel
theorem dX11_clear_6 : decode cX11_clear 6 = .ok (.invokestatic 110, 3) := by decide +kernel
theorem dX11_clear_9 : decode cX11_clear 9 = .ok (.invokestatic 323, 3) := by decide +kernel
theorem dX11_clear_12 : decode cX11_clear 12 = .ok (.lconst 0, 1) := by decide +kernel
theorem dX11_clear_13 : decode cX11_clear 13 = .ok (.invokestatic 326, 3) := by decide +kernel
theorem dX11_clear_16 : decode cX11_clear 16 = .ok (.return_, 1) := by decide +kernel
set_option maxRecDepth 20000 in
theorem k_X11_clear (d : Nat) {T : CT} {σ : MS} {x : Nat} {n : Int} (h_x : (T x).1 = 3) (l_x : (T x).2 ≤ 1000000) (h_n : -2147483648 ≤ n ∧ n ≤ 2147483647) (hw : WT T σ) : Tn (d + 3) m_X11_clear 0 T σ [(0, .ref x), (1, .int (iI n))] [] (fun ro T2 σ2 => ro = none ∧ T = T2 ∧ WT T2 σ2 ∧ FrC T [] σ σ2) := by
  refine tn_aload_n dX11_clear_0 rfl 0 rfl ?_
  refine tn_iconst dX11_clear_1 ?_
  refine tn_iconst dX11_clear_2 ?_
  refine tn_iload_n dX11_clear_3 rfl 1 rfl ?_
  refine tn_aload_n dX11_clear_4 rfl 0 rfl ?_
  refine tn_alenX dX11_clear_5 (Or.inr (Or.inr (Or.inl h_x))) ?_
  refine tn_mmin (x := n) (y := ((T x).2 : Int)) dX11_clear_6 mlm11_110 stM_min iniM cdM_min (by omega) (Nat.le_of_ble_eq_true rfl) ⟨by omega, by omega⟩ ⟨by omega, by omega⟩ (fun z1 g2 => ?_)
  refine tn_mmax (x := 0) (y := z1) dX11_clear_9 mlm11_323 stM_max iniM cdM_max (by omega) (Nat.le_of_ble_eq_true rfl) ⟨by omega, by omega⟩ ⟨by omega, by omega⟩ (fun z3 g4 => ?_)
  refine tn_lconst (v := 0) dX11_clear_12 rfl ?_
  refine tn_callS (M := m_X11_clear) (pc := 13) (ix := 326) (M' := m_J7_fill_bad5a) (As := [.ref x, .int (iI 0), .int (iI z3), .long (0)]) (rest := []) dX11_clear_13 ok_J7_fill_bad5a stt_J7_fill_bad5a ml11_326 np_J7_fill_bad5a rfl (Nat.le_of_ble_eq_true rfl) (Nat.le_of_ble_eq_true rfl) rfl (k_J7_fill_bad5a (d) (T := T) (σ := σ) (x := x) (f := 0) (t := z3) (w := 0) h_x (by omega) (by decide) (by omega) hw (by omega)) (fun r5 T7 σ6 gt8 hp => ?_)
  obtain ⟨rfl, rfl, w10, F11⟩ := hp
  clear gt8
  show Tn _ _ 16 T σ6 [(0, .ref x), (1, .int (iI n))] [] _
  exact tn_vret rfl dX11_clear_16 ⟨rfl, rfl, w10, (FrC.rfl.trans (FrC.sub F11 (by decide)))⟩
theorem cd_X11_tapeNumber : Cond.code yX11_tapeNumber cX11_tapeNumber 3 none ∈ pWW := pw3 (List.mem_of_getElem? (i := 12) rfl) rfl
abbrev m_X11_tapeNumber : MT := (yX11_tapeNumber, cX11_tapeNumber, 3, none)
theorem ok_X11_tapeNumber : pOk m_X11_tapeNumber := ⟨⟨cd_X11_tapeNumber, ini_11⟩, by decide +kernel, ⟨by decide +kernel, by decide +kernel⟩, Nat.le_of_ble_eq_true rfl⟩
theorem np_X11_tapeNumber : (parseMethodDescriptor yX11_tapeNumber.desc).map (fun d => d.parameters.length) = some 1 := by decide +kernel
theorem im_X11_tapeNumber : Cond.instanceMethod yX11_tapeNumber ∈ pWW := pw3 (List.mem_of_getElem? (i := 11) rfl) rfl
theorem se_X11_tapeNumber : Cond.selects RX11 yX11_tapeNumber yX11_tapeNumber ∈ pWW := pws (List.mem_map.mpr ⟨_, lw_pin 0 rfl, rfl⟩) rfl
theorem fl11_87 : Cond.fieldLink RX11 87 (TX11 1).1 (TX11 1).2.1 (TX11 1).2.2.1 ∈ pWW := pw2 (List.mem_of_getElem? (i := 197) rfl) rfl
theorem fl11_9 : Cond.fieldLink RX11 9 (TX11 0).1 (TX11 0).2.1 (TX11 0).2.2.1 ∈ pWW := pw2 (List.mem_of_getElem? (i := 196) rfl) rfl
theorem dX11_tapeNumber_0 : decode cX11_tapeNumber 0 = .ok (.bipush 24, 2) := by decide +kernel
theorem dX11_tapeNumber_2 : decode cX11_tapeNumber 2 = .ok (.istore_n 2, 1) := by decide +kernel
theorem dX11_tapeNumber_3 : decode cX11_tapeNumber 3 = .ok (.iload_n 2, 1) := by decide +kernel
theorem dX11_tapeNumber_4 : decode cX11_tapeNumber 4 = .ok (.ifCond .lt 51, 3) := by decide +kernel
theorem dX11_tapeNumber_7 : decode cX11_tapeNumber 7 = .ok (.aload_n 0, 1) := by decide +kernel
theorem dX11_tapeNumber_8 : decode cX11_tapeNumber 8 = .ok (.getfield 87, 3) := by decide +kernel
theorem dX11_tapeNumber_11 : decode cX11_tapeNumber 11 = .ok (.ifCond .lt 38, 3) := by decide +kernel
theorem dX11_tapeNumber_14 : decode cX11_tapeNumber 14 = .ok (.aload_n 0, 1) := by decide +kernel
theorem dX11_tapeNumber_15 : decode cX11_tapeNumber 15 = .ok (.getfield 87, 3) := by decide +kernel
theorem dX11_tapeNumber_18 : decode cX11_tapeNumber 18 = .ok (.aload_n 0, 1) := by decide +kernel
theorem dX11_tapeNumber_19 : decode cX11_tapeNumber 19 = .ok (.getfield 9, 3) := by decide +kernel
theorem dX11_tapeNumber_22 : decode cX11_tapeNumber 22 = .ok (.arraylength, 1) := by decide +kernel
theorem dX11_tapeNumber_23 : decode cX11_tapeNumber 23 = .ok (.if_icmp .ge 26, 3) := by decide +kernel
theorem dX11_tapeNumber_49 : decode cX11_tapeNumber 49 = .ok (.iinc 2 (-8), 3) := by decide +kernel
theorem dX11_tapeNumber_52 : decode cX11_tapeNumber 52 = .ok (.goto (-49), 3) := by decide +kernel
theorem dX11_tapeNumber_26 : decode cX11_tapeNumber 26 = .ok (.aload_n 0, 1) := by decide +kernel
theorem dX11_tapeNumber_27 : decode cX11_tapeNumber 27 = .ok (.getfield 9, 3) := by decide +kernel
theorem dX11_tapeNumber_30 : decode cX11_tapeNumber 30 = .ok (.aload_n 0, 1) := by decide +kernel
theorem dX11_tapeNumber_31 : decode cX11_tapeNumber 31 = .ok (.getfield 87, 3) := by decide +kernel
theorem dX11_tapeNumber_34 : decode cX11_tapeNumber 34 = .ok (.iload_n 1, 1) := by decide +kernel
theorem dX11_tapeNumber_35 : decode cX11_tapeNumber 35 = .ok (.iload_n 2, 1) := by decide +kernel
theorem dX11_tapeNumber_36 : decode cX11_tapeNumber 36 = .ok (.iushr, 1) := by decide +kernel
theorem dX11_tapeNumber_37 : decode cX11_tapeNumber 37 = .ok (.i2b, 1) := by decide +kernel
theorem dX11_tapeNumber_38 : decode cX11_tapeNumber 38 = .ok (.bastore, 1) := by decide +kernel
theorem dX11_tapeNumber_39 : decode cX11_tapeNumber 39 = .ok (.aload_n 0, 1) := by decide +kernel
theorem dX11_tapeNumber_40 : decode cX11_tapeNumber 40 = .ok (.dup, 1) := by decide +kernel
theorem dX11_tapeNumber_41 : decode cX11_tapeNumber 41 = .ok (.getfield 87, 3) := by decide +kernel
theorem dX11_tapeNumber_44 : decode cX11_tapeNumber 44 = .ok (.iconst 1, 1) := by decide +kernel
theorem dX11_tapeNumber_45 : decode cX11_tapeNumber 45 = .ok (.iadd, 1) := by decide +kernel
theorem dX11_tapeNumber_46 : decode cX11_tapeNumber 46 = .ok (.putfield 87, 3) := by decide +kernel
set_option maxRecDepth 20000 in
theorem l_X11_tapeNumber_3 (d : Nat) {T : CT} {σ0 : MS} {a : Nat} {c1 : Int} {post : Option Value → CT → MS → Prop} (h_a : OB T a 11) (r_c1 : -2147483648 ≤ c1 ∧ c1 ≤ 2147483647) (hw0 : WT T σ0) (hx_55 : ∀ (i2 : Int) (σ : MS) , (WT T σ) → (FrC T [96, 502] σ0 σ) → (-8 ≤ i2 ∧ i2 ≤ 24) → Tn (d + 1) m_X11_tapeNumber 55 T σ [(0, .ref a), (1, .int (iI c1)), (2, .int (iI i2))] [] post) : ∀ (n : Nat) (i2 : Int) (σ : MS) , (WT T σ) → (FrC T [96, 502] σ0 σ) → (-8 ≤ i2 ∧ i2 ≤ 24) → (i2 + 20).toNat = n → Tn (d + 1) m_X11_tapeNumber 3 T σ [(0, .ref a), (1, .int (iI c1)), (2, .int (iI i2))] [] post := by
  intro n
  induction n using Nat.strongRecOn with
  | _ n ih =>
    intro i2 σ hw hF r_i2 hm
    refine tn_iload_n dX11_tapeNumber_3 rfl 2 rfl ?_
    refine tn_if_lt (tgt := 55) dX11_tapeNumber_4 (by decide) ⟨by omega, by omega⟩ (fun h1 => ?_) (fun h1 => ?_)
    · exact tn_sub [0, 1, 2] rfl (hx_55 (i2) σ hw (FrC.rfl.trans (FrC.sub hF (by decide))) (by omega))
    · refine tn_aload_n dX11_tapeNumber_7 rfl 0 rfl ?_
      refine tn_getI (ci := 11) (i := 1) (n := 96) (t := σ.2.1 96 a) dX11_tapeNumber_8 rfl lay_11 (by decide) fl11_87 h_a rfl rfl (rfl) ?_
      have g2 : ((0 : Int) ≤ σ.2.1 96 a ∧ σ.2.1 96 a ≤ 1200) := wf_96 hw h_a
      refine tn_if_lt (tgt := 49) dX11_tapeNumber_11 (by decide) ⟨by omega, by omega⟩ (fun h3 => absurd h3 (by omega)) (fun h3 => ?_)
      refine tn_aload_n dX11_tapeNumber_14 rfl 0 rfl ?_
      refine tn_getI (ci := 11) (i := 1) (n := 96) (t := σ.2.1 96 a) dX11_tapeNumber_15 rfl lay_11 (by decide) fl11_87 h_a rfl rfl (rfl) ?_
      refine tn_aload_n dX11_tapeNumber_18 rfl 0 rfl ?_
      obtain ⟨x4, hx5, hk6, hl7⟩ : ∃ x : Nat, σ0.2.1 95 a = (x : Int) ∧ AR T x 2 1200 1200 := wf_95 hw0 h_a
      refine tn_getR (ci := 11) (i := 0) (n := 95) (x := x4) dX11_tapeNumber_19 rfl lay_11 (by decide) fl11_9 h_a rfl rfl (rc_F hF (Or.inl (by decide)) (by decide) (hx5)) ?_
      refine tn_alenX dX11_tapeNumber_22 (Or.inr (Or.inl hk6)) ?_
      refine tn_icmp_ge (tgt := 49) dX11_tapeNumber_23 (by decide) ⟨by omega, by omega⟩ ⟨by omega, by omega⟩ (fun h8 => ?_) (fun h8 => ?_)
      · refine tn_iinc (q0 := 2) (L' := [(2, .int (iI (i2 + (-8)))), (0, .ref a), (1, .int (iI c1))]) dX11_tapeNumber_49 rfl (by decide) rfl ?_
        refine tn_goto (tgt := 3) dX11_tapeNumber_52 (by decide) ?_
        exact tn_sub [1, 2, 0] rfl (ih _ (by omega) (i2 + (-8)) σ hw (FrC.rfl.trans (FrC.sub hF (by decide))) (by omega) rfl)
      · refine tn_aload_n dX11_tapeNumber_26 rfl 0 rfl ?_
        refine tn_getR (ci := 11) (i := 0) (n := 95) (x := x4) dX11_tapeNumber_27 rfl lay_11 (by decide) fl11_9 h_a rfl rfl (rc_F hF (Or.inl (by decide)) (by decide) (hx5)) ?_
        refine tn_aload_n dX11_tapeNumber_30 rfl 0 rfl ?_
        refine tn_getI (ci := 11) (i := 1) (n := 96) (t := σ.2.1 96 a) dX11_tapeNumber_31 rfl lay_11 (by decide) fl11_87 h_a rfl rfl (rfl) ?_
        refine tn_iload_n dX11_tapeNumber_34 rfl 1 rfl ?_
        refine tn_iload_n dX11_tapeNumber_35 rfl 2 rfl ?_
        refine tn_iushr dX11_tapeNumber_36 ?_
        refine tn_anyI (fun z9 g10 => ?_)
        have g10r : -2147483648 ≤ z9 ∧ z9 ≤ 2147483647 := g10
        refine tn_i2b dX11_tapeNumber_37 ?_
        refine tn_anyI (fun z11 g12 => ?_)
        have g12r : -2147483648 ≤ z11 ∧ z11 ≤ 2147483647 := g12
        obtain ⟨v13, g14, g14e⟩ := nar_b (iI (z11))
        refine tn_bast (z := σ.2.1 96 a) (v := v13) dX11_tapeNumber_38 hk6 (by omega) (by omega) (by omega) g14e ?_
        refine tn_aload_n dX11_tapeNumber_39 rfl 0 rfl ?_
        refine tn_dup dX11_tapeNumber_40 rfl ?_
        refine tn_getI (ci := 11) (i := 1) (n := 96) (t := σ.2.1 96 a) dX11_tapeNumber_41 rfl lay_11 (by decide) fl11_87 h_a rfl rfl (rc_a (Or.inl (by decide)) (rfl)) ?_
        refine tn_iconst dX11_tapeNumber_44 ?_
        refine tn_iadd dX11_tapeNumber_45 ?_
        refine tn_putV (ci := 11) (i := 1) (n := 96) (r := false) (v := (σ.2.1 96 a) + 1) tyX11 tyX11_ok nmX11 dX11_tapeNumber_46 rfl lay_11 (by decide) fl11_87 rfl (tyX11_ok 1 (by decide)) rfl rfl rfl h_a rfl rfl ?_
        refine tn_iinc (q0 := 2) (L' := [(2, .int (iI (i2 + (-8)))), (0, .ref a), (1, .int (iI c1))]) dX11_tapeNumber_49 rfl (by decide) rfl ?_
        refine tn_goto (tgt := 3) dX11_tapeNumber_52 (by decide) ?_
        exact tn_sub [1, 2, 0] rfl (ih _ (by omega) (i2 + (-8)) (sA 96 a ((σ.2.1 96 a) + 1) (sA (1000 + x4) (σ.2.1 96 a) (v13) σ)) ((hw.arr (Or.inr hk6) (vok_1 (Or.inr (Or.inr hk6)) g14)).put (by decide) (by decide) (fo_96 (by omega))) (((FrC.rfl.trans (FrC.sub hF (by decide))).arr (hk_in hk6 (by decide))).put (by decide) (by decide)) (by omega) rfl)
theorem dX11_tapeNumber_55 : decode cX11_tapeNumber 55 = .ok (.return_, 1) := by decide +kernel
set_option maxRecDepth 20000 in
theorem k_X11_tapeNumber (d : Nat) {T : CT} {σ : MS} {a : Nat} {n : Int} (ha : OB T a 11) (h_n : -2147483648 ≤ n ∧ n ≤ 2147483647) (hw : WT T σ) : Tn (d + 1) m_X11_tapeNumber 0 T σ [(0, .ref a), (1, .int (iI n))] [] (fun ro T2 σ2 => ro = none ∧ T = T2 ∧ WT T2 σ2 ∧ FrC T [96, 502] σ σ2) := by
  refine tn_bipush dX11_tapeNumber_0 (by decide) ?_
  refine tn_istore_n (L' := [(2, .int (iI 24)), (0, .ref a), (1, .int (iI n))]) dX11_tapeNumber_2 rfl (by decide) rfl ?_
  refine tn_sub [1, 2, 0] rfl (l_X11_tapeNumber_3 (d) (T := T) (σ0 := σ) (a := a) (c1 := n) ha (by omega) hw (fun i21 σ2 w5 F6 r7 => ?_) _ (24) σ hw FrC.rfl (by omega) rfl)
  show Tn _ _ 55 T σ2 [(0, .ref a), (1, .int (iI n)), (2, .int (iI i21))] [] _
  exact tn_vret rfl dX11_tapeNumber_55 ⟨rfl, rfl, w5, (FrC.rfl.trans (FrC.sub F6 (by decide)))⟩
