section
theorem lay_0 : ∀ w ∈ u_ws RX0 TX0 5, w ∈ pWW := pLay (fun k hk => match k, hk with
  | 0, _ => pw6 (List.mem_of_getElem? (i := 190) rfl) rfl
  | 1, _ => pw6 (List.mem_of_getElem? (i := 192) rfl) rfl
  | 2, _ => pw6 (List.mem_of_getElem? (i := 194) rfl) rfl
  | 3, _ => pw6 (List.mem_of_getElem? (i := 196) rfl) rfl
  | 4, _ => pw6 (List.mem_of_getElem? (i := 198) rfl) rfl
  | k + 5, h => absurd h (by omega))
theorem lay_1 : ∀ w ∈ u_ws RX1 TX1 12, w ∈ pWW := pLay (fun k hk => match k, hk with
  | 0, _ => pw1 (List.mem_of_getElem? (i := 128) rfl) rfl
  | 1, _ => pw1 (List.mem_of_getElem? (i := 130) rfl) rfl
  | 2, _ => pw1 (List.mem_of_getElem? (i := 132) rfl) rfl
  | 3, _ => pw1 (List.mem_of_getElem? (i := 134) rfl) rfl
  | 4, _ => pw1 (List.mem_of_getElem? (i := 136) rfl) rfl
  | 5, _ => pw1 (List.mem_of_getElem? (i := 138) rfl) rfl
  | 6, _ => pw1 (List.mem_of_getElem? (i := 140) rfl) rfl
  | 7, _ => pw1 (List.mem_of_getElem? (i := 142) rfl) rfl
  | 8, _ => pw1 (List.mem_of_getElem? (i := 144) rfl) rfl
  | 9, _ => pw1 (List.mem_of_getElem? (i := 146) rfl) rfl
  | 10, _ => pw1 (List.mem_of_getElem? (i := 148) rfl) rfl
  | 11, _ => pw1 (List.mem_of_getElem? (i := 150) rfl) rfl
  | k + 12, h => absurd h (by omega))
theorem lay_2 : ∀ w ∈ u_ws RX2 TX2 1, w ∈ pWW := pLay (fun k hk => match k, hk with
  | 0, _ => pw2 (List.mem_of_getElem? (i := 52) rfl) rfl
  | k + 1, h => absurd h (by omega))
theorem lay_3 : ∀ w ∈ u_ws RX3 TX3 5, w ∈ pWW := pLay (fun k hk => match k, hk with
  | 0, _ => pw1 (List.mem_of_getElem? (i := 227) rfl) rfl
  | 1, _ => pw1 (List.mem_of_getElem? (i := 229) rfl) rfl
  | 2, _ => pw1 (List.mem_of_getElem? (i := 231) rfl) rfl
  | 3, _ => pw1 (List.mem_of_getElem? (i := 233) rfl) rfl
  | 4, _ => pw1 (List.mem_of_getElem? (i := 235) rfl) rfl
  | k + 5, h => absurd h (by omega))
theorem lay_4 : ∀ w ∈ u_ws RX4 TX4 10, w ∈ pWW := pLay (fun k hk => match k, hk with
  | 0, _ => pw2 (List.mem_of_getElem? (i := 71) rfl) rfl
  | 1, _ => pw2 (List.mem_of_getElem? (i := 73) rfl) rfl
  | 2, _ => pw2 (List.mem_of_getElem? (i := 75) rfl) rfl
  | 3, _ => pw2 (List.mem_of_getElem? (i := 77) rfl) rfl
  | 4, _ => pw2 (List.mem_of_getElem? (i := 79) rfl) rfl
  | 5, _ => pw2 (List.mem_of_getElem? (i := 81) rfl) rfl
  | 6, _ => pw2 (List.mem_of_getElem? (i := 83) rfl) rfl
  | 7, _ => pw2 (List.mem_of_getElem? (i := 85) rfl) rfl
  | 8, _ => pw2 (List.mem_of_getElem? (i := 87) rfl) rfl
  | 9, _ => pw2 (List.mem_of_getElem? (i := 89) rfl) rfl
  | k + 10, h => absurd h (by omega))
theorem lay_5 : ∀ w ∈ u_ws RX5 TX5 19, w ∈ pWW := pLay (fun k hk => match k, hk with
  | 0, _ => pw1 (List.mem_of_getElem? (i := 175) rfl) rfl
  | 1, _ => pw1 (List.mem_of_getElem? (i := 177) rfl) rfl
  | 2, _ => pw1 (List.mem_of_getElem? (i := 179) rfl) rfl
  | 3, _ => pw1 (List.mem_of_getElem? (i := 181) rfl) rfl
  | 4, _ => pw1 (List.mem_of_getElem? (i := 183) rfl) rfl
  | 5, _ => pw1 (List.mem_of_getElem? (i := 185) rfl) rfl
  | 6, _ => pw1 (List.mem_of_getElem? (i := 187) rfl) rfl
  | 7, _ => pw1 (List.mem_of_getElem? (i := 189) rfl) rfl
  | 8, _ => pw1 (List.mem_of_getElem? (i := 191) rfl) rfl
  | 9, _ => pw1 (List.mem_of_getElem? (i := 193) rfl) rfl
  | 10, _ => pw1 (List.mem_of_getElem? (i := 195) rfl) rfl
  | 11, _ => pw1 (List.mem_of_getElem? (i := 197) rfl) rfl
  | 12, _ => pw1 (List.mem_of_getElem? (i := 199) rfl) rfl
  | 13, _ => pw1 (List.mem_of_getElem? (i := 201) rfl) rfl
  | 14, _ => pw1 (List.mem_of_getElem? (i := 203) rfl) rfl
  | 15, _ => pw1 (List.mem_of_getElem? (i := 205) rfl) rfl
  | 16, _ => pw1 (List.mem_of_getElem? (i := 207) rfl) rfl
  | 17, _ => pw1 (List.mem_of_getElem? (i := 209) rfl) rfl
  | 18, _ => pw1 (List.mem_of_getElem? (i := 211) rfl) rfl
  | k + 19, h => absurd h (by omega))
theorem lay_6 : ∀ w ∈ u_ws RX6 TX6 3, w ∈ pWW := pLay (fun k hk => match k, hk with
  | 0, _ => pw2 (List.mem_of_getElem? (i := 38) rfl) rfl
  | 1, _ => pw2 (List.mem_of_getElem? (i := 40) rfl) rfl
  | 2, _ => pw2 (List.mem_of_getElem? (i := 42) rfl) rfl
  | k + 3, h => absurd h (by omega))
theorem lay_7 : ∀ w ∈ u_ws RX7 TX7 17, w ∈ pWW := pLay (fun k hk => match k, hk with
  | 0, _ => pw2 (List.mem_of_getElem? (i := 161) rfl) rfl
  | 1, _ => pw2 (List.mem_of_getElem? (i := 163) rfl) rfl
  | 2, _ => pw2 (List.mem_of_getElem? (i := 165) rfl) rfl
  | 3, _ => pw2 (List.mem_of_getElem? (i := 167) rfl) rfl
  | 4, _ => pw2 (List.mem_of_getElem? (i := 169) rfl) rfl
  | 5, _ => pw2 (List.mem_of_getElem? (i := 171) rfl) rfl
  | 6, _ => pw2 (List.mem_of_getElem? (i := 173) rfl) rfl
  | 7, _ => pw2 (List.mem_of_getElem? (i := 175) rfl) rfl
  | 8, _ => pw2 (List.mem_of_getElem? (i := 177) rfl) rfl
  | 9, _ => pw2 (List.mem_of_getElem? (i := 179) rfl) rfl
  | 10, _ => pw2 (List.mem_of_getElem? (i := 181) rfl) rfl
  | 11, _ => pw2 (List.mem_of_getElem? (i := 183) rfl) rfl
  | 12, _ => pw2 (List.mem_of_getElem? (i := 185) rfl) rfl
  | 13, _ => pw2 (List.mem_of_getElem? (i := 187) rfl) rfl
  | 14, _ => pw2 (List.mem_of_getElem? (i := 189) rfl) rfl
  | 15, _ => pw2 (List.mem_of_getElem? (i := 191) rfl) rfl
  | 16, _ => pw2 (List.mem_of_getElem? (i := 193) rfl) rfl
  | k + 17, h => absurd h (by omega))
theorem lay_8 : ∀ w ∈ u_ws RX8 TX8 9, w ∈ pWW := pLay (fun k hk => match k, hk with
  | 0, _ => pw2 (List.mem_of_getElem? (i := 107) rfl) rfl
  | 1, _ => pw2 (List.mem_of_getElem? (i := 109) rfl) rfl
  | 2, _ => pw2 (List.mem_of_getElem? (i := 111) rfl) rfl
  | 3, _ => pw2 (List.mem_of_getElem? (i := 113) rfl) rfl
  | 4, _ => pw2 (List.mem_of_getElem? (i := 115) rfl) rfl
  | 5, _ => pw2 (List.mem_of_getElem? (i := 117) rfl) rfl
  | 6, _ => pw2 (List.mem_of_getElem? (i := 119) rfl) rfl
  | 7, _ => pw2 (List.mem_of_getElem? (i := 121) rfl) rfl
  | 8, _ => pw2 (List.mem_of_getElem? (i := 123) rfl) rfl
  | k + 9, h => absurd h (by omega))
theorem lay_9 : ∀ w ∈ u_ws RX9 TX9 7, w ∈ pWW := pLay (fun k hk => match k, hk with
  | 0, _ => pw1 (List.mem_of_getElem? (i := 54) rfl) rfl
  | 1, _ => pw1 (List.mem_of_getElem? (i := 56) rfl) rfl
  | 2, _ => pw1 (List.mem_of_getElem? (i := 58) rfl) rfl
  | 3, _ => pw1 (List.mem_of_getElem? (i := 60) rfl) rfl
  | 4, _ => pw1 (List.mem_of_getElem? (i := 62) rfl) rfl
  | 5, _ => pw1 (List.mem_of_getElem? (i := 64) rfl) rfl
  | 6, _ => pw1 (List.mem_of_getElem? (i := 66) rfl) rfl
  | k + 7, h => absurd h (by omega))
theorem lay_10 : ∀ w ∈ u_ws RX10 TX10 7, w ∈ pWW := pLay (fun k hk => match k, hk with
  | 0, _ => pw2 (List.mem_of_getElem? (i := 14) rfl) rfl
  | 1, _ => pw2 (List.mem_of_getElem? (i := 16) rfl) rfl
  | 2, _ => pw2 (List.mem_of_getElem? (i := 18) rfl) rfl
  | 3, _ => pw2 (List.mem_of_getElem? (i := 20) rfl) rfl
  | 4, _ => pw2 (List.mem_of_getElem? (i := 22) rfl) rfl
  | 5, _ => pw2 (List.mem_of_getElem? (i := 24) rfl) rfl
  | 6, _ => pw2 (List.mem_of_getElem? (i := 26) rfl) rfl
  | k + 7, h => absurd h (by omega))
theorem lay_11 : ∀ w ∈ u_ws RX11 TX11 16, w ∈ pWW := pLay (fun k hk => match k, hk with
  | 0, _ => pw2 (List.mem_of_getElem? (i := 212) rfl) rfl
  | 1, _ => pw2 (List.mem_of_getElem? (i := 214) rfl) rfl
  | 2, _ => pw2 (List.mem_of_getElem? (i := 216) rfl) rfl
  | 3, _ => pw2 (List.mem_of_getElem? (i := 218) rfl) rfl
  | 4, _ => pw2 (List.mem_of_getElem? (i := 220) rfl) rfl
  | 5, _ => pw2 (List.mem_of_getElem? (i := 222) rfl) rfl
  | 6, _ => pw2 (List.mem_of_getElem? (i := 224) rfl) rfl
  | 7, _ => pw2 (List.mem_of_getElem? (i := 226) rfl) rfl
  | 8, _ => pw2 (List.mem_of_getElem? (i := 228) rfl) rfl
  | 9, _ => pw2 (List.mem_of_getElem? (i := 230) rfl) rfl
  | 10, _ => pw2 (List.mem_of_getElem? (i := 232) rfl) rfl
  | 11, _ => pw2 (List.mem_of_getElem? (i := 234) rfl) rfl
  | 12, _ => pw2 (List.mem_of_getElem? (i := 236) rfl) rfl
  | 13, _ => pw2 (List.mem_of_getElem? (i := 238) rfl) rfl
  | 14, _ => pw3 (List.mem_of_getElem? (i := 0) rfl) rfl
  | 15, _ => pw3 (List.mem_of_getElem? (i := 2) rfl) rfl
  | k + 16, h => absurd h (by omega))
theorem stM_max : Cond.static Lib.Math.max.name ∈ pWW := pw3 (List.mem_of_getElem? (i := 33) rfl) rfl
theorem cdM_max : Cond.code Lib.Math.max.name Lib.Math.max.code 2 (some .int) ∈ pWW := pw3 (List.mem_of_getElem? (i := 34) rfl) rfl
theorem stM_min : Cond.static Lib.Math.min.name ∈ pWW := pw3 (List.mem_of_getElem? (i := 30) rfl) rfl
theorem cdM_min : Cond.code Lib.Math.min.name Lib.Math.min.code 2 (some .int) ∈ pWW := pw3 (List.mem_of_getElem? (i := 31) rfl) rfl
theorem iniM : Cond.initialized "java/lang/Math" ∈ pWW := pw1 (List.mem_of_getElem? (i := 13) rfl) rfl
theorem acNat : Cond.native arraycopyName ∈ pWW := pw3 (List.mem_of_getElem? (i := 143) rfl) rfl
theorem acSt : Cond.static arraycopyName ∈ pWW := pw3 (List.mem_of_getElem? (i := 142) rfl) rfl
theorem acIni : Cond.initialized "java/lang/System" ∈ pWW := pw1 (List.mem_of_getElem? (i := 15) rfl) rfl
theorem arC_int : Cond.arrayClass .int ∈ pWW := pw1 (List.mem_of_getElem? (i := 70) rfl) rfl
theorem arC_byte : Cond.arrayClass .byte ∈ pWW := pw1 (List.mem_of_getElem? (i := 69) rfl) rfl
theorem arC_long : Cond.arrayClass .long ∈ pWW := pw1 (List.mem_of_getElem? (i := 238) rfl) rfl
theorem cd_J7_fill_53178 : Cond.code yJ7_fill_53178 cJ7_fill_53178 4 none ∈ pWW := pw3 (List.mem_of_getElem? (i := 161) rfl) rfl
theorem ini_J7 : Cond.initialized RXJ7 ∈ pWW := pw1 (List.mem_of_getElem? (i := 14) rfl) rfl
abbrev m_J7_fill_53178 : MT := (yJ7_fill_53178, cJ7_fill_53178, 4, none)
theorem ok_J7_fill_53178 : pOk m_J7_fill_53178 := ⟨⟨cd_J7_fill_53178, ini_J7⟩, by decide +kernel, ⟨by decide +kernel, by decide +kernel⟩, Nat.le_of_ble_eq_true rfl⟩
theorem np_J7_fill_53178 : (parseMethodDescriptor yJ7_fill_53178.desc).map (fun d => d.parameters.length) = some 2 := by decide +kernel
theorem stt_J7_fill_53178 : Cond.static yJ7_fill_53178 ∈ pWW := pw3 (List.mem_of_getElem? (i := 160) rfl) rfl
theorem cd_J7_fill_fda19 : Cond.code yJ7_fill_fda19 cJ7_fill_fda19 5 none ∈ pWW := pw3 (List.mem_of_getElem? (i := 146) rfl) rfl
abbrev m_J7_fill_fda19 : MT := (yJ7_fill_fda19, cJ7_fill_fda19, 5, none)
theorem ok_J7_fill_fda19 : pOk m_J7_fill_fda19 := ⟨⟨cd_J7_fill_fda19, ini_J7⟩, by decide +kernel, ⟨by decide +kernel, by decide +kernel⟩, Nat.le_of_ble_eq_true rfl⟩
theorem np_J7_fill_fda19 : (parseMethodDescriptor yJ7_fill_fda19.desc).map (fun d => d.parameters.length) = some 4 := by decide +kernel
theorem stt_J7_fill_fda19 : Cond.static yJ7_fill_fda19 ∈ pWW := pw3 (List.mem_of_getElem? (i := 145) rfl) rfl
theorem cd_J7_fill_bad5a : Cond.code yJ7_fill_bad5a cJ7_fill_bad5a 6 none ∈ pWW := pw5 (List.mem_of_getElem? (i := 32) rfl) rfl
abbrev m_J7_fill_bad5a : MT := (yJ7_fill_bad5a, cJ7_fill_bad5a, 6, none)
theorem ok_J7_fill_bad5a : pOk m_J7_fill_bad5a := ⟨⟨cd_J7_fill_bad5a, ini_J7⟩, by decide +kernel, ⟨by decide +kernel, by decide +kernel⟩, Nat.le_of_ble_eq_true rfl⟩
theorem np_J7_fill_bad5a : (parseMethodDescriptor yJ7_fill_bad5a.desc).map (fun d => d.parameters.length) = some 4 := by decide +kernel
theorem stt_J7_fill_bad5a : Cond.static yJ7_fill_bad5a ∈ pWW := pw5 (List.mem_of_getElem? (i := 31) rfl) rfl
theorem cd_J7_rangeCheck_23922 : Cond.code yJ7_rangeCheck_23922 cJ7_rangeCheck_23922 3 none ∈ pWW := pw3 (List.mem_of_getElem? (i := 149) rfl) rfl
abbrev m_J7_rangeCheck_23922 : MT := (yJ7_rangeCheck_23922, cJ7_rangeCheck_23922, 3, none)
theorem ok_J7_rangeCheck_23922 : pOk m_J7_rangeCheck_23922 := ⟨⟨cd_J7_rangeCheck_23922, ini_J7⟩, by decide +kernel, ⟨by decide +kernel, by decide +kernel⟩, Nat.le_of_ble_eq_true rfl⟩
theorem np_J7_rangeCheck_23922 : (parseMethodDescriptor yJ7_rangeCheck_23922.desc).map (fun d => d.parameters.length) = some 3 := by decide +kernel
theorem stt_J7_rangeCheck_23922 : Cond.static yJ7_rangeCheck_23922 ∈ pWW := pw3 (List.mem_of_getElem? (i := 148) rfl) rfl
theorem cd_J7_copyOf_59c91 : Cond.code yJ7_copyOf_59c91 cJ7_copyOf_59c91 3 (some (.array .int)) ∈ pWW := pw3 (List.mem_of_getElem? (i := 132) rfl) rfl
abbrev m_J7_copyOf_59c91 : MT := (yJ7_copyOf_59c91, cJ7_copyOf_59c91, 3, (some (.array .int)))
theorem ok_J7_copyOf_59c91 : pOk m_J7_copyOf_59c91 := ⟨⟨cd_J7_copyOf_59c91, ini_J7⟩, by decide +kernel, ⟨by decide +kernel, by decide +kernel⟩, Nat.le_of_ble_eq_true rfl⟩
theorem np_J7_copyOf_59c91 : (parseMethodDescriptor yJ7_copyOf_59c91.desc).map (fun d => d.parameters.length) = some 2 := by decide +kernel
theorem stt_J7_copyOf_59c91 : Cond.static yJ7_copyOf_59c91 ∈ pWW := pw3 (List.mem_of_getElem? (i := 131) rfl) rfl
theorem cd_X11_isFive : Cond.code yX11_isFive cX11_isFive 1 (some .boolean) ∈ pWW := pw4 (List.mem_of_getElem? (i := 208) rfl) rfl
theorem ini_11 : Cond.initialized RX11 ∈ pWW := pw1 (List.mem_of_getElem? (i := 1) rfl) rfl
abbrev m_X11_isFive : MT := (yX11_isFive, cX11_isFive, 1, (some .boolean))
theorem ok_X11_isFive : pOk m_X11_isFive := ⟨⟨cd_X11_isFive, ini_11⟩, by decide +kernel, ⟨by decide +kernel, by decide +kernel⟩, Nat.le_of_ble_eq_true rfl⟩
theorem np_X11_isFive : (parseMethodDescriptor yX11_isFive.desc).map (fun d => d.parameters.length) = some 1 := by decide +kernel
theorem stt_X11_isFive : Cond.static yX11_isFive ∈ pWW := pw4 (List.mem_of_getElem? (i := 207) rfl) rfl
theorem dX11_isFive_0 : decode cX11_isFive 0 = .ok (.iload_n 0, 1) := by decide +kernel
theorem dX11_isFive_1 : decode cX11_isFive 1 = .ok (.iconst 1, 1) := by decide +kernel
theorem dX11_isFive_2 : decode cX11_isFive 2 = .ok (.if_icmp .lt 12, 3) := by decide +kernel
theorem dX11_isFive_14 : decode cX11_isFive 14 = .ok (.iconst 0, 1) := by decide +kernel
theorem dX11_isFive_15 : decode cX11_isFive 15 = .ok (.ireturn, 1) := by decide +kernel
theorem dX11_isFive_5 : decode cX11_isFive 5 = .ok (.iload_n 0, 1) := by decide +kernel
theorem dX11_isFive_6 : decode cX11_isFive 6 = .ok (.iconst 5, 1) := by decide +kernel
theorem dX11_isFive_7 : decode cX11_isFive 7 = .ok (.if_icmp .gt 7, 3) := by decide +kernel
theorem dX11_isFive_10 : decode cX11_isFive 10 = .ok (.iconst 1, 1) := by decide +kernel
theorem dX11_isFive_11 : decode cX11_isFive 11 = .ok (.goto 4, 3) := by decide +kernel
set_option maxRecDepth 20000 in
theorem k_X11_isFive (d : Nat) {T : CT} {σ : MS} {k : Int} (h_k : -2147483648 ≤ k ∧ k ≤ 2147483647) (hw : WT T σ) : Tn (d + 1) m_X11_isFive 0 T σ [(0, .int (iI k))] [] (fun ro T2 σ2 => ∃ v : Int, ro = some (.int (iI v)) ∧ T = T2 ∧ σ = σ2 ∧ (v = 0 ∨ v = 1)) := by
  refine tn_iload_n dX11_isFive_0 rfl 0 rfl ?_
  refine tn_iconst dX11_isFive_1 ?_
  refine tn_icmp_lt (tgt := 14) dX11_isFive_2 (by decide) ⟨by omega, by omega⟩ ⟨by decide, by decide⟩ (fun h1 => ?_) (fun h1 => ?_)
  · refine tn_iconst dX11_isFive_14 ?_
    exact tn_zret (v := 0) rfl (by decide) dX11_isFive_15 ⟨_, rfl, rfl, rfl, by omega⟩
  · refine tn_iload_n dX11_isFive_5 rfl 0 rfl ?_
    refine tn_iconst dX11_isFive_6 ?_
    refine tn_icmp_gt (tgt := 14) dX11_isFive_7 (by decide) ⟨by omega, by omega⟩ ⟨by decide, by decide⟩ (fun h2 => ?_) (fun h2 => ?_)
    · refine tn_iconst dX11_isFive_14 ?_
      exact tn_zret (v := 0) rfl (by decide) dX11_isFive_15 ⟨_, rfl, rfl, rfl, by omega⟩
    · refine tn_iconst dX11_isFive_10 ?_
      refine tn_goto (tgt := 15) dX11_isFive_11 (by decide) ?_
      exact tn_zret (v := 1) rfl (by decide) dX11_isFive_15 ⟨_, rfl, rfl, rfl, by omega⟩
theorem cd_X11_isPure : Cond.code yX11_isPure cX11_isPure 1 (some .boolean) ∈ pWW := pw4 (List.mem_of_getElem? (i := 4) rfl) rfl
abbrev m_X11_isPure : MT := (yX11_isPure, cX11_isPure, 1, (some .boolean))
theorem ok_X11_isPure : pOk m_X11_isPure := ⟨⟨cd_X11_isPure, ini_11⟩, by decide +kernel, ⟨by decide +kernel, by decide +kernel⟩, Nat.le_of_ble_eq_true rfl⟩
theorem np_X11_isPure : (parseMethodDescriptor yX11_isPure.desc).map (fun d => d.parameters.length) = some 1 := by decide +kernel
theorem stt_X11_isPure : Cond.static yX11_isPure ∈ pWW := pw4 (List.mem_of_getElem? (i := 3) rfl) rfl
theorem dX11_isPure_0 : decode cX11_isPure 0 = .ok (.iload_n 0, 1) := by decide +kernel
theorem dX11_isPure_1 : decode cX11_isPure 1 = .ok (.ifCond .lt 12, 3) := by decide +kernel
theorem dX11_isPure_13 : decode cX11_isPure 13 = .ok (.iconst 0, 1) := by decide +kernel
theorem dX11_isPure_14 : decode cX11_isPure 14 = .ok (.ireturn, 1) := by decide +kernel
theorem dX11_isPure_4 : decode cX11_isPure 4 = .ok (.iload_n 0, 1) := by decide +kernel
theorem dX11_isPure_5 : decode cX11_isPure 5 = .ok (.iconst 5, 1) := by decide +kernel
theorem dX11_isPure_6 : decode cX11_isPure 6 = .ok (.if_icmp .gt 7, 3) := by decide +kernel
theorem dX11_isPure_9 : decode cX11_isPure 9 = .ok (.iconst 1, 1) := by decide +kernel
theorem dX11_isPure_10 : decode cX11_isPure 10 = .ok (.goto 4, 3) := by decide +kernel
set_option maxRecDepth 20000 in
theorem k_X11_isPure (d : Nat) {T : CT} {σ : MS} {k : Int} (h_k : -2147483648 ≤ k ∧ k ≤ 2147483647) (hw : WT T σ) : Tn (d + 1) m_X11_isPure 0 T σ [(0, .int (iI k))] [] (fun ro T2 σ2 => ∃ v : Int, ro = some (.int (iI v)) ∧ T = T2 ∧ σ = σ2 ∧ (v = 0 ∨ v = 1)) := by
  refine tn_iload_n dX11_isPure_0 rfl 0 rfl ?_
  refine tn_if_lt (tgt := 13) dX11_isPure_1 (by decide) ⟨by omega, by omega⟩ (fun h1 => ?_) (fun h1 => ?_)
  · refine tn_iconst dX11_isPure_13 ?_
    exact tn_zret (v := 0) rfl (by decide) dX11_isPure_14 ⟨_, rfl, rfl, rfl, by omega⟩
  · refine tn_iload_n dX11_isPure_4 rfl 0 rfl ?_
    refine tn_iconst dX11_isPure_5 ?_
    refine tn_icmp_gt (tgt := 13) dX11_isPure_6 (by decide) ⟨by omega, by omega⟩ ⟨by decide, by decide⟩ (fun h2 => ?_) (fun h2 => ?_)
    · refine tn_iconst dX11_isPure_13 ?_
      exact tn_zret (v := 0) rfl (by decide) dX11_isPure_14 ⟨_, rfl, rfl, rfl, by omega⟩
    · refine tn_iconst dX11_isPure_9 ?_
      refine tn_goto (tgt := 14) dX11_isPure_10 (by decide) ?_
      exact tn_zret (v := 1) rfl (by decide) dX11_isPure_14 ⟨_, rfl, rfl, rfl, by omega⟩
theorem cd_X11_isAct : Cond.code yX11_isAct cX11_isAct 1 (some .boolean) ∈ pWW := pw4 (List.mem_of_getElem? (i := 69) rfl) rfl
abbrev m_X11_isAct : MT := (yX11_isAct, cX11_isAct, 1, (some .boolean))
theorem ok_X11_isAct : pOk m_X11_isAct := ⟨⟨cd_X11_isAct, ini_11⟩, by decide +kernel, ⟨by decide +kernel, by decide +kernel⟩, Nat.le_of_ble_eq_true rfl⟩
theorem np_X11_isAct : (parseMethodDescriptor yX11_isAct.desc).map (fun d => d.parameters.length) = some 1 := by decide +kernel
theorem stt_X11_isAct : Cond.static yX11_isAct ∈ pWW := pw4 (List.mem_of_getElem? (i := 68) rfl) rfl
theorem dX11_isAct_0 : decode cX11_isAct 0 = .ok (.iload_n 0, 1) := by decide +kernel
theorem dX11_isAct_1 : decode cX11_isAct 1 = .ok (.ifCond .lt 13, 3) := by decide +kernel
theorem dX11_isAct_14 : decode cX11_isAct 14 = .ok (.iconst 0, 1) := by decide +kernel
theorem dX11_isAct_15 : decode cX11_isAct 15 = .ok (.ireturn, 1) := by decide +kernel
theorem dX11_isAct_4 : decode cX11_isAct 4 = .ok (.iload_n 0, 1) := by decide +kernel
theorem dX11_isAct_5 : decode cX11_isAct 5 = .ok (.bipush 10, 2) := by decide +kernel
theorem dX11_isAct_7 : decode cX11_isAct 7 = .ok (.if_icmp .gt 7, 3) := by decide +kernel
theorem dX11_isAct_10 : decode cX11_isAct 10 = .ok (.iconst 1, 1) := by decide +kernel
theorem dX11_isAct_11 : decode cX11_isAct 11 = .ok (.goto 4, 3) := by decide +kernel
set_option maxRecDepth 20000 in
theorem k_X11_isAct (d : Nat) {T : CT} {σ : MS} {k : Int} (h_k : -2147483648 ≤ k ∧ k ≤ 2147483647) (hw : WT T σ) : Tn (d + 1) m_X11_isAct 0 T σ [(0, .int (iI k))] [] (fun ro T2 σ2 => ∃ v : Int, ro = some (.int (iI v)) ∧ T = T2 ∧ σ = σ2 ∧ (v = 0 ∨ v = 1)) := by
  refine tn_iload_n dX11_isAct_0 rfl 0 rfl ?_
  refine tn_if_lt (tgt := 14) dX11_isAct_1 (by decide) ⟨by omega, by omega⟩ (fun h1 => ?_) (fun h1 => ?_)
  · refine tn_iconst dX11_isAct_14 ?_
    exact tn_zret (v := 0) rfl (by decide) dX11_isAct_15 ⟨_, rfl, rfl, rfl, by omega⟩
  · refine tn_iload_n dX11_isAct_4 rfl 0 rfl ?_
    refine tn_bipush dX11_isAct_5 (by decide) ?_
    refine tn_icmp_gt (tgt := 14) dX11_isAct_7 (by decide) ⟨by omega, by omega⟩ ⟨by decide, by decide⟩ (fun h2 => ?_) (fun h2 => ?_)
    · refine tn_iconst dX11_isAct_14 ?_
      exact tn_zret (v := 0) rfl (by decide) dX11_isAct_15 ⟨_, rfl, rfl, rfl, by omega⟩
    · refine tn_iconst dX11_isAct_10 ?_
      refine tn_goto (tgt := 15) dX11_isAct_11 (by decide) ?_
      exact tn_zret (v := 1) rfl (by decide) dX11_isAct_15 ⟨_, rfl, rfl, rfl, by omega⟩
theorem cd_X11_reckon : Cond.code yX11_reckon cX11_reckon 3 (some .int) ∈ pWW := pw4 (List.mem_of_getElem? (i := 211) rfl) rfl
abbrev m_X11_reckon : MT := (yX11_reckon, cX11_reckon, 3, (some .int))
theorem ok_X11_reckon : pOk m_X11_reckon := ⟨⟨cd_X11_reckon, ini_11⟩, by decide +kernel, ⟨by decide +kernel, by decide +kernel⟩, Nat.le_of_ble_eq_true rfl⟩
theorem np_X11_reckon : (parseMethodDescriptor yX11_reckon.desc).map (fun d => d.parameters.length) = some 3 := by decide +kernel
theorem stt_X11_reckon : Cond.static yX11_reckon ∈ pWW := pw4 (List.mem_of_getElem? (i := 210) rfl) rfl
theorem dX11_reckon_0 : decode cX11_reckon 0 = .ok (.iload_n 0, 1) := by decide +kernel
theorem dX11_reckon_1 : decode cX11_reckon 1 = .ok (.tableswitch 69 1 5 #[35, 39, 43, 47, 58], 35) := by decide +kernel
theorem dX11_reckon_70 : decode cX11_reckon 70 = .ok (.iload_n 1, 1) := by decide +kernel
theorem dX11_reckon_71 : decode cX11_reckon 71 = .ok (.ireturn, 1) := by decide +kernel
theorem dX11_reckon_36 : decode cX11_reckon 36 = .ok (.iload_n 1, 1) := by decide +kernel
theorem dX11_reckon_37 : decode cX11_reckon 37 = .ok (.iload_n 2, 1) := by decide +kernel
theorem dX11_reckon_38 : decode cX11_reckon 38 = .ok (.iadd, 1) := by decide +kernel
theorem dX11_reckon_39 : decode cX11_reckon 39 = .ok (.ireturn, 1) := by decide +kernel
theorem dX11_reckon_40 : decode cX11_reckon 40 = .ok (.iload_n 1, 1) := by decide +kernel
theorem dX11_reckon_41 : decode cX11_reckon 41 = .ok (.iload_n 2, 1) := by decide +kernel
theorem dX11_reckon_42 : decode cX11_reckon 42 = .ok (.isub, 1) := by decide +kernel
theorem dX11_reckon_43 : decode cX11_reckon 43 = .ok (.ireturn, 1) := by decide +kernel
theorem dX11_reckon_44 : decode cX11_reckon 44 = .ok (.iload_n 1, 1) := by decide +kernel
theorem dX11_reckon_45 : decode cX11_reckon 45 = .ok (.iload_n 2, 1) := by decide +kernel
theorem dX11_reckon_46 : decode cX11_reckon 46 = .ok (.imul, 1) := by decide +kernel
theorem dX11_reckon_47 : decode cX11_reckon 47 = .ok (.ireturn, 1) := by decide +kernel
theorem dX11_reckon_48 : decode cX11_reckon 48 = .ok (.iload_n 1, 1) := by decide +kernel
theorem dX11_reckon_49 : decode cX11_reckon 49 = .ok (.iload_n 2, 1) := by decide +kernel
theorem dX11_reckon_50 : decode cX11_reckon 50 = .ok (.if_icmp .ne 7, 3) := by decide +kernel
theorem dX11_reckon_57 : decode cX11_reckon 57 = .ok (.iconst 0, 1) := by decide +kernel
theorem dX11_reckon_58 : decode cX11_reckon 58 = .ok (.ireturn, 1) := by decide +kernel
theorem dX11_reckon_53 : decode cX11_reckon 53 = .ok (.iconst 1, 1) := by decide +kernel
theorem dX11_reckon_54 : decode cX11_reckon 54 = .ok (.goto 4, 3) := by decide +kernel
theorem dX11_reckon_59 : decode cX11_reckon 59 = .ok (.iload_n 1, 1) := by decide +kernel
theorem dX11_reckon_60 : decode cX11_reckon 60 = .ok (.iload_n 2, 1) := by decide +kernel
theorem dX11_reckon_61 : decode cX11_reckon 61 = .ok (.if_icmp .ge 7, 3) := by decide +kernel
theorem dX11_reckon_68 : decode cX11_reckon 68 = .ok (.iconst 0, 1) := by decide +kernel
theorem dX11_reckon_69 : decode cX11_reckon 69 = .ok (.ireturn, 1) := by decide +kernel
theorem dX11_reckon_64 : decode cX11_reckon 64 = .ok (.iconst 1, 1) := by decide +kernel
theorem dX11_reckon_65 : decode cX11_reckon 65 = .ok (.goto 4, 3) := by decide +kernel
set_option maxRecDepth 20000 in
theorem k_X11_reckon (d : Nat) {T : CT} {σ : MS} {k : Int} {x : Int} {y : Int} (h_k : -2147483648 ≤ k ∧ k ≤ 2147483647) (h_x : -2147483648 ≤ x ∧ x ≤ 2147483647) (h_y : -2147483648 ≤ y ∧ y ≤ 2147483647) (hw : WT T σ) : Tn (d + 1) m_X11_reckon 0 T σ [(0, .int (iI k)), (1, .int (iI x)), (2, .int (iI y))] [] (fun ro T2 σ2 => ∃ v : Int, ro = some (.int (iI v)) ∧ T = T2 ∧ σ = σ2 ∧ (-2147483648 ≤ v ∧ v ≤ 2147483647)) := by
  refine tn_iload_n dX11_reckon_0 rfl 0 rfl ?_
  by_cases h1 : k < 1 ∨ 5 < k
  · refine tn_tableOut (tgt := 70) dX11_reckon_1 (x := k) ⟨by omega, by omega⟩ h1 (by decide) ?_
    refine tn_iload_n dX11_reckon_70 rfl 1 rfl ?_
    exact tn_iret rfl dX11_reckon_71 ⟨_, rfl, rfl, rfl, by omega⟩
  · have h2 : k = 1 ∨ k = 2 ∨ k = 3 ∨ k = 4 ∨ k = 5 := by omega
    rcases h2 with h2 | h2 | h2 | h2 | h2
    · refine tn_tableIn (tgt := 36) (off := 35) dX11_reckon_1 (x := k) ⟨by omega, by omega⟩ (by omega) (by omega) (by rw [h2]; rfl) (by decide) ?_
      refine tn_iload_n dX11_reckon_36 rfl 1 rfl ?_
      refine tn_iload_n dX11_reckon_37 rfl 2 rfl ?_
      refine tn_iadd dX11_reckon_38 ?_
      refine tn_any (fun z3 g4 => ?_)
      have g4r : -2147483648 ≤ z3 ∧ z3 ≤ 2147483647 := g4
      exact tn_iret rfl dX11_reckon_39 ⟨_, rfl, rfl, rfl, by omega⟩
    · refine tn_tableIn (tgt := 40) (off := 39) dX11_reckon_1 (x := k) ⟨by omega, by omega⟩ (by omega) (by omega) (by rw [h2]; rfl) (by decide) ?_
      refine tn_iload_n dX11_reckon_40 rfl 1 rfl ?_
      refine tn_iload_n dX11_reckon_41 rfl 2 rfl ?_
      refine tn_isub dX11_reckon_42 ?_
      refine tn_any (fun z5 g6 => ?_)
      have g6r : -2147483648 ≤ z5 ∧ z5 ≤ 2147483647 := g6
      exact tn_iret rfl dX11_reckon_43 ⟨_, rfl, rfl, rfl, by omega⟩
    · refine tn_tableIn (tgt := 44) (off := 43) dX11_reckon_1 (x := k) ⟨by omega, by omega⟩ (by omega) (by omega) (by rw [h2]; rfl) (by decide) ?_
      refine tn_iload_n dX11_reckon_44 rfl 1 rfl ?_
      refine tn_iload_n dX11_reckon_45 rfl 2 rfl ?_
      refine tn_imul dX11_reckon_46 ?_
      refine tn_any (fun z7 g8 => ?_)
      have g8r : -2147483648 ≤ z7 ∧ z7 ≤ 2147483647 := g8
      exact tn_iret rfl dX11_reckon_47 ⟨_, rfl, rfl, rfl, by omega⟩
    · refine tn_tableIn (tgt := 48) (off := 47) dX11_reckon_1 (x := k) ⟨by omega, by omega⟩ (by omega) (by omega) (by rw [h2]; rfl) (by decide) ?_
      refine tn_iload_n dX11_reckon_48 rfl 1 rfl ?_
      refine tn_iload_n dX11_reckon_49 rfl 2 rfl ?_
      refine tn_icmp_ne (tgt := 57) dX11_reckon_50 (by decide) ⟨by omega, by omega⟩ ⟨by omega, by omega⟩ (fun h9 => ?_) (fun h9 => ?_)
      · refine tn_iconst dX11_reckon_57 ?_
        exact tn_iret rfl dX11_reckon_58 ⟨_, rfl, rfl, rfl, by omega⟩
      · refine tn_iconst dX11_reckon_53 ?_
        refine tn_goto (tgt := 58) dX11_reckon_54 (by decide) ?_
        exact tn_iret rfl dX11_reckon_58 ⟨_, rfl, rfl, rfl, by omega⟩
    · refine tn_tableIn (tgt := 59) (off := 58) dX11_reckon_1 (x := k) ⟨by omega, by omega⟩ (by omega) (by omega) (by rw [h2]; rfl) (by decide) ?_
      refine tn_iload_n dX11_reckon_59 rfl 1 rfl ?_
      refine tn_iload_n dX11_reckon_60 rfl 2 rfl ?_
      refine tn_icmp_ge (tgt := 68) dX11_reckon_61 (by decide) ⟨by omega, by omega⟩ ⟨by omega, by omega⟩ (fun h10 => ?_) (fun h10 => ?_)
      · refine tn_iconst dX11_reckon_68 ?_
        exact tn_iret rfl dX11_reckon_69 ⟨_, rfl, rfl, rfl, by omega⟩
      · refine tn_iconst dX11_reckon_64 ?_
        refine tn_goto (tgt := 69) dX11_reckon_65 (by decide) ?_
        exact tn_iret rfl dX11_reckon_69 ⟨_, rfl, rfl, rfl, by omega⟩
theorem cd_X11_at : Cond.code yX11_at cX11_at 2 (some .int) ∈ pWW := pw3 (List.mem_of_getElem? (i := 79) rfl) rfl
abbrev m_X11_at : MT := (yX11_at, cX11_at, 2, (some .int))
theorem ok_X11_at : pOk m_X11_at := ⟨⟨cd_X11_at, ini_11⟩, by decide +kernel, ⟨by decide +kernel, by decide +kernel⟩, Nat.le_of_ble_eq_true rfl⟩
theorem np_X11_at : (parseMethodDescriptor yX11_at.desc).map (fun d => d.parameters.length) = some 2 := by decide +kernel
theorem stt_X11_at : Cond.static yX11_at ∈ pWW := pw3 (List.mem_of_getElem? (i := 78) rfl) rfl
theorem dX11_at_0 : decode cX11_at 0 = .ok (.aload_n 0, 1) := by decide +kernel
theorem dX11_at_1 : decode cX11_at 1 = .ok (.ifnull 19, 3) := by decide +kernel
theorem dX11_at_4 : decode cX11_at 4 = .ok (.iload_n 1, 1) := by decide +kernel
theorem dX11_at_5 : decode cX11_at 5 = .ok (.ifCond .lt 15, 3) := by decide +kernel
theorem dX11_at_20 : decode cX11_at 20 = .ok (.iconst 0, 1) := by decide +kernel
theorem dX11_at_21 : decode cX11_at 21 = .ok (.ireturn, 1) := by decide +kernel
theorem dX11_at_8 : decode cX11_at 8 = .ok (.iload_n 1, 1) := by decide +kernel
theorem dX11_at_9 : decode cX11_at 9 = .ok (.aload_n 0, 1) := by decide +kernel
theorem dX11_at_10 : decode cX11_at 10 = .ok (.arraylength, 1) := by decide +kernel
theorem dX11_at_11 : decode cX11_at 11 = .ok (.if_icmp .ge 9, 3) := by decide +kernel
theorem dX11_at_14 : decode cX11_at 14 = .ok (.aload_n 0, 1) := by decide +kernel
theorem dX11_at_15 : decode cX11_at 15 = .ok (.iload_n 1, 1) := by decide +kernel
theorem dX11_at_16 : decode cX11_at 16 = .ok (.iaload, 1) := by decide +kernel
theorem dX11_at_17 : decode cX11_at 17 = .ok (.goto 4, 3) := by decide +kernel
set_option maxRecDepth 20000 in
theorem k_X11_at (d : Nat) {T : CT} {σ : MS} {x : Nat} {i : Int} (h_x : IA T x) (l_x : (T x).2 ≤ 1000000) (h_i : -2147483648 ≤ i ∧ i ≤ 2147483647) (hw : WT T σ) : Tn (d + 1) m_X11_at 0 T σ [(0, .ref x), (1, .int (iI i))] [] (fun ro T2 σ2 => ∃ v : Int, ro = some (.int (iI v)) ∧ T = T2 ∧ σ = σ2 ∧ (-2147483648 ≤ v ∧ v ≤ 2147483647) ∧ (VOK (T x).1 i v) ∧ (v = ATV T σ x i)) := by
  refine tn_aload_n dX11_at_0 rfl 0 rfl ?_
  refine tn_ifnull dX11_at_1 ?_
  refine tn_iload_n dX11_at_4 rfl 1 rfl ?_
  refine tn_if_lt (tgt := 20) dX11_at_5 (by decide) ⟨by omega, by omega⟩ (fun h1 => ?_) (fun h1 => ?_)
  · refine tn_iconst dX11_at_20 ?_
    exact tn_iret rfl dX11_at_21 ⟨_, rfl, rfl, rfl, by omega, vok_0, atv_out (by omega)⟩
  · refine tn_iload_n dX11_at_8 rfl 1 rfl ?_
    refine tn_aload_n dX11_at_9 rfl 0 rfl ?_
    refine tn_alenX dX11_at_10 (Or.inl h_x) ?_
    refine tn_icmp_ge (tgt := 20) dX11_at_11 (by decide) ⟨by omega, by omega⟩ ⟨by omega, by omega⟩ (fun h2 => ?_) (fun h2 => ?_)
    · refine tn_iconst dX11_at_20 ?_
      exact tn_iret rfl dX11_at_21 ⟨_, rfl, rfl, rfl, by omega, vok_0, atv_out (by omega)⟩
    · refine tn_aload_n dX11_at_14 rfl 0 rfl ?_
      refine tn_iload_n dX11_at_15 rfl 1 rfl ?_
      refine tn_ialdX (z := i) hw dX11_at_16 h_x (by omega) (by omega) (by omega) (fun v3 g4q g4 g4k => ?_)
      have g4u := g4k
      have g4w := atv_in (T := T) (by omega) (by omega) g4q
      clear g4k g4q
      refine tn_goto (tgt := 21) dX11_at_17 (by decide) ?_
      exact tn_iret rfl dX11_at_21 ⟨_, rfl, rfl, rfl, by omega, by assumption, by assumption⟩
set_option maxRecDepth 20000 in
theorem k_X11_at_0 (d : Nat) {T : CT} {σ : MS} {i : Int} (h_i : -2147483648 ≤ i ∧ i ≤ 2147483647) (hw : WT T σ) : Tn (d + 1) m_X11_at 0 T σ [(0, .null), (1, .int (iI i))] [] (fun ro T2 σ2 => ∃ v : Int, ro = some (.int (iI v)) ∧ T = T2 ∧ σ = σ2 ∧ (0 ≤ v ∧ v ≤ 0)) := by
  refine tn_aload_nN dX11_at_0 rfl 0 rfl ?_
  refine tn_ifnullN (tgt := 20) dX11_at_1 (by decide) ?_
  refine tn_iconst dX11_at_20 ?_
  exact tn_iret rfl dX11_at_21 ⟨_, rfl, rfl, rfl, by omega⟩
theorem cd_X11_put : Cond.code yX11_put cX11_put 3 none ∈ pWW := pw3 (List.mem_of_getElem? (i := 56) rfl) rfl
abbrev m_X11_put : MT := (yX11_put, cX11_put, 3, none)
theorem ok_X11_put : pOk m_X11_put := ⟨⟨cd_X11_put, ini_11⟩, by decide +kernel, ⟨by decide +kernel, by decide +kernel⟩, Nat.le_of_ble_eq_true rfl⟩
theorem np_X11_put : (parseMethodDescriptor yX11_put.desc).map (fun d => d.parameters.length) = some 3 := by decide +kernel
theorem stt_X11_put : Cond.static yX11_put ∈ pWW := pw3 (List.mem_of_getElem? (i := 55) rfl) rfl
theorem dX11_put_0 : decode cX11_put 0 = .ok (.aload_n 0, 1) := by decide +kernel
theorem dX11_put_1 : decode cX11_put 1 = .ok (.ifnull 17, 3) := by decide +kernel
theorem dX11_put_4 : decode cX11_put 4 = .ok (.iload_n 1, 1) := by decide +kernel
theorem dX11_put_5 : decode cX11_put 5 = .ok (.ifCond .lt 13, 3) := by decide +kernel
theorem dX11_put_18 : decode cX11_put 18 = .ok (.return_, 1) := by decide +kernel
theorem dX11_put_8 : decode cX11_put 8 = .ok (.iload_n 1, 1) := by decide +kernel
theorem dX11_put_9 : decode cX11_put 9 = .ok (.aload_n 0, 1) := by decide +kernel
theorem dX11_put_10 : decode cX11_put 10 = .ok (.arraylength, 1) := by decide +kernel
theorem dX11_put_11 : decode cX11_put 11 = .ok (.if_icmp .ge 7, 3) := by decide +kernel
theorem dX11_put_14 : decode cX11_put 14 = .ok (.aload_n 0, 1) := by decide +kernel
theorem dX11_put_15 : decode cX11_put 15 = .ok (.iload_n 1, 1) := by decide +kernel
theorem dX11_put_16 : decode cX11_put 16 = .ok (.iload_n 2, 1) := by decide +kernel
theorem dX11_put_17 : decode cX11_put 17 = .ok (.iastore, 1) := by decide +kernel
set_option maxRecDepth 20000 in
theorem k_X11_put (d : Nat) {T : CT} {σ : MS} {x : Nat} {i : Int} {y : Int} (h_x : IA T x) (l_x : (T x).2 ≤ 1000000) (h_i : -2147483648 ≤ i ∧ i ≤ 2147483647) (h_y : -2147483648 ≤ y ∧ y ≤ 2147483647) (hw : WT T σ) (n_x : NH T x) (k_x : VOK (T x).1 i y) : Tn (d + 1) m_X11_put 0 T σ [(0, .ref x), (1, .int (iI i)), (2, .int (iI y))] [] (fun ro T2 σ2 => ro = none ∧ T = T2 ∧ WT T2 σ2 ∧ FrC T [] σ σ2) := by
  refine tn_aload_n dX11_put_0 rfl 0 rfl ?_
  refine tn_ifnull dX11_put_1 ?_
  refine tn_iload_n dX11_put_4 rfl 1 rfl ?_
  refine tn_if_lt (tgt := 18) dX11_put_5 (by decide) ⟨by omega, by omega⟩ (fun h1 => ?_) (fun h1 => ?_)
  · exact tn_vret rfl dX11_put_18 ⟨rfl, rfl, hw, FrC.rfl⟩
  · refine tn_iload_n dX11_put_8 rfl 1 rfl ?_
    refine tn_aload_n dX11_put_9 rfl 0 rfl ?_
    refine tn_alenX dX11_put_10 (Or.inl h_x) ?_
    refine tn_icmp_ge (tgt := 18) dX11_put_11 (by decide) ⟨by omega, by omega⟩ ⟨by omega, by omega⟩ (fun h2 => ?_) (fun h2 => ?_)
    · exact tn_vret rfl dX11_put_18 ⟨rfl, rfl, hw, FrC.rfl⟩
    · refine tn_aload_n dX11_put_14 rfl 0 rfl ?_
      refine tn_iload_n dX11_put_15 rfl 1 rfl ?_
      refine tn_iload_n dX11_put_16 rfl 2 rfl ?_
      refine tn_iast (z := i) (v := y) dX11_put_17 h_x (by omega) (by omega) (by omega) ?_
      exact tn_vret rfl dX11_put_18 ⟨rfl, rfl, (hw.arr (Or.inl h_x) k_x), (FrC.rfl.arr (hk_no n_x))⟩
set_option maxRecDepth 20000 in
theorem k_X11_put_12 (d : Nat) {T : CT} {σ : MS} {x : Nat} {i : Int} {y : Int} (h_x : IA T x) (l_x : (T x).2 ≤ 1000000) (t_x : (T x).1 = 12) (h_i : -2147483648 ≤ i ∧ i ≤ 2147483647) (h_y : -2147483648 ≤ y ∧ y ≤ 2147483647) (hw : WT T σ) (k_x : VOK (T x).1 i y) : Tn (d + 1) m_X11_put 0 T σ [(0, .ref x), (1, .int (iI i)), (2, .int (iI y))] [] (fun ro T2 σ2 => ro = none ∧ T = T2 ∧ WT T2 σ2 ∧ FrC T [512] σ σ2 ∧ (σ2 = (if 0 ≤ i ∧ i < ((T x).2 : Int) then sA (1000 + x) i y σ else σ))) := by
  refine tn_aload_n dX11_put_0 rfl 0 rfl ?_
  refine tn_ifnull dX11_put_1 ?_
  refine tn_iload_n dX11_put_4 rfl 1 rfl ?_
  refine tn_if_lt (tgt := 18) dX11_put_5 (by decide) ⟨by omega, by omega⟩ (fun h1 => ?_) (fun h1 => ?_)
  · exact tn_vret rfl dX11_put_18 ⟨rfl, rfl, hw, FrC.rfl, (if_neg (by omega)).symm⟩
  · refine tn_iload_n dX11_put_8 rfl 1 rfl ?_
    refine tn_aload_n dX11_put_9 rfl 0 rfl ?_
    refine tn_alenX dX11_put_10 (Or.inl h_x) ?_
    refine tn_icmp_ge (tgt := 18) dX11_put_11 (by decide) ⟨by omega, by omega⟩ ⟨by omega, by omega⟩ (fun h2 => ?_) (fun h2 => ?_)
    · exact tn_vret rfl dX11_put_18 ⟨rfl, rfl, hw, FrC.rfl, (if_neg (by omega)).symm⟩
    · refine tn_aload_n dX11_put_14 rfl 0 rfl ?_
      refine tn_iload_n dX11_put_15 rfl 1 rfl ?_
      refine tn_iload_n dX11_put_16 rfl 2 rfl ?_
      refine tn_iast (z := i) (v := y) dX11_put_17 h_x (by omega) (by omega) (by omega) ?_
      exact tn_vret rfl dX11_put_18 ⟨rfl, rfl, (hw.arr (Or.inl h_x) k_x), (FrC.rfl.arr (hk_in t_x (by decide))), (if_pos ⟨by omega, by omega⟩).symm⟩
set_option maxRecDepth 20000 in
theorem k_X11_put_15 (d : Nat) {T : CT} {σ : MS} {x : Nat} {i : Int} {y : Int} (h_x : IA T x) (l_x : (T x).2 ≤ 1000000) (t_x : (T x).1 = 15) (h_i : -2147483648 ≤ i ∧ i ≤ 2147483647) (h_y : -2147483648 ≤ y ∧ y ≤ 2147483647) (hw : WT T σ) : Tn (d + 1) m_X11_put 0 T σ [(0, .ref x), (1, .int (iI i)), (2, .int (iI y))] [] (fun ro T2 σ2 => ro = none ∧ T = T2 ∧ WT T2 σ2 ∧ FrC T [515] σ σ2 ∧ (σ2 = (if 0 ≤ i ∧ i < ((T x).2 : Int) then sA (1000 + x) i y σ else σ))) := by
  refine tn_aload_n dX11_put_0 rfl 0 rfl ?_
  refine tn_ifnull dX11_put_1 ?_
  refine tn_iload_n dX11_put_4 rfl 1 rfl ?_
  refine tn_if_lt (tgt := 18) dX11_put_5 (by decide) ⟨by omega, by omega⟩ (fun h1 => ?_) (fun h1 => ?_)
  · exact tn_vret rfl dX11_put_18 ⟨rfl, rfl, hw, FrC.rfl, (if_neg (by omega)).symm⟩
  · refine tn_iload_n dX11_put_8 rfl 1 rfl ?_
    refine tn_aload_n dX11_put_9 rfl 0 rfl ?_
    refine tn_alenX dX11_put_10 (Or.inl h_x) ?_
    refine tn_icmp_ge (tgt := 18) dX11_put_11 (by decide) ⟨by omega, by omega⟩ ⟨by omega, by omega⟩ (fun h2 => ?_) (fun h2 => ?_)
    · exact tn_vret rfl dX11_put_18 ⟨rfl, rfl, hw, FrC.rfl, (if_neg (by omega)).symm⟩
    · refine tn_aload_n dX11_put_14 rfl 0 rfl ?_
      refine tn_iload_n dX11_put_15 rfl 1 rfl ?_
      refine tn_iload_n dX11_put_16 rfl 2 rfl ?_
      refine tn_iast (z := i) (v := y) dX11_put_17 h_x (by omega) (by omega) (by omega) ?_
      exact tn_vret rfl dX11_put_18 ⟨rfl, rfl, (hw.arr (Or.inl h_x) (vok_1 (by have q9 := t_x; omega) (by omega))), (FrC.rfl.arr (hk_in t_x (by decide))), (if_pos ⟨by omega, by omega⟩).symm⟩
set_option maxRecDepth 20000 in
theorem k_X11_put_16 (d : Nat) {T : CT} {σ : MS} {x : Nat} {i : Int} {y : Int} (h_x : IA T x) (l_x : (T x).2 ≤ 1000000) (t_x : (T x).1 = 16) (h_i : -2147483648 ≤ i ∧ i ≤ 2147483647) (h_y : -2147483648 ≤ y ∧ y ≤ 2147483647) (hw : WT T σ) : Tn (d + 1) m_X11_put 0 T σ [(0, .ref x), (1, .int (iI i)), (2, .int (iI y))] [] (fun ro T2 σ2 => ro = none ∧ T = T2 ∧ WT T2 σ2 ∧ FrC T [516] σ σ2 ∧ (σ2 = (if 0 ≤ i ∧ i < ((T x).2 : Int) then sA (1000 + x) i y σ else σ))) := by
  refine tn_aload_n dX11_put_0 rfl 0 rfl ?_
  refine tn_ifnull dX11_put_1 ?_
  refine tn_iload_n dX11_put_4 rfl 1 rfl ?_
  refine tn_if_lt (tgt := 18) dX11_put_5 (by decide) ⟨by omega, by omega⟩ (fun h1 => ?_) (fun h1 => ?_)
  · exact tn_vret rfl dX11_put_18 ⟨rfl, rfl, hw, FrC.rfl, (if_neg (by omega)).symm⟩
  · refine tn_iload_n dX11_put_8 rfl 1 rfl ?_
    refine tn_aload_n dX11_put_9 rfl 0 rfl ?_
    refine tn_alenX dX11_put_10 (Or.inl h_x) ?_
    refine tn_icmp_ge (tgt := 18) dX11_put_11 (by decide) ⟨by omega, by omega⟩ ⟨by omega, by omega⟩ (fun h2 => ?_) (fun h2 => ?_)
    · exact tn_vret rfl dX11_put_18 ⟨rfl, rfl, hw, FrC.rfl, (if_neg (by omega)).symm⟩
    · refine tn_aload_n dX11_put_14 rfl 0 rfl ?_
      refine tn_iload_n dX11_put_15 rfl 1 rfl ?_
      refine tn_iload_n dX11_put_16 rfl 2 rfl ?_
      refine tn_iast (z := i) (v := y) dX11_put_17 h_x (by omega) (by omega) (by omega) ?_
      exact tn_vret rfl dX11_put_18 ⟨rfl, rfl, (hw.arr (Or.inl h_x) (vok_1 (by have q9 := t_x; omega) (by omega))), (FrC.rfl.arr (hk_in t_x (by decide))), (if_pos ⟨by omega, by omega⟩).symm⟩
set_option maxRecDepth 20000 in
theorem k_X11_put_17 (d : Nat) {T : CT} {σ : MS} {x : Nat} {i : Int} {y : Int} (h_x : IA T x) (l_x : (T x).2 ≤ 1000000) (t_x : (T x).1 = 17) (h_i : -2147483648 ≤ i ∧ i ≤ 2147483647) (h_y : -2147483648 ≤ y ∧ y ≤ 2147483647) (hw : WT T σ) : Tn (d + 1) m_X11_put 0 T σ [(0, .ref x), (1, .int (iI i)), (2, .int (iI y))] [] (fun ro T2 σ2 => ro = none ∧ T = T2 ∧ WT T2 σ2 ∧ FrC T [517] σ σ2 ∧ (σ2 = (if 0 ≤ i ∧ i < ((T x).2 : Int) then sA (1000 + x) i y σ else σ))) := by
  refine tn_aload_n dX11_put_0 rfl 0 rfl ?_
  refine tn_ifnull dX11_put_1 ?_
  refine tn_iload_n dX11_put_4 rfl 1 rfl ?_
  refine tn_if_lt (tgt := 18) dX11_put_5 (by decide) ⟨by omega, by omega⟩ (fun h1 => ?_) (fun h1 => ?_)
  · exact tn_vret rfl dX11_put_18 ⟨rfl, rfl, hw, FrC.rfl, (if_neg (by omega)).symm⟩
  · refine tn_iload_n dX11_put_8 rfl 1 rfl ?_
    refine tn_aload_n dX11_put_9 rfl 0 rfl ?_
    refine tn_alenX dX11_put_10 (Or.inl h_x) ?_
    refine tn_icmp_ge (tgt := 18) dX11_put_11 (by decide) ⟨by omega, by omega⟩ ⟨by omega, by omega⟩ (fun h2 => ?_) (fun h2 => ?_)
    · exact tn_vret rfl dX11_put_18 ⟨rfl, rfl, hw, FrC.rfl, (if_neg (by omega)).symm⟩
    · refine tn_aload_n dX11_put_14 rfl 0 rfl ?_
      refine tn_iload_n dX11_put_15 rfl 1 rfl ?_
      refine tn_iload_n dX11_put_16 rfl 2 rfl ?_
      refine tn_iast (z := i) (v := y) dX11_put_17 h_x (by omega) (by omega) (by omega) ?_
      exact tn_vret rfl dX11_put_18 ⟨rfl, rfl, (hw.arr (Or.inl h_x) (vok_1 (by have q9 := t_x; omega) (by omega))), (FrC.rfl.arr (hk_in t_x (by decide))), (if_pos ⟨by omega, by omega⟩).symm⟩
set_option maxRecDepth 20000 in
theorem k_X11_put_18 (d : Nat) {T : CT} {σ : MS} {x : Nat} {i : Int} {y : Int} (h_x : IA T x) (l_x : (T x).2 ≤ 1000000) (t_x : (T x).1 = 18) (h_i : -2147483648 ≤ i ∧ i ≤ 2147483647) (h_y : -2147483648 ≤ y ∧ y ≤ 2147483647) (hw : WT T σ) : Tn (d + 1) m_X11_put 0 T σ [(0, .ref x), (1, .int (iI i)), (2, .int (iI y))] [] (fun ro T2 σ2 => ro = none ∧ T = T2 ∧ WT T2 σ2 ∧ FrC T [518] σ σ2 ∧ (σ2 = (if 0 ≤ i ∧ i < ((T x).2 : Int) then sA (1000 + x) i y σ else σ))) := by
  refine tn_aload_n dX11_put_0 rfl 0 rfl ?_
  refine tn_ifnull dX11_put_1 ?_
  refine tn_iload_n dX11_put_4 rfl 1 rfl ?_
  refine tn_if_lt (tgt := 18) dX11_put_5 (by decide) ⟨by omega, by omega⟩ (fun h1 => ?_) (fun h1 => ?_)
  · exact tn_vret rfl dX11_put_18 ⟨rfl, rfl, hw, FrC.rfl, (if_neg (by omega)).symm⟩
  · refine tn_iload_n dX11_put_8 rfl 1 rfl ?_
    refine tn_aload_n dX11_put_9 rfl 0 rfl ?_
    refine tn_alenX dX11_put_10 (Or.inl h_x) ?_
    refine tn_icmp_ge (tgt := 18) dX11_put_11 (by decide) ⟨by omega, by omega⟩ ⟨by omega, by omega⟩ (fun h2 => ?_) (fun h2 => ?_)
    · exact tn_vret rfl dX11_put_18 ⟨rfl, rfl, hw, FrC.rfl, (if_neg (by omega)).symm⟩
    · refine tn_aload_n dX11_put_14 rfl 0 rfl ?_
      refine tn_iload_n dX11_put_15 rfl 1 rfl ?_
      refine tn_iload_n dX11_put_16 rfl 2 rfl ?_
      refine tn_iast (z := i) (v := y) dX11_put_17 h_x (by omega) (by omega) (by omega) ?_
      exact tn_vret rfl dX11_put_18 ⟨rfl, rfl, (hw.arr (Or.inl h_x) (vok_1 (by have q9 := t_x; omega) (by omega))), (FrC.rfl.arr (hk_in t_x (by decide))), (if_pos ⟨by omega, by omega⟩).symm⟩
set_option maxRecDepth 20000 in
theorem k_X11_put_19 (d : Nat) {T : CT} {σ : MS} {x : Nat} {i : Int} {y : Int} (h_x : IA T x) (l_x : (T x).2 ≤ 1000000) (t_x : (T x).1 = 19) (h_i : -2147483648 ≤ i ∧ i ≤ 2147483647) (h_y : -2147483648 ≤ y ∧ y ≤ 2147483647) (hw : WT T σ) : Tn (d + 1) m_X11_put 0 T σ [(0, .ref x), (1, .int (iI i)), (2, .int (iI y))] [] (fun ro T2 σ2 => ro = none ∧ T = T2 ∧ WT T2 σ2 ∧ FrC T [519] σ σ2 ∧ (σ2 = (if 0 ≤ i ∧ i < ((T x).2 : Int) then sA (1000 + x) i y σ else σ))) := by
  refine tn_aload_n dX11_put_0 rfl 0 rfl ?_
  refine tn_ifnull dX11_put_1 ?_
  refine tn_iload_n dX11_put_4 rfl 1 rfl ?_
  refine tn_if_lt (tgt := 18) dX11_put_5 (by decide) ⟨by omega, by omega⟩ (fun h1 => ?_) (fun h1 => ?_)
  · exact tn_vret rfl dX11_put_18 ⟨rfl, rfl, hw, FrC.rfl, (if_neg (by omega)).symm⟩
  · refine tn_iload_n dX11_put_8 rfl 1 rfl ?_
    refine tn_aload_n dX11_put_9 rfl 0 rfl ?_
    refine tn_alenX dX11_put_10 (Or.inl h_x) ?_
    refine tn_icmp_ge (tgt := 18) dX11_put_11 (by decide) ⟨by omega, by omega⟩ ⟨by omega, by omega⟩ (fun h2 => ?_) (fun h2 => ?_)
    · exact tn_vret rfl dX11_put_18 ⟨rfl, rfl, hw, FrC.rfl, (if_neg (by omega)).symm⟩
    · refine tn_aload_n dX11_put_14 rfl 0 rfl ?_
      refine tn_iload_n dX11_put_15 rfl 1 rfl ?_
      refine tn_iload_n dX11_put_16 rfl 2 rfl ?_
      refine tn_iast (z := i) (v := y) dX11_put_17 h_x (by omega) (by omega) (by omega) ?_
      exact tn_vret rfl dX11_put_18 ⟨rfl, rfl, (hw.arr (Or.inl h_x) (vok_1 (by have q9 := t_x; omega) (by omega))), (FrC.rfl.arr (hk_in t_x (by decide))), (if_pos ⟨by omega, by omega⟩).symm⟩
set_option maxRecDepth 20000 in
theorem k_X11_put_20 (d : Nat) {T : CT} {σ : MS} {x : Nat} {i : Int} {y : Int} (h_x : IA T x) (l_x : (T x).2 ≤ 1000000) (t_x : (T x).1 = 20) (h_i : -2147483648 ≤ i ∧ i ≤ 2147483647) (h_y : -2147483648 ≤ y ∧ y ≤ 2147483647) (hw : WT T σ) : Tn (d + 1) m_X11_put 0 T σ [(0, .ref x), (1, .int (iI i)), (2, .int (iI y))] [] (fun ro T2 σ2 => ro = none ∧ T = T2 ∧ WT T2 σ2 ∧ FrC T [520] σ σ2 ∧ (σ2 = (if 0 ≤ i ∧ i < ((T x).2 : Int) then sA (1000 + x) i y σ else σ))) := by
  refine tn_aload_n dX11_put_0 rfl 0 rfl ?_
  refine tn_ifnull dX11_put_1 ?_
  refine tn_iload_n dX11_put_4 rfl 1 rfl ?_
  refine tn_if_lt (tgt := 18) dX11_put_5 (by decide) ⟨by omega, by omega⟩ (fun h1 => ?_) (fun h1 => ?_)
  · exact tn_vret rfl dX11_put_18 ⟨rfl, rfl, hw, FrC.rfl, (if_neg (by omega)).symm⟩
  · refine tn_iload_n dX11_put_8 rfl 1 rfl ?_
    refine tn_aload_n dX11_put_9 rfl 0 rfl ?_
    refine tn_alenX dX11_put_10 (Or.inl h_x) ?_
    refine tn_icmp_ge (tgt := 18) dX11_put_11 (by decide) ⟨by omega, by omega⟩ ⟨by omega, by omega⟩ (fun h2 => ?_) (fun h2 => ?_)
    · exact tn_vret rfl dX11_put_18 ⟨rfl, rfl, hw, FrC.rfl, (if_neg (by omega)).symm⟩
    · refine tn_aload_n dX11_put_14 rfl 0 rfl ?_
      refine tn_iload_n dX11_put_15 rfl 1 rfl ?_
      refine tn_iload_n dX11_put_16 rfl 2 rfl ?_
      refine tn_iast (z := i) (v := y) dX11_put_17 h_x (by omega) (by omega) (by omega) ?_
      exact tn_vret rfl dX11_put_18 ⟨rfl, rfl, (hw.arr (Or.inl h_x) (vok_1 (by have q9 := t_x; omega) (by omega))), (FrC.rfl.arr (hk_in t_x (by decide))), (if_pos ⟨by omega, by omega⟩).symm⟩
set_option maxRecDepth 20000 in
theorem k_X11_put_21 (d : Nat) {T : CT} {σ : MS} {x : Nat} {i : Int} {y : Int} (h_x : IA T x) (l_x : (T x).2 ≤ 1000000) (t_x : (T x).1 = 21) (h_i : -2147483648 ≤ i ∧ i ≤ 2147483647) (h_y : -2147483648 ≤ y ∧ y ≤ 2147483647) (hw : WT T σ) : Tn (d + 1) m_X11_put 0 T σ [(0, .ref x), (1, .int (iI i)), (2, .int (iI y))] [] (fun ro T2 σ2 => ro = none ∧ T = T2 ∧ WT T2 σ2 ∧ FrC T [521] σ σ2 ∧ (σ2 = (if 0 ≤ i ∧ i < ((T x).2 : Int) then sA (1000 + x) i y σ else σ))) := by
  refine tn_aload_n dX11_put_0 rfl 0 rfl ?_
  refine tn_ifnull dX11_put_1 ?_
  refine tn_iload_n dX11_put_4 rfl 1 rfl ?_
  refine tn_if_lt (tgt := 18) dX11_put_5 (by decide) ⟨by omega, by omega⟩ (fun h1 => ?_) (fun h1 => ?_)
  · exact tn_vret rfl dX11_put_18 ⟨rfl, rfl, hw, FrC.rfl, (if_neg (by omega)).symm⟩
  · refine tn_iload_n dX11_put_8 rfl 1 rfl ?_
    refine tn_aload_n dX11_put_9 rfl 0 rfl ?_
    refine tn_alenX dX11_put_10 (Or.inl h_x) ?_
    refine tn_icmp_ge (tgt := 18) dX11_put_11 (by decide) ⟨by omega, by omega⟩ ⟨by omega, by omega⟩ (fun h2 => ?_) (fun h2 => ?_)
    · exact tn_vret rfl dX11_put_18 ⟨rfl, rfl, hw, FrC.rfl, (if_neg (by omega)).symm⟩
    · refine tn_aload_n dX11_put_14 rfl 0 rfl ?_
      refine tn_iload_n dX11_put_15 rfl 1 rfl ?_
      refine tn_iload_n dX11_put_16 rfl 2 rfl ?_
      refine tn_iast (z := i) (v := y) dX11_put_17 h_x (by omega) (by omega) (by omega) ?_
      exact tn_vret rfl dX11_put_18 ⟨rfl, rfl, (hw.arr (Or.inl h_x) (vok_1 (by have q9 := t_x; omega) (by omega))), (FrC.rfl.arr (hk_in t_x (by decide))), (if_pos ⟨by omega, by omega⟩).symm⟩
set_option maxRecDepth 20000 in
theorem k_X11_put_22 (d : Nat) {T : CT} {σ : MS} {x : Nat} {i : Int} {y : Int} (h_x : IA T x) (l_x : (T x).2 ≤ 1000000) (t_x : (T x).1 = 22) (h_i : -2147483648 ≤ i ∧ i ≤ 2147483647) (h_y : -2147483648 ≤ y ∧ y ≤ 2147483647) (hw : WT T σ) : Tn (d + 1) m_X11_put 0 T σ [(0, .ref x), (1, .int (iI i)), (2, .int (iI y))] [] (fun ro T2 σ2 => ro = none ∧ T = T2 ∧ WT T2 σ2 ∧ FrC T [522] σ σ2 ∧ (σ2 = (if 0 ≤ i ∧ i < ((T x).2 : Int) then sA (1000 + x) i y σ else σ))) := by
  refine tn_aload_n dX11_put_0 rfl 0 rfl ?_
  refine tn_ifnull dX11_put_1 ?_
  refine tn_iload_n dX11_put_4 rfl 1 rfl ?_
  refine tn_if_lt (tgt := 18) dX11_put_5 (by decide) ⟨by omega, by omega⟩ (fun h1 => ?_) (fun h1 => ?_)
  · exact tn_vret rfl dX11_put_18 ⟨rfl, rfl, hw, FrC.rfl, (if_neg (by omega)).symm⟩
  · refine tn_iload_n dX11_put_8 rfl 1 rfl ?_
    refine tn_aload_n dX11_put_9 rfl 0 rfl ?_
    refine tn_alenX dX11_put_10 (Or.inl h_x) ?_
    refine tn_icmp_ge (tgt := 18) dX11_put_11 (by decide) ⟨by omega, by omega⟩ ⟨by omega, by omega⟩ (fun h2 => ?_) (fun h2 => ?_)
    · exact tn_vret rfl dX11_put_18 ⟨rfl, rfl, hw, FrC.rfl, (if_neg (by omega)).symm⟩
    · refine tn_aload_n dX11_put_14 rfl 0 rfl ?_
      refine tn_iload_n dX11_put_15 rfl 1 rfl ?_
      refine tn_iload_n dX11_put_16 rfl 2 rfl ?_
      refine tn_iast (z := i) (v := y) dX11_put_17 h_x (by omega) (by omega) (by omega) ?_
      exact tn_vret rfl dX11_put_18 ⟨rfl, rfl, (hw.arr (Or.inl h_x) (vok_1 (by have q9 := t_x; omega) (by omega))), (FrC.rfl.arr (hk_in t_x (by decide))), (if_pos ⟨by omega, by omega⟩).symm⟩
set_option maxRecDepth 20000 in
theorem k_X11_put_23 (d : Nat) {T : CT} {σ : MS} {x : Nat} {i : Int} {y : Int} (h_x : IA T x) (l_x : (T x).2 ≤ 1000000) (t_x : (T x).1 = 23) (h_i : -2147483648 ≤ i ∧ i ≤ 2147483647) (h_y : -2147483648 ≤ y ∧ y ≤ 2147483647) (hw : WT T σ) : Tn (d + 1) m_X11_put 0 T σ [(0, .ref x), (1, .int (iI i)), (2, .int (iI y))] [] (fun ro T2 σ2 => ro = none ∧ T = T2 ∧ WT T2 σ2 ∧ FrC T [523] σ σ2 ∧ (σ2 = (if 0 ≤ i ∧ i < ((T x).2 : Int) then sA (1000 + x) i y σ else σ))) := by
  refine tn_aload_n dX11_put_0 rfl 0 rfl ?_
  refine tn_ifnull dX11_put_1 ?_
  refine tn_iload_n dX11_put_4 rfl 1 rfl ?_
  refine tn_if_lt (tgt := 18) dX11_put_5 (by decide) ⟨by omega, by omega⟩ (fun h1 => ?_) (fun h1 => ?_)
  · exact tn_vret rfl dX11_put_18 ⟨rfl, rfl, hw, FrC.rfl, (if_neg (by omega)).symm⟩
  · refine tn_iload_n dX11_put_8 rfl 1 rfl ?_
    refine tn_aload_n dX11_put_9 rfl 0 rfl ?_
    refine tn_alenX dX11_put_10 (Or.inl h_x) ?_
    refine tn_icmp_ge (tgt := 18) dX11_put_11 (by decide) ⟨by omega, by omega⟩ ⟨by omega, by omega⟩ (fun h2 => ?_) (fun h2 => ?_)
    · exact tn_vret rfl dX11_put_18 ⟨rfl, rfl, hw, FrC.rfl, (if_neg (by omega)).symm⟩
    · refine tn_aload_n dX11_put_14 rfl 0 rfl ?_
      refine tn_iload_n dX11_put_15 rfl 1 rfl ?_
      refine tn_iload_n dX11_put_16 rfl 2 rfl ?_
      refine tn_iast (z := i) (v := y) dX11_put_17 h_x (by omega) (by omega) (by omega) ?_
      exact tn_vret rfl dX11_put_18 ⟨rfl, rfl, (hw.arr (Or.inl h_x) (vok_1 (by have q9 := t_x; omega) (by omega))), (FrC.rfl.arr (hk_in t_x (by decide))), (if_pos ⟨by omega, by omega⟩).symm⟩
theorem cd_X11_bitsAt : Cond.code yX11_bitsAt cX11_bitsAt 2 (some .long) ∈ pWW := pw5 (List.mem_of_getElem? (i := 39) rfl) rfl
abbrev m_X11_bitsAt : MT := (yX11_bitsAt, cX11_bitsAt, 2, (some .long))
theorem ok_X11_bitsAt : pOk m_X11_bitsAt := ⟨⟨cd_X11_bitsAt, ini_11⟩, by decide +kernel, ⟨by decide +kernel, by decide +kernel⟩, Nat.le_of_ble_eq_true rfl⟩
theorem np_X11_bitsAt : (parseMethodDescriptor yX11_bitsAt.desc).map (fun d => d.parameters.length) = some 2 := by decide +kernel
theorem stt_X11_bitsAt : Cond.static yX11_bitsAt ∈ pWW := pw5 (List.mem_of_getElem? (i := 38) rfl) rfl
theorem dX11_bitsAt_0 : decode cX11_bitsAt 0 = .ok (.aload_n 0, 1) := by decide +kernel
theorem dX11_bitsAt_1 : decode cX11_bitsAt 1 = .ok (.ifnull 19, 3) := by decide +kernel
theorem dX11_bitsAt_4 : decode cX11_bitsAt 4 = .ok (.iload_n 1, 1) := by decide +kernel
theorem dX11_bitsAt_5 : decode cX11_bitsAt 5 = .ok (.ifCond .lt 15, 3) := by decide +kernel
theorem dX11_bitsAt_20 : decode cX11_bitsAt 20 = .ok (.lconst 0, 1) := by decide +kernel
theorem dX11_bitsAt_21 : decode cX11_bitsAt 21 = .ok (.lreturn, 1) := by decide +kernel
theorem dX11_bitsAt_8 : decode cX11_bitsAt 8 = .ok (.iload_n 1, 1) := by decide +kernel
theorem dX11_bitsAt_9 : decode cX11_bitsAt 9 = .ok (.aload_n 0, 1) := by decide +kernel
theorem dX11_bitsAt_10 : decode cX11_bitsAt 10 = .ok (.arraylength, 1) := by decide +kernel
theorem dX11_bitsAt_11 : decode cX11_bitsAt 11 = .ok (.if_icmp .ge 9, 3) := by decide +kernel
theorem dX11_bitsAt_14 : decode cX11_bitsAt 14 = .ok (.aload_n 0, 1) := by decide +kernel
theorem dX11_bitsAt_15 : decode cX11_bitsAt 15 = .ok (.iload_n 1, 1) := by decide +kernel
theorem dX11_bitsAt_16 : decode cX11_bitsAt 16 = .ok (.laload, 1) := by decide +kernel
theorem dX11_bitsAt_17 : decode cX11_bitsAt 17 = .ok (.goto 4, 3) := by decide +kernel
set_option maxRecDepth 20000 in
theorem k_X11_bitsAt (d : Nat) {T : CT} {σ : MS} {x : Nat} {i : Int} (h_x : (T x).1 = 3) (l_x : (T x).2 ≤ 1000000) (h_i : -2147483648 ≤ i ∧ i ≤ 2147483647) (hw : WT T σ) : Tn (d + 1) m_X11_bitsAt 0 T σ [(0, .ref x), (1, .int (iI i))] [] (fun ro T2 σ2 => ∃ v : Int64, ro = some (.long v) ∧ T = T2 ∧ σ = σ2) := by
  refine tn_aload_n dX11_bitsAt_0 rfl 0 rfl ?_
  refine tn_ifnull dX11_bitsAt_1 ?_
  refine tn_iload_n dX11_bitsAt_4 rfl 1 rfl ?_
  refine tn_if_lt (tgt := 20) dX11_bitsAt_5 (by decide) ⟨by omega, by omega⟩ (fun h1 => ?_) (fun h1 => ?_)
  · refine tn_lconst (v := 0) dX11_bitsAt_20 rfl ?_
    exact tn_lret rfl dX11_bitsAt_21 ⟨_, rfl, rfl, rfl⟩
  · refine tn_iload_n dX11_bitsAt_8 rfl 1 rfl ?_
    refine tn_aload_n dX11_bitsAt_9 rfl 0 rfl ?_
    refine tn_alenX dX11_bitsAt_10 (Or.inr (Or.inr (Or.inl h_x))) ?_
    refine tn_icmp_ge (tgt := 20) dX11_bitsAt_11 (by decide) ⟨by omega, by omega⟩ ⟨by omega, by omega⟩ (fun h2 => ?_) (fun h2 => ?_)
    · refine tn_lconst (v := 0) dX11_bitsAt_20 rfl ?_
      exact tn_lret rfl dX11_bitsAt_21 ⟨_, rfl, rfl, rfl⟩
    · refine tn_aload_n dX11_bitsAt_14 rfl 0 rfl ?_
      refine tn_iload_n dX11_bitsAt_15 rfl 1 rfl ?_
      refine tn_laldX (z := i) dX11_bitsAt_16 h_x (by omega) (by omega) (by omega) (fun v3 => ?_)
      refine tn_goto (tgt := 21) dX11_bitsAt_17 (by decide) ?_
      exact tn_lret rfl dX11_bitsAt_21 ⟨_, rfl, rfl, rfl⟩
theorem cd_X11_putBits : Cond.code yX11_putBits cX11_putBits 4 none ∈ pWW := pw5 (List.mem_of_getElem? (i := 42) rfl) rfl
abbrev m_X11_putBits : MT := (yX11_putBits, cX11_putBits, 4, none)
theorem ok_X11_putBits : pOk m_X11_putBits := ⟨⟨cd_X11_putBits, ini_11⟩, by decide +kernel, ⟨by decide +kernel, by decide +kernel⟩, Nat.le_of_ble_eq_true rfl⟩
theorem np_X11_putBits : (parseMethodDescriptor yX11_putBits.desc).map (fun d => d.parameters.length) = some 3 := by decide +kernel
theorem stt_X11_putBits : Cond.static yX11_putBits ∈ pWW := pw5 (List.mem_of_getElem? (i := 41) rfl) rfl
theorem dX11_putBits_0 : decode cX11_putBits 0 = .ok (.aload_n 0, 1) := by decide +kernel
theorem dX11_putBits_1 : decode cX11_putBits 1 = .ok (.ifnull 17, 3) := by decide +kernel
theorem dX11_putBits_4 : decode cX11_putBits 4 = .ok (.iload_n 1, 1) := by decide +kernel
theorem dX11_putBits_5 : decode cX11_putBits 5 = .ok (.ifCond .lt 13, 3) := by decide +kernel
theorem dX11_putBits_18 : decode cX11_putBits 18 = .ok (.return_, 1) := by decide +kernel
theorem dX11_putBits_8 : decode cX11_putBits 8 = .ok (.iload_n 1, 1) := by decide +kernel
theorem dX11_putBits_9 : decode cX11_putBits 9 = .ok (.aload_n 0, 1) := by decide +kernel
theorem dX11_putBits_10 : decode cX11_putBits 10 = .ok (.arraylength, 1) := by decide +kernel
theorem dX11_putBits_11 : decode cX11_putBits 11 = .ok (.if_icmp .ge 7, 3) := by decide +kernel
theorem dX11_putBits_14 : decode cX11_putBits 14 = .ok (.aload_n 0, 1) := by decide +kernel
theorem dX11_putBits_15 : decode cX11_putBits 15 = .ok (.iload_n 1, 1) := by decide +kernel
theorem dX11_putBits_16 : decode cX11_putBits 16 = .ok (.lload_n 2, 1) := by decide +kernel
theorem dX11_putBits_17 : decode cX11_putBits 17 = .ok (.lastore, 1) := by decide +kernel
set_option maxRecDepth 20000 in
theorem k_X11_putBits (d : Nat) {T : CT} {σ : MS} {x : Nat} {i : Int} {w : Int64} (h_x : (T x).1 = 3) (l_x : (T x).2 ≤ 1000000) (h_i : -2147483648 ≤ i ∧ i ≤ 2147483647) (hw : WT T σ) : Tn (d + 1) m_X11_putBits 0 T σ [(0, .ref x), (1, .int (iI i)), (2, .long (w))] [] (fun ro T2 σ2 => ro = none ∧ T = T2 ∧ WT T2 σ2 ∧ FrC T [] σ σ2) := by
  refine tn_aload_n dX11_putBits_0 rfl 0 rfl ?_
  refine tn_ifnull dX11_putBits_1 ?_
  refine tn_iload_n dX11_putBits_4 rfl 1 rfl ?_
  refine tn_if_lt (tgt := 18) dX11_putBits_5 (by decide) ⟨by omega, by omega⟩ (fun h1 => ?_) (fun h1 => ?_)
  · exact tn_vret rfl dX11_putBits_18 ⟨rfl, rfl, hw, FrC.rfl⟩
  · refine tn_iload_n dX11_putBits_8 rfl 1 rfl ?_
    refine tn_aload_n dX11_putBits_9 rfl 0 rfl ?_
    refine tn_alenX dX11_putBits_10 (Or.inr (Or.inr (Or.inl h_x))) ?_
    refine tn_icmp_ge (tgt := 18) dX11_putBits_11 (by decide) ⟨by omega, by omega⟩ ⟨by omega, by omega⟩ (fun h2 => ?_) (fun h2 => ?_)
    · exact tn_vret rfl dX11_putBits_18 ⟨rfl, rfl, hw, FrC.rfl⟩
    · refine tn_aload_n dX11_putBits_14 rfl 0 rfl ?_
      refine tn_iload_n dX11_putBits_15 rfl 1 rfl ?_
      refine tn_lload_n dX11_putBits_16 rfl 2 rfl ?_
      refine tn_last (z := i) (v := w) dX11_putBits_17 h_x (by omega) (by omega) (by omega) ?_
      exact tn_vret rfl dX11_putBits_18 ⟨rfl, rfl, (hw.lng), (FrC.rfl.lng)⟩
theorem cd_X11_has : Cond.code yX11_has cX11_has 3 (some .boolean) ∈ pWW := pw5 (List.mem_of_getElem? (i := 70) rfl) rfl
abbrev m_X11_has : MT := (yX11_has, cX11_has, 3, (some .boolean))
theorem ok_X11_has : pOk m_X11_has := ⟨⟨cd_X11_has, ini_11⟩, by decide +kernel, ⟨by decide +kernel, by decide +kernel⟩, Nat.le_of_ble_eq_true rfl⟩
theorem np_X11_has : (parseMethodDescriptor yX11_has.desc).map (fun d => d.parameters.length) = some 3 := by decide +kernel
theorem stt_X11_has : Cond.static yX11_has ∈ pWW := pw5 (List.mem_of_getElem? (i := 69) rfl) rfl
theorem ml11_313 : Cond.methodLink RX11 313 yX11_bitsAt ∈ pWW := pw5 (List.mem_of_getElem? (i := 50) rfl) rfl
theorem dX11_has_0 : decode cX11_has 0 = .ok (.iload_n 2, 1) := by decide +kernel
theorem dX11_has_1 : decode cX11_has 1 = .ok (.ifCond .lt 38, 3) := by decide +kernel
theorem dX11_has_39 : decode cX11_has 39 = .ok (.iconst 0, 1) := by decide +kernel
theorem dX11_has_40 : decode cX11_has 40 = .ok (.ireturn, 1) := by decide +kernel
theorem dX11_has_4 : decode cX11_has 4 = .ok (.iload_n 2, 1) := by decide +kernel
theorem dX11_has_5 : decode cX11_has 5 = .ok (.sipush 192, 3) := by decide +kernel
theorem dX11_has_8 : decode cX11_has 8 = .ok (.if_icmp .ge 31, 3) := by decide +kernel
theorem dX11_has_11 : decode cX11_has 11 = .ok (.aload_n 0, 1) := by decide +kernel
theorem dX11_has_12 : decode cX11_has 12 = .ok (.iload_n 1, 1) := by decide +kernel
theorem dX11_has_13 : decode cX11_has 13 = .ok (.iconst 3, 1) := by decide +kernel
theorem dX11_has_14 : decode cX11_has 14 = .ok (.imul, 1) := by decide +kernel
theorem dX11_has_15 : decode cX11_has 15 = .ok (.iload_n 2, 1) := by decide +kernel
theorem dX11_has_16 : decode cX11_has 16 = .ok (.bipush 6, 2) := by decide +kernel
theorem dX11_has_18 : decode cX11_has 18 = .ok (.ishr, 1) := by decide +kernel
theorem dX11_has_19 : decode cX11_has 19 = .ok (.iadd, 1) := by decide +kernel
theorem dX11_has_20 : decode cX11_has 20 = .ok (.invokestatic 313, 3) := by decide +kernel
theorem dX11_has_23 : decode cX11_has 23 = .ok (.iload_n 2, 1) := by decide +kernel
theorem dX11_has_24 : decode cX11_has 24 = .ok (.bipush 63, 2) := by decide +kernel
theorem dX11_has_26 : decode cX11_has 26 = .ok (.iand, 1) := by decide +kernel
theorem dX11_has_27 : decode cX11_has 27 = .ok (.lushr, 1) := by decide +kernel
theorem dX11_has_28 : decode cX11_has 28 = .ok (.lconst 1, 1) := by decide +kernel
theorem dX11_has_29 : decode cX11_has 29 = .ok (.land, 1) := by decide +kernel
theorem dX11_has_30 : decode cX11_has 30 = .ok (.lconst 0, 1) := by decide +kernel
theorem dX11_has_31 : decode cX11_has 31 = .ok (.lcmp, 1) := by decide +kernel
theorem dX11_has_32 : decode cX11_has 32 = .ok (.ifCond .eq 7, 3) := by decide +kernel
theorem dX11_has_35 : decode cX11_has 35 = .ok (.iconst 1, 1) := by decide +kernel
theorem dX11_has_36 : decode cX11_has 36 = .ok (.goto 4, 3) := by decide +kernel
set_option maxRecDepth 20000 in
theorem k_X11_has (d : Nat) {T : CT} {σ : MS} {x : Nat} {k : Int} {r : Int} (h_x : (T x).1 = 3) (l_x : (T x).2 ≤ 1000000) (h_k : -2147483648 ≤ k ∧ k ≤ 2147483647) (h_r : -2147483648 ≤ r ∧ r ≤ 2147483647) (hw : WT T σ) : Tn (d + 2) m_X11_has 0 T σ [(0, .ref x), (1, .int (iI k)), (2, .int (iI r))] [] (fun ro T2 σ2 => ∃ v : Int, ro = some (.int (iI v)) ∧ T = T2 ∧ σ = σ2 ∧ (v = 0 ∨ v = 1)) := by
  refine tn_iload_n dX11_has_0 rfl 2 rfl ?_
  refine tn_if_lt (tgt := 39) dX11_has_1 (by decide) ⟨by omega, by omega⟩ (fun h1 => ?_) (fun h1 => ?_)
  · refine tn_iconst dX11_has_39 ?_
    exact tn_zret (v := 0) rfl (by decide) dX11_has_40 ⟨_, rfl, rfl, rfl, by omega⟩
  · refine tn_iload_n dX11_has_4 rfl 2 rfl ?_
    refine tn_sipush dX11_has_5 (by decide) ?_
    refine tn_icmp_ge (tgt := 39) dX11_has_8 (by decide) ⟨by omega, by omega⟩ ⟨by decide, by decide⟩ (fun h2 => ?_) (fun h2 => ?_)
    · refine tn_iconst dX11_has_39 ?_
      exact tn_zret (v := 0) rfl (by decide) dX11_has_40 ⟨_, rfl, rfl, rfl, by omega⟩
    · refine tn_aload_n dX11_has_11 rfl 0 rfl ?_
      refine tn_iload_n dX11_has_12 rfl 1 rfl ?_
      refine tn_iconst dX11_has_13 ?_
      refine tn_imul dX11_has_14 ?_
      refine tn_any (fun z3 g4 => ?_)
      have g4r : -2147483648 ≤ z3 ∧ z3 ≤ 2147483647 := g4
      refine tn_iload_n dX11_has_15 rfl 2 rfl ?_
      refine tn_bipush dX11_has_16 (by decide) ?_
      refine tn_ishr dX11_has_18 ?_
      refine tn_anyI (fun z5 g6 => ?_)
      have g6r : -2147483648 ≤ z5 ∧ z5 ≤ 2147483647 := g6
      refine tn_iadd dX11_has_19 ?_
      refine tn_any (fun z7 g8 => ?_)
      have g8r : -2147483648 ≤ z7 ∧ z7 ≤ 2147483647 := g8
      refine tn_callS (M := m_X11_has) (pc := 20) (ix := 313) (M' := m_X11_bitsAt) (As := [.ref x, .int (iI z7)]) (rest := []) dX11_has_20 ok_X11_bitsAt stt_X11_bitsAt ml11_313 np_X11_bitsAt rfl (Nat.le_of_ble_eq_true rfl) (Nat.le_of_ble_eq_true rfl) rfl (k_X11_bitsAt (d) (T := T) (σ := σ) (x := x) (i := z7) h_x (by omega) (by omega) hw ) (fun r9 T11 σ10 gt12 hp => ?_)
      obtain ⟨v13, rfl, rfl, rfl⟩ := hp
      clear gt12
      show Tn _ _ 23 T σ [(0, .ref x), (1, .int (iI k)), (2, .int (iI r))] [.long (v13)] _
      refine tn_iload_n dX11_has_23 rfl 2 rfl ?_
      refine tn_bipush dX11_has_24 (by decide) ?_
      refine tn_iand dX11_has_26 ?_
      refine tn_anyI (fun z14 g15 => ?_)
      have g15r : -2147483648 ≤ z14 ∧ z14 ≤ 2147483647 := g15
      refine tn_lushr dX11_has_27 ?_
      refine tn_longX (fun w16 => ?_)
      refine tn_lconst (v := 1) dX11_has_28 rfl ?_
      refine tn_land dX11_has_29 ?_
      refine tn_longX (fun w17 => ?_)
      refine tn_lconst (v := 0) dX11_has_30 rfl ?_
      refine tn_lcmpX dX11_has_31 ?_
      refine tn_anyI (fun z18 g19 => ?_)
      have g19r : -2147483648 ≤ z18 ∧ z18 ≤ 2147483647 := g19
      refine tn_if_eq (tgt := 39) dX11_has_32 (by decide) ⟨by omega, by omega⟩ (fun h20 => ?_) (fun h20 => ?_)
      · refine tn_iconst dX11_has_39 ?_
        exact tn_zret (v := 0) rfl (by decide) dX11_has_40 ⟨_, rfl, rfl, rfl, by omega⟩
      · refine tn_iconst dX11_has_35 ?_
        refine tn_goto (tgt := 40) dX11_has_36 (by decide) ?_
        exact tn_zret (v := 1) rfl (by decide) dX11_has_40 ⟨_, rfl, rfl, rfl, by omega⟩
theorem cd_X11_include : Cond.code yX11_include cX11_include 4 none ∈ pWW := pw5 (List.mem_of_getElem? (i := 58) rfl) rfl
abbrev m_X11_include : MT := (yX11_include, cX11_include, 4, none)
theorem ok_X11_include : pOk m_X11_include := ⟨⟨cd_X11_include, ini_11⟩, by decide +kernel, ⟨by decide +kernel, by decide +kernel⟩, Nat.le_of_ble_eq_true rfl⟩
theorem np_X11_include : (parseMethodDescriptor yX11_include.desc).map (fun d => d.parameters.length) = some 3 := by decide +kernel
theorem stt_X11_include : Cond.static yX11_include ∈ pWW := pw5 (List.mem_of_getElem? (i := 57) rfl) rfl
theorem ml11_317 : Cond.methodLink RX11 317 yX11_putBits ∈ pWW := pw5 (List.mem_of_getElem? (i := 52) rfl) rfl
theorem dX11_include_0 : decode cX11_include 0 = .ok (.iload_n 2, 1) := by decide +kernel
theorem dX11_include_1 : decode cX11_include 1 = .ok (.ifCond .lt 36, 3) := by decide +kernel
theorem dX11_include_37 : decode cX11_include 37 = .ok (.return_, 1) := by decide +kernel
theorem dX11_include_4 : decode cX11_include 4 = .ok (.iload_n 2, 1) := by decide +kernel
theorem dX11_include_5 : decode cX11_include 5 = .ok (.sipush 192, 3) := by decide +kernel
theorem dX11_include_8 : decode cX11_include 8 = .ok (.if_icmp .ge 29, 3) := by decide +kernel
theorem dX11_include_11 : decode cX11_include 11 = .ok (.iload_n 1, 1) := by decide +kernel
theorem dX11_include_12 : decode cX11_include 12 = .ok (.iconst 3, 1) := by decide +kernel
theorem dX11_include_13 : decode cX11_include 13 = .ok (.imul, 1) := by decide +kernel
theorem dX11_include_14 : decode cX11_include 14 = .ok (.iload_n 2, 1) := by decide +kernel
theorem dX11_include_15 : decode cX11_include 15 = .ok (.bipush 6, 2) := by decide +kernel
theorem dX11_include_17 : decode cX11_include 17 = .ok (.ishr, 1) := by decide +kernel
theorem dX11_include_18 : decode cX11_include 18 = .ok (.iadd, 1) := by decide +kernel
theorem dX11_include_19 : decode cX11_include 19 = .ok (.istore_n 3, 1) := by decide +kernel
theorem dX11_include_20 : decode cX11_include 20 = .ok (.aload_n 0, 1) := by decide +kernel
theorem dX11_include_21 : decode cX11_include 21 = .ok (.iload_n 3, 1) := by decide +kernel
theorem dX11_include_22 : decode cX11_include 22 = .ok (.aload_n 0, 1) := by decide +kernel
theorem dX11_include_23 : decode cX11_include 23 = .ok (.iload_n 3, 1) := by decide +kernel
theorem dX11_include_24 : decode cX11_include 24 = .ok (.invokestatic 313, 3) := by decide +kernel
theorem dX11_include_27 : decode cX11_include 27 = .ok (.lconst 1, 1) := by decide +kernel
theorem dX11_include_28 : decode cX11_include 28 = .ok (.iload_n 2, 1) := by decide +kernel
theorem dX11_include_29 : decode cX11_include 29 = .ok (.bipush 63, 2) := by decide +kernel
theorem dX11_include_31 : decode cX11_include 31 = .ok (.iand, 1) := by decide +kernel
theorem dX11_include_32 : decode cX11_include 32 = .ok (.lshl, 1) := by decide +kernel
theorem dX11_include_33 : decode cX11_include 33 = .ok (.lor, 1) := by decide +kernel
theorem dX11_include_34 : decode cX11_include 34 = .ok (.invokestatic 317, 3) := by decide +kernel
set_option maxRecDepth 20000 in
theorem k_X11_include (d : Nat) {T : CT} {σ : MS} {x : Nat} {k : Int} {r : Int} (h_x : (T x).1 = 3) (l_x : (T x).2 ≤ 1000000) (h_k : -2147483648 ≤ k ∧ k ≤ 2147483647) (h_r : -2147483648 ≤ r ∧ r ≤ 2147483647) (hw : WT T σ) : Tn (d + 2) m_X11_include 0 T σ [(0, .ref x), (1, .int (iI k)), (2, .int (iI r))] [] (fun ro T2 σ2 => ro = none ∧ T = T2 ∧ WT T2 σ2 ∧ FrC T [] σ σ2) := by
  refine tn_iload_n dX11_include_0 rfl 2 rfl ?_
  refine tn_if_lt (tgt := 37) dX11_include_1 (by decide) ⟨by omega, by omega⟩ (fun h1 => ?_) (fun h1 => ?_)
  · exact tn_vret rfl dX11_include_37 ⟨rfl, rfl, hw, FrC.rfl⟩
  · refine tn_iload_n dX11_include_4 rfl 2 rfl ?_
    refine tn_sipush dX11_include_5 (by decide) ?_
    refine tn_icmp_ge (tgt := 37) dX11_include_8 (by decide) ⟨by omega, by omega⟩ ⟨by decide, by decide⟩ (fun h2 => ?_) (fun h2 => ?_)
    · exact tn_vret rfl dX11_include_37 ⟨rfl, rfl, hw, FrC.rfl⟩
    · refine tn_iload_n dX11_include_11 rfl 1 rfl ?_
      refine tn_iconst dX11_include_12 ?_
      refine tn_imul dX11_include_13 ?_
      refine tn_any (fun z3 g4 => ?_)
      have g4r : -2147483648 ≤ z3 ∧ z3 ≤ 2147483647 := g4
      refine tn_iload_n dX11_include_14 rfl 2 rfl ?_
      refine tn_bipush dX11_include_15 (by decide) ?_
      refine tn_ishr dX11_include_17 ?_
      refine tn_anyI (fun z5 g6 => ?_)
      have g6r : -2147483648 ≤ z5 ∧ z5 ≤ 2147483647 := g6
      refine tn_iadd dX11_include_18 ?_
      refine tn_any (fun z7 g8 => ?_)
      have g8r : -2147483648 ≤ z7 ∧ z7 ≤ 2147483647 := g8
      refine tn_istore_n (L' := [(3, .int (iI z7)), (0, .ref x), (1, .int (iI k)), (2, .int (iI r))]) dX11_include_19 rfl (by decide) rfl ?_
      refine tn_aload_n dX11_include_20 rfl 1 rfl ?_
      refine tn_iload_n dX11_include_21 rfl 0 rfl ?_
      refine tn_aload_n dX11_include_22 rfl 1 rfl ?_
      refine tn_iload_n dX11_include_23 rfl 0 rfl ?_
      refine tn_callS (M := m_X11_include) (pc := 24) (ix := 313) (M' := m_X11_bitsAt) (As := [.ref x, .int (iI z7)]) (rest := [.int (iI z7), .ref x]) dX11_include_24 ok_X11_bitsAt stt_X11_bitsAt ml11_313 np_X11_bitsAt rfl (Nat.le_of_ble_eq_true rfl) (Nat.le_of_ble_eq_true rfl) rfl (k_X11_bitsAt (d) (T := T) (σ := σ) (x := x) (i := z7) h_x (by omega) (by omega) hw ) (fun r9 T11 σ10 gt12 hp => ?_)
      obtain ⟨v13, rfl, rfl, rfl⟩ := hp
      clear gt12
      show Tn _ _ 27 T σ [(3, .int (iI z7)), (0, .ref x), (1, .int (iI k)), (2, .int (iI r))] [.long (v13), .int (iI z7), .ref x] _
      refine tn_lconst (v := 1) dX11_include_27 rfl ?_
      refine tn_iload_n dX11_include_28 rfl 3 rfl ?_
      refine tn_bipush dX11_include_29 (by decide) ?_
      refine tn_iand dX11_include_31 ?_
      refine tn_anyI (fun z14 g15 => ?_)
      have g15r : -2147483648 ≤ z14 ∧ z14 ≤ 2147483647 := g15
      refine tn_lshl dX11_include_32 ?_
      refine tn_longX (fun w16 => ?_)
      refine tn_lor dX11_include_33 ?_
      refine tn_longX (fun w17 => ?_)
      refine tn_callS (M := m_X11_include) (pc := 34) (ix := 317) (M' := m_X11_putBits) (As := [.ref x, .int (iI z7), .long (w17)]) (rest := []) dX11_include_34 ok_X11_putBits stt_X11_putBits ml11_317 np_X11_putBits rfl (Nat.le_of_ble_eq_true rfl) (Nat.le_of_ble_eq_true rfl) rfl (k_X11_putBits (d) (T := T) (σ := σ) (x := x) (i := z7) (w := w17) h_x (by omega) (by omega) hw ) (fun r18 T20 σ19 gt21 hp => ?_)
      obtain ⟨rfl, rfl, w23, F24⟩ := hp
      clear gt21
      show Tn _ _ 37 T σ19 [(3, .int (iI z7)), (0, .ref x), (1, .int (iI k)), (2, .int (iI r))] [] _
      exact tn_vret rfl dX11_include_37 ⟨rfl, rfl, w23, (FrC.rfl.trans (FrC.sub F24 (by decide)))⟩
theorem cd_X11_exclude : Cond.code yX11_exclude cX11_exclude 4 none ∈ pWW := pw5 (List.mem_of_getElem? (i := 49) rfl) rfl
abbrev m_X11_exclude : MT := (yX11_exclude, cX11_exclude, 4, none)
theorem ok_X11_exclude : pOk m_X11_exclude := ⟨⟨cd_X11_exclude, ini_11⟩, by decide +kernel, ⟨by decide +kernel, by decide +kernel⟩, Nat.le_of_ble_eq_true rfl⟩
theorem np_X11_exclude : (parseMethodDescriptor yX11_exclude.desc).map (fun d => d.parameters.length) = some 3 := by decide +kernel
theorem stt_X11_exclude : Cond.static yX11_exclude ∈ pWW := pw5 (List.mem_of_getElem? (i := 48) rfl) rfl
theorem cst11_321 : Cond.constantLong RX11 321 (-1) ∈ pWW := pw5 (List.mem_of_getElem? (i := 51) rfl) rfl
theorem dX11_exclude_0 : decode cX11_exclude 0 = .ok (.iload_n 2, 1) := by decide +kernel
theorem dX11_exclude_1 : decode cX11_exclude 1 = .ok (.ifCond .lt 40, 3) := by decide +kernel
theorem dX11_exclude_41 : decode cX11_exclude 41 = .ok (.return_, 1) := by decide +kernel
theorem dX11_exclude_4 : decode cX11_exclude 4 = .ok (.iload_n 2, 1) := by decide +kernel
theorem dX11_exclude_5 : decode cX11_exclude 5 = .ok (.sipush 192, 3) := by decide +kernel
theorem dX11_exclude_8 : decode cX11_exclude 8 = .ok (.if_icmp .ge 33, 3) := by decide +kernel
theorem dX11_exclude_11 : decode cX11_exclude 11 = .ok (.iload_n 1, 1) := by decide +kernel
theorem dX11_exclude_12 : decode cX11_exclude 12 = .ok (.iconst 3, 1) := by decide +kernel
theorem dX11_exclude_13 : decode cX11_exclude 13 = .ok (.imul, 1) := by decide +kernel
theorem dX11_exclude_14 : decode cX11_exclude 14 = .ok (.iload_n 2, 1) := by decide +kernel
theorem dX11_exclude_15 : decode cX11_exclude 15 = .ok (.bipush 6, 2) := by decide +kernel
theorem dX11_exclude_17 : decode cX11_exclude 17 = .ok (.ishr, 1) := by decide +kernel
theorem dX11_exclude_18 : decode cX11_exclude 18 = .ok (.iadd, 1) := by decide +kernel
theorem dX11_exclude_19 : decode cX11_exclude 19 = .ok (.istore_n 3, 1) := by decide +kernel
theorem dX11_exclude_20 : decode cX11_exclude 20 = .ok (.aload_n 0, 1) := by decide +kernel
theorem dX11_exclude_21 : decode cX11_exclude 21 = .ok (.iload_n 3, 1) := by decide +kernel
theorem dX11_exclude_22 : decode cX11_exclude 22 = .ok (.aload_n 0, 1) := by decide +kernel
theorem dX11_exclude_23 : decode cX11_exclude 23 = .ok (.iload_n 3, 1) := by decide +kernel
theorem dX11_exclude_24 : decode cX11_exclude 24 = .ok (.invokestatic 313, 3) := by decide +kernel
theorem dX11_exclude_27 : decode cX11_exclude 27 = .ok (.lconst 1, 1) := by decide +kernel
theorem dX11_exclude_28 : decode cX11_exclude 28 = .ok (.iload_n 2, 1) := by decide +kernel
theorem dX11_exclude_29 : decode cX11_exclude 29 = .ok (.bipush 63, 2) := by decide +kernel
theorem dX11_exclude_31 : decode cX11_exclude 31 = .ok (.iand, 1) := by decide +kernel
theorem dX11_exclude_32 : decode cX11_exclude 32 = .ok (.lshl, 1) := by decide +kernel
theorem dX11_exclude_33 : decode cX11_exclude 33 = .ok (.ldc2_w 321, 3) := by decide +kernel
theorem dX11_exclude_36 : decode cX11_exclude 36 = .ok (.lxor, 1) := by decide +kernel
theorem dX11_exclude_37 : decode cX11_exclude 37 = .ok (.land, 1) := by decide +kernel
theorem dX11_exclude_38 : decode cX11_exclude 38 = .ok (.invokestatic 317, 3) := by decide +kernel
set_option maxRecDepth 20000 in
theorem k_X11_exclude (d : Nat) {T : CT} {σ : MS} {x : Nat} {k : Int} {r : Int} (h_x : (T x).1 = 3) (l_x : (T x).2 ≤ 1000000) (h_k : -2147483648 ≤ k ∧ k ≤ 2147483647) (h_r : -2147483648 ≤ r ∧ r ≤ 2147483647) (hw : WT T σ) : Tn (d + 2) m_X11_exclude 0 T σ [(0, .ref x), (1, .int (iI k)), (2, .int (iI r))] [] (fun ro T2 σ2 => ro = none ∧ T = T2 ∧ WT T2 σ2 ∧ FrC T [] σ σ2) := by
  refine tn_iload_n dX11_exclude_0 rfl 2 rfl ?_
  refine tn_if_lt (tgt := 41) dX11_exclude_1 (by decide) ⟨by omega, by omega⟩ (fun h1 => ?_) (fun h1 => ?_)
  · exact tn_vret rfl dX11_exclude_41 ⟨rfl, rfl, hw, FrC.rfl⟩
  · refine tn_iload_n dX11_exclude_4 rfl 2 rfl ?_
    refine tn_sipush dX11_exclude_5 (by decide) ?_
    refine tn_icmp_ge (tgt := 41) dX11_exclude_8 (by decide) ⟨by omega, by omega⟩ ⟨by decide, by decide⟩ (fun h2 => ?_) (fun h2 => ?_)
    · exact tn_vret rfl dX11_exclude_41 ⟨rfl, rfl, hw, FrC.rfl⟩
    · refine tn_iload_n dX11_exclude_11 rfl 1 rfl ?_
      refine tn_iconst dX11_exclude_12 ?_
      refine tn_imul dX11_exclude_13 ?_
      refine tn_any (fun z3 g4 => ?_)
      have g4r : -2147483648 ≤ z3 ∧ z3 ≤ 2147483647 := g4
      refine tn_iload_n dX11_exclude_14 rfl 2 rfl ?_
      refine tn_bipush dX11_exclude_15 (by decide) ?_
      refine tn_ishr dX11_exclude_17 ?_
      refine tn_anyI (fun z5 g6 => ?_)
      have g6r : -2147483648 ≤ z5 ∧ z5 ≤ 2147483647 := g6
      refine tn_iadd dX11_exclude_18 ?_
      refine tn_any (fun z7 g8 => ?_)
      have g8r : -2147483648 ≤ z7 ∧ z7 ≤ 2147483647 := g8
      refine tn_istore_n (L' := [(3, .int (iI z7)), (0, .ref x), (1, .int (iI k)), (2, .int (iI r))]) dX11_exclude_19 rfl (by decide) rfl ?_
      refine tn_aload_n dX11_exclude_20 rfl 1 rfl ?_
      refine tn_iload_n dX11_exclude_21 rfl 0 rfl ?_
      refine tn_aload_n dX11_exclude_22 rfl 1 rfl ?_
      refine tn_iload_n dX11_exclude_23 rfl 0 rfl ?_
      refine tn_callS (M := m_X11_exclude) (pc := 24) (ix := 313) (M' := m_X11_bitsAt) (As := [.ref x, .int (iI z7)]) (rest := [.int (iI z7), .ref x]) dX11_exclude_24 ok_X11_bitsAt stt_X11_bitsAt ml11_313 np_X11_bitsAt rfl (Nat.le_of_ble_eq_true rfl) (Nat.le_of_ble_eq_true rfl) rfl (k_X11_bitsAt (d) (T := T) (σ := σ) (x := x) (i := z7) h_x (by omega) (by omega) hw ) (fun r9 T11 σ10 gt12 hp => ?_)
      obtain ⟨v13, rfl, rfl, rfl⟩ := hp
      clear gt12
      show Tn _ _ 27 T σ [(3, .int (iI z7)), (0, .ref x), (1, .int (iI k)), (2, .int (iI r))] [.long (v13), .int (iI z7), .ref x] _
      refine tn_lconst (v := 1) dX11_exclude_27 rfl ?_
      refine tn_iload_n dX11_exclude_28 rfl 3 rfl ?_
      refine tn_bipush dX11_exclude_29 (by decide) ?_
      refine tn_iand dX11_exclude_31 ?_
      refine tn_anyI (fun z14 g15 => ?_)
      have g15r : -2147483648 ≤ z14 ∧ z14 ≤ 2147483647 := g15
      refine tn_lshl dX11_exclude_32 ?_
      refine tn_longX (fun w16 => ?_)
      refine tn_ldc2 dX11_exclude_33 cst11_321 ?_
      refine tn_lxor dX11_exclude_36 ?_
      refine tn_longX (fun w17 => ?_)
      refine tn_land dX11_exclude_37 ?_
      refine tn_longX (fun w18 => ?_)
      refine tn_callS (M := m_X11_exclude) (pc := 38) (ix := 317) (M' := m_X11_putBits) (As := [.ref x, .int (iI z7), .long (w18)]) (rest := []) dX11_exclude_38 ok_X11_putBits stt_X11_putBits ml11_317 np_X11_putBits rfl (Nat.le_of_ble_eq_true rfl) (Nat.le_of_ble_eq_true rfl) rfl (k_X11_putBits (d) (T := T) (σ := σ) (x := x) (i := z7) (w := w18) h_x (by omega) (by omega) hw ) (fun r19 T21 σ20 gt22 hp => ?_)
      obtain ⟨rfl, rfl, w24, F25⟩ := hp
      clear gt22
      show Tn _ _ 41 T σ20 [(3, .int (iI z7)), (0, .ref x), (1, .int (iI k)), (2, .int (iI r))] [] _
      exact tn_vret rfl dX11_exclude_41 ⟨rfl, rfl, w24, (FrC.rfl.trans (FrC.sub F25 (by decide)))⟩
theorem dJ7_rangeCheck_23922_0 : decode cJ7_rangeCheck_23922 0 = .ok (.iload_n 1, 1) := by decide +kernel
theorem dJ7_rangeCheck_23922_1 : decode cJ7_rangeCheck_23922 1 = .ok (.iload_n 2, 1) := by decide +kernel
theorem dJ7_rangeCheck_23922_2 : decode cJ7_rangeCheck_23922 2 = .ok (.if_icmp .le 44, 3) := by decide +kernel
theorem dJ7_rangeCheck_23922_46 : decode cJ7_rangeCheck_23922 46 = .ok (.iload_n 1, 1) := by decide +kernel
theorem dJ7_rangeCheck_23922_47 : decode cJ7_rangeCheck_23922 47 = .ok (.ifCond .ge 12, 3) := by decide +kernel
theorem dJ7_rangeCheck_23922_59 : decode cJ7_rangeCheck_23922 59 = .ok (.iload_n 2, 1) := by decide +kernel
theorem dJ7_rangeCheck_23922_60 : decode cJ7_rangeCheck_23922 60 = .ok (.iload_n 0, 1) := by decide +kernel
theorem dJ7_rangeCheck_23922_61 : decode cJ7_rangeCheck_23922 61 = .ok (.if_icmp .le 12, 3) := by decide +kernel
theorem dJ7_rangeCheck_23922_73 : decode cJ7_rangeCheck_23922 73 = .ok (.return_, 1) := by decide +kernel
set_option maxRecDepth 20000 in
theorem k_J7_rangeCheck_23922 (d : Nat) {T : CT} {σ : MS} {n : Int} {f : Int} {t : Int} (h_n : -2147483648 ≤ n ∧ n ≤ 2147483647) (h_f : -2147483648 ≤ f ∧ f ≤ 2147483647) (h_t : -2147483648 ≤ t ∧ t ≤ 2147483647) (hw : WT T σ) (hr : 0 ≤ f ∧ f ≤ t ∧ t ≤ n) : Tn (d + 1) m_J7_rangeCheck_23922 0 T σ [(0, .int (iI n)), (1, .int (iI f)), (2, .int (iI t))] [] (fun ro T2 σ2 => ro = none ∧ T = T2 ∧ σ = σ2) := by
  refine tn_iload_n dJ7_rangeCheck_23922_0 rfl 1 rfl ?_
  refine tn_iload_n dJ7_rangeCheck_23922_1 rfl 2 rfl ?_
  refine tn_icmp_le (tgt := 46) dJ7_rangeCheck_23922_2 (by decide) ⟨by omega, by omega⟩ ⟨by omega, by omega⟩ (fun h1 => ?_) (fun h1 => ?_)
  · refine tn_iload_n dJ7_rangeCheck_23922_46 rfl 1 rfl ?_
    refine tn_if_ge (tgt := 59) dJ7_rangeCheck_23922_47 (by decide) ⟨by omega, by omega⟩ (fun h2 => ?_) (fun h2 => ?_)
    · refine tn_iload_n dJ7_rangeCheck_23922_59 rfl 2 rfl ?_
      refine tn_iload_n dJ7_rangeCheck_23922_60 rfl 0 rfl ?_
      refine tn_icmp_le (tgt := 73) dJ7_rangeCheck_23922_61 (by decide) ⟨by omega, by omega⟩ ⟨by omega, by omega⟩ (fun h3 => ?_) (fun h3 => ?_)
      · exact tn_vret rfl dJ7_rangeCheck_23922_73 ⟨rfl, rfl, rfl⟩
      · exact absurd True.intro (by omega)
    · exact absurd True.intro (by omega)
  · exact absurd True.intro (by omega)
theorem dJ7_fill_53178_0 : decode cJ7_fill_53178 0 = .ok (.iconst 0, 1) := by decide +kernel
theorem dJ7_fill_53178_1 : decode cJ7_fill_53178 1 = .ok (.istore_n 2, 1) := by decide +kernel
theorem dJ7_fill_53178_2 : decode cJ7_fill_53178 2 = .ok (.aload_n 0, 1) := by decide +kernel
theorem dJ7_fill_53178_3 : decode cJ7_fill_53178 3 = .ok (.arraylength, 1) := by decide +kernel
theorem dJ7_fill_53178_4 : decode cJ7_fill_53178 4 = .ok (.istore_n 3, 1) := by decide +kernel
theorem dJ7_fill_53178_5 : decode cJ7_fill_53178 5 = .ok (.iload_n 2, 1) := by decide +kernel
theorem dJ7_fill_53178_6 : decode cJ7_fill_53178 6 = .ok (.iload_n 3, 1) := by decide +kernel
theorem dJ7_fill_53178_7 : decode cJ7_fill_53178 7 = .ok (.if_icmp .ge 13, 3) := by decide +kernel
theorem dJ7_fill_53178_10 : decode cJ7_fill_53178 10 = .ok (.aload_n 0, 1) := by decide +kernel
theorem dJ7_fill_53178_11 : decode cJ7_fill_53178 11 = .ok (.iload_n 2, 1) := by decide +kernel
theorem dJ7_fill_53178_12 : decode cJ7_fill_53178 12 = .ok (.iload_n 1, 1) := by decide +kernel
theorem dJ7_fill_53178_13 : decode cJ7_fill_53178 13 = .ok (.iastore, 1) := by decide +kernel
theorem dJ7_fill_53178_14 : decode cJ7_fill_53178 14 = .ok (.iinc 2 1, 3) := by decide +kernel
theorem dJ7_fill_53178_17 : decode cJ7_fill_53178 17 = .ok (.goto (-12), 3) := by decide +kernel
set_option maxRecDepth 20000 in
theorem l_J7_fill_53178_5 (d : Nat) {T : CT} {σ0 : MS} {rx0 : Nat} {c1 : Int} {c3 : Int} {post : Option Value → CT → MS → Prop} (h_rx0 : IA T rx0) (l_rx0 : (T rx0).2 ≤ 1000000) (r_c1 : 0 ≤ c1 ∧ c1 ≤ 0) (r_c3 : 0 ≤ c3 ∧ c3 ≤ 1000000) (hw0 : WT T σ0) (n_rx0 : NH T rx0) (hc3 : c3 ≤ ((T rx0).2 : Int)) (hx_20 : ∀ (i2 : Int) (σ : MS) , (WT T σ) → (FrC T [] σ0 σ) → (0 ≤ i2 ∧ i2 ≤ 2147483647) → Tn (d + 1) m_J7_fill_53178 20 T σ [(0, .ref rx0), (1, .int (iI c1)), (2, .int (iI i2)), (3, .int (iI c3))] [] post) : ∀ (n : Nat) (i2 : Int) (σ : MS) , (WT T σ) → (FrC T [] σ0 σ) → (0 ≤ i2 ∧ i2 ≤ 2147483647) → (2147483700 - i2).toNat = n → Tn (d + 1) m_J7_fill_53178 5 T σ [(0, .ref rx0), (1, .int (iI c1)), (2, .int (iI i2)), (3, .int (iI c3))] [] post := by
  intro n
  induction n using Nat.strongRecOn with
  | _ n ih =>
    intro i2 σ hw hF r_i2 hm
    refine tn_iload_n dJ7_fill_53178_5 rfl 2 rfl ?_
    refine tn_iload_n dJ7_fill_53178_6 rfl 3 rfl ?_
    refine tn_icmp_ge (tgt := 20) dJ7_fill_53178_7 (by decide) ⟨by omega, by omega⟩ ⟨by omega, by omega⟩ (fun h1 => ?_) (fun h1 => ?_)
    · exact tn_sub [0, 1, 2, 3] rfl (hx_20 (i2) σ hw (FrC.rfl.trans (FrC.sub hF (by decide))) (by omega))
    · refine tn_aload_n dJ7_fill_53178_10 rfl 0 rfl ?_
      refine tn_iload_n dJ7_fill_53178_11 rfl 2 rfl ?_
      refine tn_iload_n dJ7_fill_53178_12 rfl 1 rfl ?_
      refine tn_iast (z := i2) (v := c1) dJ7_fill_53178_13 h_rx0 (by omega) (by omega) (by omega) ?_
      refine tn_iinc (q0 := 2) (L' := [(2, .int (iI (i2 + 1))), (0, .ref rx0), (1, .int (iI c1)), (3, .int (iI c3))]) dJ7_fill_53178_14 rfl (by decide) rfl ?_
      refine tn_goto (tgt := 5) dJ7_fill_53178_17 (by decide) ?_
      exact tn_sub [1, 2, 0, 3] rfl (ih _ (by omega) (i2 + 1) (sA (1000 + rx0) (i2) (c1) σ) (hw.arr (Or.inl h_rx0) (vok_z (by omega))) ((FrC.rfl.trans (FrC.sub hF (by decide))).arr (hk_no n_rx0)) (by omega) rfl)
theorem dJ7_fill_53178_20 : decode cJ7_fill_53178 20 = .ok (.return_, 1) := by decide +kernel
set_option maxRecDepth 20000 in
theorem k_J7_fill_53178 (d : Nat) {T : CT} {σ : MS} {x : Nat} {y : Int} (h_x : IA T x) (l_x : (T x).2 ≤ 1000000) (h_y : -2147483648 ≤ y ∧ y ≤ 2147483647) (hw : WT T σ) (n_x : NH T x) (hy : y = 0) : Tn (d + 1) m_J7_fill_53178 0 T σ [(0, .ref x), (1, .int (iI y))] [] (fun ro T2 σ2 => ro = none ∧ T = T2 ∧ WT T2 σ2 ∧ FrC T [] σ σ2) := by
  refine tn_iconst dJ7_fill_53178_0 ?_
  refine tn_istore_n (L' := [(2, .int (iI 0)), (0, .ref x), (1, .int (iI y))]) dJ7_fill_53178_1 rfl (by decide) rfl ?_
  refine tn_aload_n dJ7_fill_53178_2 rfl 1 rfl ?_
  refine tn_alenX dJ7_fill_53178_3 (Or.inl h_x) ?_
  refine tn_istore_n (L' := [(3, .int (iI (((T x).2 : Int)))), (2, .int (iI 0)), (0, .ref x), (1, .int (iI y))]) dJ7_fill_53178_4 rfl (by decide) rfl ?_
  refine tn_sub [2, 3, 1, 0] rfl (l_J7_fill_53178_5 (d) (T := T) (σ0 := σ) (rx0 := x) (c1 := y) (c3 := ((T x).2 : Int)) h_x (by omega) (by omega) (by omega) hw n_x (by omega) (fun i21 σ2 w5 F6 r7 => ?_) _ (0) σ hw FrC.rfl (by omega) rfl)
  show Tn _ _ 20 T σ2 [(0, .ref x), (1, .int (iI y)), (2, .int (iI i21)), (3, .int (iI (((T x).2 : Int))))] [] _
  exact tn_vret rfl dJ7_fill_53178_20 ⟨rfl, rfl, w5, (FrC.rfl.trans (FrC.sub F6 (by decide)))⟩
theorem mlJ7_13 : Cond.methodLink RXJ7 13 yJ7_rangeCheck_23922 ∈ pWW := pw3 (List.mem_of_getElem? (i := 147) rfl) rfl
theorem dJ7_fill_fda19_0 : decode cJ7_fill_fda19 0 = .ok (.aload_n 0, 1) := by decide +kernel
theorem dJ7_fill_fda19_1 : decode cJ7_fill_fda19 1 = .ok (.arraylength, 1) := by decide +kernel
theorem dJ7_fill_fda19_2 : decode cJ7_fill_fda19 2 = .ok (.iload_n 1, 1) := by decide +kernel
theorem dJ7_fill_fda19_3 : decode cJ7_fill_fda19 3 = .ok (.iload_n 2, 1) := by decide +kernel
theorem dJ7_fill_fda19_4 : decode cJ7_fill_fda19 4 = .ok (.invokestatic 13, 3) := by decide +kernel
theorem dJ7_fill_fda19_7 : decode cJ7_fill_fda19 7 = .ok (.iload_n 1, 1) := by decide +kernel
theorem dJ7_fill_fda19_8 : decode cJ7_fill_fda19 8 = .ok (.istore 4, 2) := by decide +kernel
theorem dJ7_fill_fda19_10 : decode cJ7_fill_fda19 10 = .ok (.iload 4, 2) := by decide +kernel
theorem dJ7_fill_fda19_12 : decode cJ7_fill_fda19 12 = .ok (.iload_n 2, 1) := by decide +kernel
theorem dJ7_fill_fda19_13 : decode cJ7_fill_fda19 13 = .ok (.if_icmp .ge 14, 3) := by decide +kernel
theorem dJ7_fill_fda19_16 : decode cJ7_fill_fda19 16 = .ok (.aload_n 0, 1) := by decide +kernel
theorem dJ7_fill_fda19_17 : decode cJ7_fill_fda19 17 = .ok (.iload 4, 2) := by decide +kernel
theorem dJ7_fill_fda19_19 : decode cJ7_fill_fda19 19 = .ok (.iload_n 3, 1) := by decide +kernel
theorem dJ7_fill_fda19_20 : decode cJ7_fill_fda19 20 = .ok (.iastore, 1) := by decide +kernel
theorem dJ7_fill_fda19_21 : decode cJ7_fill_fda19 21 = .ok (.iinc 4 1, 3) := by decide +kernel
theorem dJ7_fill_fda19_24 : decode cJ7_fill_fda19 24 = .ok (.goto (-14), 3) := by decide +kernel
set_option maxRecDepth 20000 in
theorem l_J7_fill_fda19_10 (d : Nat) {T : CT} {σ0 : MS} {rx0 : Nat} {c2 : Int} {c3 : Int} {post : Option Value → CT → MS → Prop} (h_rx0 : IA T rx0) (l_rx0 : (T rx0).2 ≤ 1000000) (r_c2 : -2147483648 ≤ c2 ∧ c2 ≤ 2147483647) (r_c3 : 0 ≤ c3 ∧ c3 ≤ 0) (hw0 : WT T σ0) (n_rx0 : NH T rx0) (hc2 : c2 ≤ ((T rx0).2 : Int)) (hx_27 : ∀ (i4 : Int) (σ : MS) , (WT T σ) → (FrC T [] σ0 σ) → (0 ≤ i4 ∧ i4 ≤ 2147483647) → Tn (d + 2) m_J7_fill_fda19 27 T σ [(0, .ref rx0), (2, .int (iI c2)), (3, .int (iI c3)), (4, .int (iI i4))] [] post) : ∀ (n : Nat) (i4 : Int) (σ : MS) , (WT T σ) → (FrC T [] σ0 σ) → (0 ≤ i4 ∧ i4 ≤ 2147483647) → (2147483700 - i4).toNat = n → Tn (d + 2) m_J7_fill_fda19 10 T σ [(0, .ref rx0), (2, .int (iI c2)), (3, .int (iI c3)), (4, .int (iI i4))] [] post := by
  intro n
  induction n using Nat.strongRecOn with
  | _ n ih =>
    intro i4 σ hw hF r_i4 hm
    refine tn_iload dJ7_fill_fda19_10 3 rfl ?_
    refine tn_iload_n dJ7_fill_fda19_12 rfl 1 rfl ?_
    refine tn_icmp_ge (tgt := 27) dJ7_fill_fda19_13 (by decide) ⟨by omega, by omega⟩ ⟨by omega, by omega⟩ (fun h1 => ?_) (fun h1 => ?_)
    · exact tn_sub [0, 1, 2, 3] rfl (hx_27 (i4) σ hw (FrC.rfl.trans (FrC.sub hF (by decide))) (by omega))
    · refine tn_aload_n dJ7_fill_fda19_16 rfl 0 rfl ?_
      refine tn_iload dJ7_fill_fda19_17 3 rfl ?_
      refine tn_iload_n dJ7_fill_fda19_19 rfl 2 rfl ?_
      refine tn_iast (z := i4) (v := c3) dJ7_fill_fda19_20 h_rx0 (by omega) (by omega) (by omega) ?_
      refine tn_iinc (q0 := 3) (L' := [(4, .int (iI (i4 + 1))), (0, .ref rx0), (2, .int (iI c2)), (3, .int (iI c3))]) dJ7_fill_fda19_21 rfl (by decide) rfl ?_
      refine tn_goto (tgt := 10) dJ7_fill_fda19_24 (by decide) ?_
      exact tn_sub [1, 2, 3, 0] rfl (ih _ (by omega) (i4 + 1) (sA (1000 + rx0) (i4) (c3) σ) (hw.arr (Or.inl h_rx0) (vok_z (by omega))) ((FrC.rfl.trans (FrC.sub hF (by decide))).arr (hk_no n_rx0)) (by omega) rfl)
theorem dJ7_fill_fda19_27 : decode cJ7_fill_fda19 27 = .ok (.return_, 1) := by decide +kernel
set_option maxRecDepth 20000 in
theorem k_J7_fill_fda19 (d : Nat) {T : CT} {σ : MS} {x : Nat} {f : Int} {t : Int} {y : Int} (h_x : IA T x) (l_x : (T x).2 ≤ 1000000) (h_f : -2147483648 ≤ f ∧ f ≤ 2147483647) (h_t : -2147483648 ≤ t ∧ t ≤ 2147483647) (h_y : -2147483648 ≤ y ∧ y ≤ 2147483647) (hw : WT T σ) (n_x : NH T x) (hy : y = 0) (hf : 0 ≤ f ∧ f ≤ t ∧ t ≤ ((T x).2 : Int)) : Tn (d + 2) m_J7_fill_fda19 0 T σ [(0, .ref x), (1, .int (iI f)), (2, .int (iI t)), (3, .int (iI y))] [] (fun ro T2 σ2 => ro = none ∧ T = T2 ∧ WT T2 σ2 ∧ FrC T [] σ σ2) := by
  refine tn_aload_n dJ7_fill_fda19_0 rfl 0 rfl ?_
  refine tn_alenX dJ7_fill_fda19_1 (Or.inl h_x) ?_
  refine tn_iload_n dJ7_fill_fda19_2 rfl 1 rfl ?_
  refine tn_iload_n dJ7_fill_fda19_3 rfl 2 rfl ?_
  refine tn_callS (M := m_J7_fill_fda19) (pc := 4) (ix := 13) (M' := m_J7_rangeCheck_23922) (As := [.int (iI (((T x).2 : Int))), .int (iI f), .int (iI t)]) (rest := []) dJ7_fill_fda19_4 ok_J7_rangeCheck_23922 stt_J7_rangeCheck_23922 mlJ7_13 np_J7_rangeCheck_23922 rfl (Nat.le_of_ble_eq_true rfl) (Nat.le_of_ble_eq_true rfl) rfl (k_J7_rangeCheck_23922 (d) (T := T) (σ := σ) (n := ((T x).2 : Int)) (f := f) (t := t) (by omega) (by omega) (by omega) hw (by omega)) (fun r1 T3 σ2 gt4 hp => ?_)
  obtain ⟨rfl, rfl, rfl⟩ := hp
  clear gt4
  show Tn _ _ 7 T σ [(0, .ref x), (1, .int (iI f)), (2, .int (iI t)), (3, .int (iI y))] [] _
  refine tn_iload_n dJ7_fill_fda19_7 rfl 1 rfl ?_
  refine tn_istore (L' := [(4, .int (iI f)), (0, .ref x), (1, .int (iI f)), (2, .int (iI t)), (3, .int (iI y))]) dJ7_fill_fda19_8 (by decide) rfl ?_
  refine tn_sub [1, 3, 4, 0] rfl (l_J7_fill_fda19_10 (d) (T := T) (σ0 := σ) (rx0 := x) (c2 := t) (c3 := y) h_x (by omega) (by omega) (by omega) hw n_x (by omega) (fun i46 σ7 w10 F11 r12 => ?_) _ (f) σ hw FrC.rfl (by omega) rfl)
  show Tn _ _ 27 T σ7 [(0, .ref x), (2, .int (iI t)), (3, .int (iI y)), (4, .int (iI i46))] [] _
  exact tn_vret rfl dJ7_fill_fda19_27 ⟨rfl, rfl, w10, (FrC.rfl.trans (FrC.sub F11 (by decide)))⟩
theorem dJ7_fill_bad5a_0 : decode cJ7_fill_bad5a 0 = .ok (.aload_n 0, 1) := by decide +kernel
theorem dJ7_fill_bad5a_1 : decode cJ7_fill_bad5a 1 = .ok (.arraylength, 1) := by decide +kernel
theorem dJ7_fill_bad5a_2 : decode cJ7_fill_bad5a 2 = .ok (.iload_n 1, 1) := by decide +kernel
theorem dJ7_fill_bad5a_3 : decode cJ7_fill_bad5a 3 = .ok (.iload_n 2, 1) := by decide +kernel
theorem dJ7_fill_bad5a_4 : decode cJ7_fill_bad5a 4 = .ok (.invokestatic 13, 3) := by decide +kernel
theorem dJ7_fill_bad5a_7 : decode cJ7_fill_bad5a 7 = .ok (.iload_n 1, 1) := by decide +kernel
theorem dJ7_fill_bad5a_8 : decode cJ7_fill_bad5a 8 = .ok (.istore 5, 2) := by decide +kernel
theorem dJ7_fill_bad5a_10 : decode cJ7_fill_bad5a 10 = .ok (.iload 5, 2) := by decide +kernel
theorem dJ7_fill_bad5a_12 : decode cJ7_fill_bad5a 12 = .ok (.iload_n 2, 1) := by decide +kernel
theorem dJ7_fill_bad5a_13 : decode cJ7_fill_bad5a 13 = .ok (.if_icmp .ge 14, 3) := by decide +kernel
theorem dJ7_fill_bad5a_16 : decode cJ7_fill_bad5a 16 = .ok (.aload_n 0, 1) := by decide +kernel
theorem dJ7_fill_bad5a_17 : decode cJ7_fill_bad5a 17 = .ok (.iload 5, 2) := by decide +kernel
theorem dJ7_fill_bad5a_19 : decode cJ7_fill_bad5a 19 = .ok (.lload_n 3, 1) := by decide +kernel
theorem dJ7_fill_bad5a_20 : decode cJ7_fill_bad5a 20 = .ok (.lastore, 1) := by decide +kernel
theorem dJ7_fill_bad5a_21 : decode cJ7_fill_bad5a 21 = .ok (.iinc 5 1, 3) := by decide +kernel
theorem dJ7_fill_bad5a_24 : decode cJ7_fill_bad5a 24 = .ok (.goto (-14), 3) := by decide +kernel
set_option maxRecDepth 20000 in
theorem l_J7_fill_bad5a_10 (d : Nat) {T : CT} {σ0 : MS} {rx0 : Nat} {c2 : Int} {j3 : Int64} {post : Option Value → CT → MS → Prop} (h_rx0 : (T rx0).1 = 3) (l_rx0 : (T rx0).2 ≤ 1000000) (r_c2 : -2147483648 ≤ c2 ∧ c2 ≤ 2147483647) (hw0 : WT T σ0) (hc2 : c2 ≤ ((T rx0).2 : Int)) (hx_27 : ∀ (i5 : Int) (σ : MS) , (WT T σ) → (FrC T [] σ0 σ) → (0 ≤ i5 ∧ i5 ≤ 2147483647) → Tn (d + 2) m_J7_fill_bad5a 27 T σ [(0, .ref rx0), (2, .int (iI c2)), (3, .long (j3)), (5, .int (iI i5))] [] post) : ∀ (n : Nat) (i5 : Int) (σ : MS) , (WT T σ) → (FrC T [] σ0 σ) → (0 ≤ i5 ∧ i5 ≤ 2147483647) → (2147483700 - i5).toNat = n → Tn (d + 2) m_J7_fill_bad5a 10 T σ [(0, .ref rx0), (2, .int (iI c2)), (3, .long (j3)), (5, .int (iI i5))] [] post := by
  intro n
  induction n using Nat.strongRecOn with
  | _ n ih =>
    intro i5 σ hw hF r_i5 hm
    refine tn_iload dJ7_fill_bad5a_10 3 rfl ?_
    refine tn_iload_n dJ7_fill_bad5a_12 rfl 1 rfl ?_
    refine tn_icmp_ge (tgt := 27) dJ7_fill_bad5a_13 (by decide) ⟨by omega, by omega⟩ ⟨by omega, by omega⟩ (fun h1 => ?_) (fun h1 => ?_)
    · exact tn_sub [0, 1, 2, 3] rfl (hx_27 (i5) σ hw (FrC.rfl.trans (FrC.sub hF (by decide))) (by omega))
    · refine tn_aload_n dJ7_fill_bad5a_16 rfl 0 rfl ?_
      refine tn_iload dJ7_fill_bad5a_17 3 rfl ?_
      refine tn_lload_n dJ7_fill_bad5a_19 rfl 2 rfl ?_
      refine tn_last (z := i5) (v := j3) dJ7_fill_bad5a_20 h_rx0 (by omega) (by omega) (by omega) ?_
      refine tn_iinc (q0 := 3) (L' := [(5, .int (iI (i5 + 1))), (0, .ref rx0), (2, .int (iI c2)), (3, .long (j3))]) dJ7_fill_bad5a_21 rfl (by decide) rfl ?_
      refine tn_goto (tgt := 10) dJ7_fill_bad5a_24 (by decide) ?_
      exact tn_sub [1, 2, 3, 0] rfl (ih _ (by omega) (i5 + 1) (sJ rx0 (i5) (j3) σ) (hw.lng) ((FrC.rfl.trans (FrC.sub hF (by decide))).lng) (by omega) rfl)
theorem dJ7_fill_bad5a_27 : decode cJ7_fill_bad5a 27 = .ok (.return_, 1) := by decide +kernel
set_option maxRecDepth 20000 in
theorem k_J7_fill_bad5a (d : Nat) {T : CT} {σ : MS} {x : Nat} {f : Int} {t : Int} {w : Int64} (h_x : (T x).1 = 3) (l_x : (T x).2 ≤ 1000000) (h_f : -2147483648 ≤ f ∧ f ≤ 2147483647) (h_t : -2147483648 ≤ t ∧ t ≤ 2147483647) (hw : WT T σ) (hf : 0 ≤ f ∧ f ≤ t ∧ t ≤ ((T x).2 : Int)) : Tn (d + 2) m_J7_fill_bad5a 0 T σ [(0, .ref x), (1, .int (iI f)), (2, .int (iI t)), (3, .long (w))] [] (fun ro T2 σ2 => ro = none ∧ T = T2 ∧ WT T2 σ2 ∧ FrC T [] σ σ2) := by
  refine tn_aload_n dJ7_fill_bad5a_0 rfl 0 rfl ?_
  refine tn_alenX dJ7_fill_bad5a_1 (Or.inr (Or.inr (Or.inl h_x))) ?_
  refine tn_iload_n dJ7_fill_bad5a_2 rfl 1 rfl ?_
  refine tn_iload_n dJ7_fill_bad5a_3 rfl 2 rfl ?_
  refine tn_callS (M := m_J7_fill_bad5a) (pc := 4) (ix := 13) (M' := m_J7_rangeCheck_23922) (As := [.int (iI (((T x).2 : Int))), .int (iI f), .int (iI t)]) (rest := []) dJ7_fill_bad5a_4 ok_J7_rangeCheck_23922 stt_J7_rangeCheck_23922 mlJ7_13 np_J7_rangeCheck_23922 rfl (Nat.le_of_ble_eq_true rfl) (Nat.le_of_ble_eq_true rfl) rfl (k_J7_rangeCheck_23922 (d) (T := T) (σ := σ) (n := ((T x).2 : Int)) (f := f) (t := t) (by omega) (by omega) (by omega) hw (by omega)) (fun r1 T3 σ2 gt4 hp => ?_)
  obtain ⟨rfl, rfl, rfl⟩ := hp
  clear gt4
  show Tn _ _ 7 T σ [(0, .ref x), (1, .int (iI f)), (2, .int (iI t)), (3, .long (w))] [] _
  refine tn_iload_n dJ7_fill_bad5a_7 rfl 1 rfl ?_
  refine tn_istore (L' := [(5, .int (iI f)), (0, .ref x), (1, .int (iI f)), (2, .int (iI t)), (3, .long (w))]) dJ7_fill_bad5a_8 (by decide) rfl ?_
  refine tn_sub [1, 3, 4, 0] rfl (l_J7_fill_bad5a_10 (d) (T := T) (σ0 := σ) (rx0 := x) (c2 := t) (j3 := w) h_x (by omega) (by omega) hw (by omega) (fun i56 σ7 w10 F11 r12 => ?_) _ (f) σ hw FrC.rfl (by omega) rfl)
  show Tn _ _ 27 T σ7 [(0, .ref x), (2, .int (iI t)), (3, .long (w)), (5, .int (iI i56))] [] _
  exact tn_vret rfl dJ7_fill_bad5a_27 ⟨rfl, rfl, w10, (FrC.rfl.trans (FrC.sub F11 (by decide)))⟩
theorem cd_X11_clear : Cond.code yX11_clear cX11_clear 2 none ∈ pWW := pw5 (List.mem_of_getElem? (i := 28) rfl) rfl
abbrev m_X11_clear : MT := (yX11_clear, cX11_clear, 2, none)
theorem ok_X11_clear : pOk m_X11_clear := ⟨⟨cd_X11_clear, ini_11⟩, by decide +kernel, ⟨by decide +kernel, by decide +kernel⟩, Nat.le_of_ble_eq_true rfl⟩
theorem np_X11_clear : (parseMethodDescriptor yX11_clear.desc).map (fun d => d.parameters.length) = some 2 := by decide +kernel
theorem stt_X11_clear : Cond.static yX11_clear ∈ pWW := pw5 (List.mem_of_getElem? (i := 27) rfl) rfl
theorem mlm11_110 : Cond.methodLink RX11 110 Lib.Math.min.name ∈ pWW := pw4 (List.mem_of_getElem? (i := 15) rfl) rfl
theorem mlm11_323 : Cond.methodLink RX11 323 Lib.Math.max.name ∈ pWW := pw5 (List.mem_of_getElem? (i := 29) rfl) rfl
theorem ml11_326 : Cond.methodLink RX11 326 yJ7_fill_bad5a ∈ pWW := pw5 (List.mem_of_getElem? (i := 30) rfl) rfl
theorem dX11_clear_0 : decode cX11_clear 0 = .ok (.aload_n 0, 1) := by decide +kernel
theorem dX11_clear_1 : decode cX11_clear 1 = .ok (.iconst 0, 1) := by decide +kernel
theorem dX11_clear_2 : decode cX11_clear 2 = .ok (.iconst 0, 1) := by decide +kernel
theorem dX11_clear_3 : decode cX11_clear 3 = .ok (.iload_n 1, 1) := by decide +kernel
theorem dX11_clear_4 : decode cX11_clear 4 = .ok (.aload_n 0, 1) := by decide +kernel
theorem dX11_clear_5 : decode cX11_clear 5 = .ok (.arraylength, 1) := by decide +kernel
theorem dX11_clear_6 : decode cX11_clear 6 = .ok (.invokestatic 110, 3) := by decide +kernel
theorem dX11_clear_9 : decode cX11_clear 9 = .ok (.invokestatic 323, 3) := by decide +kernel
theorem dX11_clear_12 : decode cX11_clear 12 = .ok (.lconst 0, 1) := by decide +kernel
theorem dX11_clear_13 : decode cX11_clear 13 = .ok (.invokestatic 326, 3) := by decide +kernel
theorem dX11_clear_16 : decode cX11_clear 16 = .ok (.return_, 1) := by decide +kernel
set_option maxRecDepth 20000 in
theorem k_X11_clear (d : Nat) {T : CT} {σ : MS} {x : Nat} {n : Int} (h_x : (T x).1 = 3) (l_x : (T x).2 ≤ 1000000) (h_n : -2147483648 ≤ n ∧ n ≤ 2147483647) (hw : WT T σ) : Tn (d + 3) m_X11_clear 0 T σ [(0, .ref x), (1, .int (iI n))] [] (fun ro T2 σ2 => ro = none ∧ T = T2 ∧ WT T2 σ2 ∧ FrC T [] σ σ2) := by
  refine tn_aload_n dX11_clear_0 rfl 0 rfl ?_
  refine tn_iconst dX11_clear_1 ?_
  refine tn_iconst dX11_clear_2 ?_
  refine tn_iload_n dX11_clear_3 rfl 1 rfl ?_
  refine tn_aload_n dX11_clear_4 rfl 0 rfl ?_
  refine tn_alenX dX11_clear_5 (Or.inr (Or.inr (Or.inl h_x))) ?_
  refine tn_mmin (x := n) (y := ((T x).2 : Int)) dX11_clear_6 mlm11_110 stM_min iniM cdM_min (by omega) (Nat.le_of_ble_eq_true rfl) ⟨by omega, by omega⟩ ⟨by omega, by omega⟩ (fun z1 g2 => ?_)
  refine tn_mmax (x := 0) (y := z1) dX11_clear_9 mlm11_323 stM_max iniM cdM_max (by omega) (Nat.le_of_ble_eq_true rfl) ⟨by omega, by omega⟩ ⟨by omega, by omega⟩ (fun z3 g4 => ?_)
  refine tn_lconst (v := 0) dX11_clear_12 rfl ?_
  refine tn_callS (M := m_X11_clear) (pc := 13) (ix := 326) (M' := m_J7_fill_bad5a) (As := [.ref x, .int (iI 0), .int (iI z3), .long (0)]) (rest := []) dX11_clear_13 ok_J7_fill_bad5a stt_J7_fill_bad5a ml11_326 np_J7_fill_bad5a rfl (Nat.le_of_ble_eq_true rfl) (Nat.le_of_ble_eq_true rfl) rfl (k_J7_fill_bad5a (d) (T := T) (σ := σ) (x := x) (f := 0) (t := z3) (w := 0) h_x (by omega) (by decide) (by omega) hw (by omega)) (fun r5 T7 σ6 gt8 hp => ?_)
  obtain ⟨rfl, rfl, w10, F11⟩ := hp
  clear gt8
  show Tn _ _ 16 T σ6 [(0, .ref x), (1, .int (iI n))] [] _
  exact tn_vret rfl dX11_clear_16 ⟨rfl, rfl, w10, (FrC.rfl.trans (FrC.sub F11 (by decide)))⟩
theorem cd_X11_tapeNumber : Cond.code yX11_tapeNumber cX11_tapeNumber 3 none ∈ pWW := pw3 (List.mem_of_getElem? (i := 12) rfl) rfl
abbrev m_X11_tapeNumber : MT := (yX11_tapeNumber, cX11_tapeNumber, 3, none)
theorem ok_X11_tapeNumber : pOk m_X11_tapeNumber := ⟨⟨cd_X11_tapeNumber, ini_11⟩, by decide +kernel, ⟨by decide +kernel, by decide +kernel⟩, Nat.le_of_ble_eq_true rfl⟩
theorem np_X11_tapeNumber : (parseMethodDescriptor yX11_tapeNumber.desc).map (fun d => d.parameters.length) = some 1 := by decide +kernel
theorem im_X11_tapeNumber : Cond.instanceMethod yX11_tapeNumber ∈ pWW := pw3 (List.mem_of_getElem? (i := 11) rfl) rfl
theorem se_X11_tapeNumber : Cond.selects RX11 yX11_tapeNumber yX11_tapeNumber ∈ pWW := pws (List.mem_map.mpr ⟨_, lw_pin 0 rfl, rfl⟩) rfl
theorem fl11_87 : Cond.fieldLink RX11 87 (TX11 1).1 (TX11 1).2.1 (TX11 1).2.2.1 ∈ pWW := pw2 (List.mem_of_getElem? (i := 197) rfl) rfl
theorem fl11_9 : Cond.fieldLink RX11 9 (TX11 0).1 (TX11 0).2.1 (TX11 0).2.2.1 ∈ pWW := pw2 (List.mem_of_getElem? (i := 196) rfl) rfl
theorem dX11_tapeNumber_0 : decode cX11_tapeNumber 0 = .ok (.bipush 24, 2) := by decide +kernel
theorem dX11_tapeNumber_2 : decode cX11_tapeNumber 2 = .ok (.istore_n 2, 1) := by decide +kernel
theorem dX11_tapeNumber_3 : decode cX11_tapeNumber 3 = .ok (.iload_n 2, 1) := by decide +kernel
theorem dX11_tapeNumber_4 : decode cX11_tapeNumber 4 = .ok (.ifCond .lt 51, 3) := by decide +kernel
theorem dX11_tapeNumber_7 : decode cX11_tapeNumber 7 = .ok (.aload_n 0, 1) := by decide +kernel
theorem dX11_tapeNumber_8 : decode cX11_tapeNumber 8 = .ok (.getfield 87, 3) := by decide +kernel
theorem dX11_tapeNumber_11 : decode cX11_tapeNumber 11 = .ok (.ifCond .lt 38, 3) := by decide +kernel
theorem dX11_tapeNumber_14 : decode cX11_tapeNumber 14 = .ok (.aload_n 0, 1) := by decide +kernel
theorem dX11_tapeNumber_15 : decode cX11_tapeNumber 15 = .ok (.getfield 87, 3) := by decide +kernel
theorem dX11_tapeNumber_18 : decode cX11_tapeNumber 18 = .ok (.aload_n 0, 1) := by decide +kernel
theorem dX11_tapeNumber_19 : decode cX11_tapeNumber 19 = .ok (.getfield 9, 3) := by decide +kernel
theorem dX11_tapeNumber_22 : decode cX11_tapeNumber 22 = .ok (.arraylength, 1) := by decide +kernel
theorem dX11_tapeNumber_23 : decode cX11_tapeNumber 23 = .ok (.if_icmp .ge 26, 3) := by decide +kernel
theorem dX11_tapeNumber_49 : decode cX11_tapeNumber 49 = .ok (.iinc 2 (-8), 3) := by decide +kernel
theorem dX11_tapeNumber_52 : decode cX11_tapeNumber 52 = .ok (.goto (-49), 3) := by decide +kernel
theorem dX11_tapeNumber_26 : decode cX11_tapeNumber 26 = .ok (.aload_n 0, 1) := by decide +kernel
theorem dX11_tapeNumber_27 : decode cX11_tapeNumber 27 = .ok (.getfield 9, 3) := by decide +kernel
theorem dX11_tapeNumber_30 : decode cX11_tapeNumber 30 = .ok (.aload_n 0, 1) := by decide +kernel
theorem dX11_tapeNumber_31 : decode cX11_tapeNumber 31 = .ok (.getfield 87, 3) := by decide +kernel
theorem dX11_tapeNumber_34 : decode cX11_tapeNumber 34 = .ok (.iload_n 1, 1) := by decide +kernel
theorem dX11_tapeNumber_35 : decode cX11_tapeNumber 35 = .ok (.iload_n 2, 1) := by decide +kernel
theorem dX11_tapeNumber_36 : decode cX11_tapeNumber 36 = .ok (.iushr, 1) := by decide +kernel
theorem dX11_tapeNumber_37 : decode cX11_tapeNumber 37 = .ok (.i2b, 1) := by decide +kernel
theorem dX11_tapeNumber_38 : decode cX11_tapeNumber 38 = .ok (.bastore, 1) := by decide +kernel
theorem dX11_tapeNumber_39 : decode cX11_tapeNumber 39 = .ok (.aload_n 0, 1) := by decide +kernel
theorem dX11_tapeNumber_40 : decode cX11_tapeNumber 40 = .ok (.dup, 1) := by decide +kernel
theorem dX11_tapeNumber_41 : decode cX11_tapeNumber 41 = .ok (.getfield 87, 3) := by decide +kernel
theorem dX11_tapeNumber_44 : decode cX11_tapeNumber 44 = .ok (.iconst 1, 1) := by decide +kernel
theorem dX11_tapeNumber_45 : decode cX11_tapeNumber 45 = .ok (.iadd, 1) := by decide +kernel
theorem dX11_tapeNumber_46 : decode cX11_tapeNumber 46 = .ok (.putfield 87, 3) := by decide +kernel
set_option maxRecDepth 20000 in
theorem l_X11_tapeNumber_3 (d : Nat) {T : CT} {σ0 : MS} {a : Nat} {c1 : Int} {post : Option Value → CT → MS → Prop} (h_a : OB T a 11) (r_c1 : -2147483648 ≤ c1 ∧ c1 ≤ 2147483647) (hw0 : WT T σ0) (hx_55 : ∀ (i2 : Int) (σ : MS) , (WT T σ) → (FrC T [96, 502] σ0 σ) → (-8 ≤ i2 ∧ i2 ≤ 24) → Tn (d + 1) m_X11_tapeNumber 55 T σ [(0, .ref a), (1, .int (iI c1)), (2, .int (iI i2))] [] post) : ∀ (n : Nat) (i2 : Int) (σ : MS) , (WT T σ) → (FrC T [96, 502] σ0 σ) → (-8 ≤ i2 ∧ i2 ≤ 24) → (i2 + 20).toNat = n → Tn (d + 1) m_X11_tapeNumber 3 T σ [(0, .ref a), (1, .int (iI c1)), (2, .int (iI i2))] [] post := by
  intro n
  induction n using Nat.strongRecOn with
  | _ n ih =>
    intro i2 σ hw hF r_i2 hm
    refine tn_iload_n dX11_tapeNumber_3 rfl 2 rfl ?_
    refine tn_if_lt (tgt := 55) dX11_tapeNumber_4 (by decide) ⟨by omega, by omega⟩ (fun h1 => ?_) (fun h1 => ?_)
    · exact tn_sub [0, 1, 2] rfl (hx_55 (i2) σ hw (FrC.rfl.trans (FrC.sub hF (by decide))) (by omega))
    · refine tn_aload_n dX11_tapeNumber_7 rfl 0 rfl ?_
      refine tn_getI (ci := 11) (i := 1) (n := 96) (t := σ.2.1 96 a) dX11_tapeNumber_8 rfl lay_11 (by decide) fl11_87 h_a rfl rfl (rfl) ?_
      have g2 : ((0 : Int) ≤ σ.2.1 96 a ∧ σ.2.1 96 a ≤ 1200) := wf_96 hw h_a
      refine tn_if_lt (tgt := 49) dX11_tapeNumber_11 (by decide) ⟨by omega, by omega⟩ (fun h3 => absurd h3 (by omega)) (fun h3 => ?_)
      refine tn_aload_n dX11_tapeNumber_14 rfl 0 rfl ?_
      refine tn_getI (ci := 11) (i := 1) (n := 96) (t := σ.2.1 96 a) dX11_tapeNumber_15 rfl lay_11 (by decide) fl11_87 h_a rfl rfl (rfl) ?_
      refine tn_aload_n dX11_tapeNumber_18 rfl 0 rfl ?_
      obtain ⟨x4, hx5, hk6, hl7⟩ : ∃ x : Nat, σ0.2.1 95 a = (x : Int) ∧ AR T x 2 1200 1200 := wf_95 hw0 h_a
      refine tn_getR (ci := 11) (i := 0) (n := 95) (x := x4) dX11_tapeNumber_19 rfl lay_11 (by decide) fl11_9 h_a rfl rfl (rc_F hF (Or.inl (by decide)) (by decide) (hx5)) ?_
      refine tn_alenX dX11_tapeNumber_22 (Or.inr (Or.inl hk6)) ?_
      refine tn_icmp_ge (tgt := 49) dX11_tapeNumber_23 (by decide) ⟨by omega, by omega⟩ ⟨by omega, by omega⟩ (fun h8 => ?_) (fun h8 => ?_)
      · refine tn_iinc (q0 := 2) (L' := [(2, .int (iI (i2 + (-8)))), (0, .ref a), (1, .int (iI c1))]) dX11_tapeNumber_49 rfl (by decide) rfl ?_
        refine tn_goto (tgt := 3) dX11_tapeNumber_52 (by decide) ?_
        exact tn_sub [1, 2, 0] rfl (ih _ (by omega) (i2 + (-8)) σ hw (FrC.rfl.trans (FrC.sub hF (by decide))) (by omega) rfl)
      · refine tn_aload_n dX11_tapeNumber_26 rfl 0 rfl ?_
        refine tn_getR (ci := 11) (i := 0) (n := 95) (x := x4) dX11_tapeNumber_27 rfl lay_11 (by decide) fl11_9 h_a rfl rfl (rc_F hF (Or.inl (by decide)) (by decide) (hx5)) ?_
        refine tn_aload_n dX11_tapeNumber_30 rfl 0 rfl ?_
        refine tn_getI (ci := 11) (i := 1) (n := 96) (t := σ.2.1 96 a) dX11_tapeNumber_31 rfl lay_11 (by decide) fl11_87 h_a rfl rfl (rfl) ?_
        refine tn_iload_n dX11_tapeNumber_34 rfl 1 rfl ?_
        refine tn_iload_n dX11_tapeNumber_35 rfl 2 rfl ?_
        refine tn_iushr dX11_tapeNumber_36 ?_
        refine tn_anyI (fun z9 g10 => ?_)
        have g10r : -2147483648 ≤ z9 ∧ z9 ≤ 2147483647 := g10
        refine tn_i2b dX11_tapeNumber_37 ?_
        refine tn_anyI (fun z11 g12 => ?_)
        have g12r : -2147483648 ≤ z11 ∧ z11 ≤ 2147483647 := g12
        obtain ⟨v13, g14, g14e⟩ := nar_b (iI (z11))
        refine tn_bast (z := σ.2.1 96 a) (v := v13) dX11_tapeNumber_38 hk6 (by omega) (by omega) (by omega) g14e ?_
        refine tn_aload_n dX11_tapeNumber_39 rfl 0 rfl ?_
        refine tn_dup dX11_tapeNumber_40 rfl ?_
        refine tn_getI (ci := 11) (i := 1) (n := 96) (t := σ.2.1 96 a) dX11_tapeNumber_41 rfl lay_11 (by decide) fl11_87 h_a rfl rfl (rc_a (Or.inl (by decide)) (rfl)) ?_
        refine tn_iconst dX11_tapeNumber_44 ?_
        refine tn_iadd dX11_tapeNumber_45 ?_
        refine tn_putV (ci := 11) (i := 1) (n := 96) (r := false) (v := (σ.2.1 96 a) + 1) tyX11 tyX11_ok nmX11 dX11_tapeNumber_46 rfl lay_11 (by decide) fl11_87 rfl (tyX11_ok 1 (by decide)) rfl rfl rfl h_a rfl rfl ?_
        refine tn_iinc (q0 := 2) (L' := [(2, .int (iI (i2 + (-8)))), (0, .ref a), (1, .int (iI c1))]) dX11_tapeNumber_49 rfl (by decide) rfl ?_
        refine tn_goto (tgt := 3) dX11_tapeNumber_52 (by decide) ?_
        exact tn_sub [1, 2, 0] rfl (ih _ (by omega) (i2 + (-8)) (sA 96 a ((σ.2.1 96 a) + 1) (sA (1000 + x4) (σ.2.1 96 a) (v13) σ)) ((hw.arr (Or.inr hk6) (vok_1 (Or.inr (Or.inr hk6)) g14)).put (by decide) (by decide) (fo_96 (by omega))) (((FrC.rfl.trans (FrC.sub hF (by decide))).arr (hk_in hk6 (by decide))).put (by decide) (by decide)) (by omega) rfl)
theorem dX11_tapeNumber_55 : decode cX11_tapeNumber 55 = .ok (.return_, 1) := by decide +kernel
set_option maxRecDepth 20000 in
theorem k_X11_tapeNumber (d : Nat) {T : CT} {σ : MS} {a : Nat} {n : Int} (ha : OB T a 11) (h_n : -2147483648 ≤ n ∧ n ≤ 2147483647) (hw : WT T σ) : Tn (d + 1) m_X11_tapeNumber 0 T σ [(0, .ref a), (1, .int (iI n))] [] (fun ro T2 σ2 => ro = none ∧ T = T2 ∧ WT T2 σ2 ∧ FrC T [96, 502] σ σ2) := by
  refine tn_bipush dX11_tapeNumber_0 (by decide) ?_
  refine tn_istore_n (L' := [(2, .int (iI 24)), (0, .ref a), (1, .int (iI n))]) dX11_tapeNumber_2 rfl (by decide) rfl ?_
  refine tn_sub [1, 2, 0] rfl (l_X11_tapeNumber_3 (d) (T := T) (σ0 := σ) (a := a) (c1 := n) ha (by omega) hw (fun i21 σ2 w5 F6 r7 => ?_) _ (24) σ hw FrC.rfl (by omega) rfl)
  show Tn _ _ 55 T σ2 [(0, .ref a), (1, .int (iI n)), (2, .int (iI i21))] [] _
  exact tn_vret rfl dX11_tapeNumber_55 ⟨rfl, rfl, w5, (FrC.rfl.trans (FrC.sub F6 (by decide)))⟩
end
section
theorem cd_X1_empty : Cond.code yX1_empty cX1_empty 2 none ∈ pWW := pw3 (List.mem_of_getElem? (i := 89) rfl) rfl
theorem ini_1 : Cond.initialized RX1 ∈ pWW := pw1 (List.mem_of_getElem? (i := 4) rfl) rfl
abbrev m_X1_empty : MT := (yX1_empty, cX1_empty, 2, none)
theorem ok_X1_empty : pOk m_X1_empty := ⟨⟨cd_X1_empty, ini_1⟩, by decide +kernel, ⟨by decide +kernel, by decide +kernel⟩, Nat.le_of_ble_eq_true rfl⟩
theorem np_X1_empty : (parseMethodDescriptor yX1_empty.desc).map (fun d => d.parameters.length) = some 1 := by decide +kernel
theorem im_X1_empty : Cond.instanceMethod yX1_empty ∈ pWW := pw3 (List.mem_of_getElem? (i := 87) rfl) rfl
theorem se_X1_empty : Cond.selects RX1 yX1_empty yX1_empty ∈ pWW := pw3 (List.mem_of_getElem? (i := 88) rfl) rfl
theorem fl1_33 : Cond.fieldLink RX1 33 (TX1 1).1 (TX1 1).2.1 (TX1 1).2.2.1 ∈ pWW := pw1 (List.mem_of_getElem? (i := 78) rfl) rfl
theorem fl1_37 : Cond.fieldLink RX1 37 (TX1 2).1 (TX1 2).2.1 (TX1 2).2.2.1 ∈ pWW := pw1 (List.mem_of_getElem? (i := 87) rfl) rfl
theorem fl1_40 : Cond.fieldLink RX1 40 (TX1 3).1 (TX1 3).2.1 (TX1 3).2.2.1 ∈ pWW := pw1 (List.mem_of_getElem? (i := 92) rfl) rfl
theorem fl1_43 : Cond.fieldLink RX1 43 (TX1 4).1 (TX1 4).2.1 (TX1 4).2.2.1 ∈ pWW := pw1 (List.mem_of_getElem? (i := 99) rfl) rfl
theorem fl1_46 : Cond.fieldLink RX1 46 (TX1 5).1 (TX1 5).2.1 (TX1 5).2.2.1 ∈ pWW := pw1 (List.mem_of_getElem? (i := 102) rfl) rfl
theorem fl1_15 : Cond.fieldLink RX1 15 (TX1 6).1 (TX1 6).2.1 (TX1 6).2.2.1 ∈ pWW := pw1 (List.mem_of_getElem? (i := 107) rfl) rfl
theorem nl1_49 : (RX1, 49, yX11_put, "LineKeeper") ∈ nst_M := List.mem_of_getElem? (i := 8) rfl
theorem fl1_18 : Cond.fieldLink RX1 18 (TX1 7).1 (TX1 7).2.1 (TX1 7).2.2.1 ∈ pWW := pw1 (List.mem_of_getElem? (i := 111) rfl) rfl
theorem fl1_21 : Cond.fieldLink RX1 21 (TX1 8).1 (TX1 8).2.1 (TX1 8).2.2.1 ∈ pWW := pw1 (List.mem_of_getElem? (i := 115) rfl) rfl
theorem fl1_24 : Cond.fieldLink RX1 24 (TX1 9).1 (TX1 9).2.1 (TX1 9).2.2.1 ∈ pWW := pw1 (List.mem_of_getElem? (i := 118) rfl) rfl
theorem dX1_empty_0 : decode cX1_empty 0 = .ok (.aload_n 0, 1) := by decide +kernel
theorem dX1_empty_1 : decode cX1_empty 1 = .ok (.iconst 0, 1) := by decide +kernel
theorem dX1_empty_2 : decode cX1_empty 2 = .ok (.putfield 33, 3) := by decide +kernel
theorem dX1_empty_5 : decode cX1_empty 5 = .ok (.aload_n 0, 1) := by decide +kernel
theorem dX1_empty_6 : decode cX1_empty 6 = .ok (.iconst 0, 1) := by decide +kernel
theorem dX1_empty_7 : decode cX1_empty 7 = .ok (.putfield 37, 3) := by decide +kernel
theorem dX1_empty_10 : decode cX1_empty 10 = .ok (.aload_n 0, 1) := by decide +kernel
theorem dX1_empty_11 : decode cX1_empty 11 = .ok (.iconst 0, 1) := by decide +kernel
theorem dX1_empty_12 : decode cX1_empty 12 = .ok (.putfield 40, 3) := by decide +kernel
theorem dX1_empty_15 : decode cX1_empty 15 = .ok (.aload_n 0, 1) := by decide +kernel
theorem dX1_empty_16 : decode cX1_empty 16 = .ok (.iconst 0, 1) := by decide +kernel
theorem dX1_empty_17 : decode cX1_empty 17 = .ok (.putfield 43, 3) := by decide +kernel
theorem dX1_empty_20 : decode cX1_empty 20 = .ok (.aload_n 0, 1) := by decide +kernel
theorem dX1_empty_21 : decode cX1_empty 21 = .ok (.iconst 1, 1) := by decide +kernel
theorem dX1_empty_22 : decode cX1_empty 22 = .ok (.putfield 46, 3) := by decide +kernel
theorem dX1_empty_25 : decode cX1_empty 25 = .ok (.aload_n 0, 1) := by decide +kernel
theorem dX1_empty_26 : decode cX1_empty 26 = .ok (.getfield 15, 3) := by decide +kernel
theorem dX1_empty_29 : decode cX1_empty 29 = .ok (.iconst 0, 1) := by decide +kernel
theorem dX1_empty_30 : decode cX1_empty 30 = .ok (.iload_n 1, 1) := by decide +kernel
theorem dX1_empty_31 : decode cX1_empty 31 = .ok (.invokestatic 49, 3) := by decide +kernel
theorem dX1_empty_34 : decode cX1_empty 34 = .ok (.aload_n 0, 1) := by decide +kernel
theorem dX1_empty_35 : decode cX1_empty 35 = .ok (.getfield 18, 3) := by decide +kernel
theorem dX1_empty_38 : decode cX1_empty 38 = .ok (.iconst 0, 1) := by decide +kernel
theorem dX1_empty_39 : decode cX1_empty 39 = .ok (.iconst (-1), 1) := by decide +kernel
theorem dX1_empty_40 : decode cX1_empty 40 = .ok (.invokestatic 49, 3) := by decide +kernel
theorem dX1_empty_43 : decode cX1_empty 43 = .ok (.aload_n 0, 1) := by decide +kernel
theorem dX1_empty_44 : decode cX1_empty 44 = .ok (.getfield 21, 3) := by decide +kernel
theorem dX1_empty_47 : decode cX1_empty 47 = .ok (.iconst 0, 1) := by decide +kernel
theorem dX1_empty_48 : decode cX1_empty 48 = .ok (.iconst 0, 1) := by decide +kernel
theorem dX1_empty_49 : decode cX1_empty 49 = .ok (.invokestatic 49, 3) := by decide +kernel
theorem dX1_empty_52 : decode cX1_empty 52 = .ok (.aload_n 0, 1) := by decide +kernel
theorem dX1_empty_53 : decode cX1_empty 53 = .ok (.getfield 24, 3) := by decide +kernel
theorem dX1_empty_56 : decode cX1_empty 56 = .ok (.iconst 0, 1) := by decide +kernel
theorem dX1_empty_57 : decode cX1_empty 57 = .ok (.iconst 0, 1) := by decide +kernel
theorem dX1_empty_58 : decode cX1_empty 58 = .ok (.invokestatic 49, 3) := by decide +kernel
theorem dX1_empty_61 : decode cX1_empty 61 = .ok (.return_, 1) := by decide +kernel
set_option maxRecDepth 20000 in
theorem k_X1_empty (d : Nat) {T : CT} {σ : MS} {a : Nat} {r : Int} (ha : OB T a 1) (h_r : -2147483648 ≤ r ∧ r ≤ 2147483647) (hw : WT T σ) : Tn (d + 2) m_X1_empty 0 T σ [(0, .ref a), (1, .int (iI r))] [] (fun ro T2 σ2 => ro = none ∧ T = T2 ∧ WT T2 σ2 ∧ FrC T [6, 7, 8, 9, 10] σ σ2 ∧ (σ2.2.1 6 a = 0)) := by
  refine tn_aload_n dX1_empty_0 rfl 0 rfl ?_
  refine tn_iconst dX1_empty_1 ?_
  obtain ⟨x1, hx2, hl4, hk3a, hk3b⟩ := wf_5 hw ha
  have hk3i : IA T x1 := by unfold IA; omega
  have hk3c : CELL T a x1 := ⟨hk3a, hk3b⟩
  clear hk3a hk3b
  refine tn_putV (ci := 1) (i := 1) (n := 6) (r := false) (v := 0) tyX1 tyX1_ok nmX1 dX1_empty_2 rfl lay_1 (by decide) fl1_33 rfl (tyX1_ok 1 (by decide)) rfl rfl rfl ha rfl rfl ?_
  refine tn_aload_n dX1_empty_5 rfl 0 rfl ?_
  refine tn_iconst dX1_empty_6 ?_
  refine tn_putV (ci := 1) (i := 2) (n := 7) (r := false) (v := 0) tyX1 tyX1_ok nmX1 dX1_empty_7 rfl lay_1 (by decide) fl1_37 rfl (tyX1_ok 2 (by decide)) rfl rfl rfl ha rfl rfl ?_
  refine tn_aload_n dX1_empty_10 rfl 0 rfl ?_
  refine tn_iconst dX1_empty_11 ?_
  refine tn_putV (ci := 1) (i := 3) (n := 8) (r := false) (v := 0) tyX1 tyX1_ok nmX1 dX1_empty_12 rfl lay_1 (by decide) fl1_40 rfl (tyX1_ok 3 (by decide)) rfl rfl rfl ha rfl rfl ?_
  refine tn_aload_n dX1_empty_15 rfl 0 rfl ?_
  refine tn_iconst dX1_empty_16 ?_
  refine tn_putV (ci := 1) (i := 4) (n := 9) (r := false) (v := 0) tyX1 tyX1_ok nmX1 dX1_empty_17 rfl lay_1 (by decide) fl1_43 rfl (tyX1_ok 4 (by decide)) rfl rfl rfl ha rfl rfl ?_
  refine tn_aload_n dX1_empty_20 rfl 0 rfl ?_
  refine tn_iconst dX1_empty_21 ?_
  refine tn_putV (ci := 1) (i := 5) (n := 10) (r := false) (v := 1) tyX1 tyX1_ok nmX1 dX1_empty_22 rfl lay_1 (by decide) fl1_46 rfl (tyX1_ok 5 (by decide)) rfl rfl rfl ha rfl rfl ?_
  refine tn_aload_n dX1_empty_25 rfl 0 rfl ?_
  obtain ⟨x5, hx6, hk7, hl8⟩ : ∃ x : Nat, σ.2.1 11 a = (x : Int) ∧ AR T x 1 12 12 := wf_11 hw ha
  have hk7i : IA T x5 := by unfold IA; omega
  refine tn_getR (ci := 1) (i := 6) (n := 11) (x := x5) dX1_empty_26 rfl lay_1 (by decide) fl1_15 ha rfl rfl (rc_o (by decide) (rc_o (by decide) (rc_o (by decide) (rc_o (by decide) (rc_o (by decide) (hx6)))))) ?_
  refine tn_iconst dX1_empty_29 ?_
  refine tn_iload_n dX1_empty_30 rfl 1 rfl ?_
  refine tn_callSN (M := m_X1_empty) (pc := 31) (ix := 49) (M' := m_X11_put) (As := [.ref x5, .int (iI 0), .int (iI r)]) (rest := []) dX1_empty_31 ok_X11_put stt_X11_put nl1_49 np_X11_put rfl (Nat.le_of_ble_eq_true rfl) (Nat.le_of_ble_eq_true rfl) rfl (k_X11_put (d) (T := T) (σ := (sA 10 a (1) (sA 9 a (0) (sA 8 a (0) (sA 7 a (0) (sA 6 a (0) σ)))))) (x := x5) (i := 0) (y := r) hk7i (by omega) (by decide) (by omega) (((((hw.put6 (hx2) (fo_6 ⟨by omega, by omega⟩) (Or.inl (by omega))).put (by decide) (by decide) (fo_7 (by omega))).put (by decide) (by decide) (fo_8 (by omega))).put (by decide) (by decide) (fo_9 (by omega))).put (by decide) (by decide) (fo_10 (by omega))) (nh_k hk7 (by unfold HT; omega)) (vok_1 (by have q9 := hk7; omega) (by omega))) (fun r9 T11 σ10 gt12 hp => ?_)
  obtain ⟨rfl, rfl, w14, F15⟩ := hp
  clear gt12
  show Tn _ _ 34 T σ10 [(0, .ref a), (1, .int (iI r))] [] _
  refine tn_aload_n dX1_empty_34 rfl 0 rfl ?_
  obtain ⟨x16, hx17, hk18, hl19⟩ : ∃ x : Nat, σ.2.1 12 a = (x : Int) ∧ AR T x 1 12 12 := wf_12 hw ha
  have hk18i : IA T x16 := by unfold IA; omega
  refine tn_getR (ci := 1) (i := 7) (n := 12) (x := x16) dX1_empty_35 rfl lay_1 (by decide) fl1_18 ha rfl rfl (rc_F F15 (Or.inl (by decide)) (by decide) (rc_o (by decide) (rc_o (by decide) (rc_o (by decide) (rc_o (by decide) (rc_o (by decide) (hx17))))))) ?_
  refine tn_iconst dX1_empty_38 ?_
  refine tn_iconst dX1_empty_39 ?_
  refine tn_callSN (M := m_X1_empty) (pc := 40) (ix := 49) (M' := m_X11_put) (As := [.ref x16, .int (iI 0), .int (iI (-1))]) (rest := []) dX1_empty_40 ok_X11_put stt_X11_put nl1_49 np_X11_put rfl (Nat.le_of_ble_eq_true rfl) (Nat.le_of_ble_eq_true rfl) rfl (k_X11_put (d) (T := T) (σ := σ10) (x := x16) (i := 0) (y := -1) hk18i (by omega) (by decide) (by decide) w14 (nh_k hk18 (by unfold HT; omega)) (vok_1 (by have q9 := hk18; omega) (by omega))) (fun r20 T22 σ21 gt23 hp => ?_)
  obtain ⟨rfl, rfl, w25, F26⟩ := hp
  clear gt23
  show Tn _ _ 43 T σ21 [(0, .ref a), (1, .int (iI r))] [] _
  refine tn_aload_n dX1_empty_43 rfl 0 rfl ?_
  obtain ⟨x27, hx28, hk29, hl30⟩ : ∃ x : Nat, σ.2.1 13 a = (x : Int) ∧ AR T x 1 12 12 := wf_13 hw ha
  have hk29i : IA T x27 := by unfold IA; omega
  refine tn_getR (ci := 1) (i := 8) (n := 13) (x := x27) dX1_empty_44 rfl lay_1 (by decide) fl1_21 ha rfl rfl (rc_F F26 (Or.inl (by decide)) (by decide) (rc_F F15 (Or.inl (by decide)) (by decide) (rc_o (by decide) (rc_o (by decide) (rc_o (by decide) (rc_o (by decide) (rc_o (by decide) (hx28)))))))) ?_
  refine tn_iconst dX1_empty_47 ?_
  refine tn_iconst dX1_empty_48 ?_
  refine tn_callSN (M := m_X1_empty) (pc := 49) (ix := 49) (M' := m_X11_put) (As := [.ref x27, .int (iI 0), .int (iI 0)]) (rest := []) dX1_empty_49 ok_X11_put stt_X11_put nl1_49 np_X11_put rfl (Nat.le_of_ble_eq_true rfl) (Nat.le_of_ble_eq_true rfl) rfl (k_X11_put (d) (T := T) (σ := σ21) (x := x27) (i := 0) (y := 0) hk29i (by omega) (by decide) (by decide) w25 (nh_k hk29 (by unfold HT; omega)) vok_0) (fun r31 T33 σ32 gt34 hp => ?_)
  obtain ⟨rfl, rfl, w36, F37⟩ := hp
  clear gt34
  show Tn _ _ 52 T σ32 [(0, .ref a), (1, .int (iI r))] [] _
  refine tn_aload_n dX1_empty_52 rfl 0 rfl ?_
  obtain ⟨x38, hx39, hk40, hl41⟩ : ∃ x : Nat, σ.2.1 14 a = (x : Int) ∧ AR T x 11 12 12 := wf_14 hw ha
  have hk40i : IA T x38 := by unfold IA; omega
  refine tn_getR (ci := 1) (i := 9) (n := 14) (x := x38) dX1_empty_53 rfl lay_1 (by decide) fl1_24 ha rfl rfl (rc_F F37 (Or.inl (by decide)) (by decide) (rc_F F26 (Or.inl (by decide)) (by decide) (rc_F F15 (Or.inl (by decide)) (by decide) (rc_o (by decide) (rc_o (by decide) (rc_o (by decide) (rc_o (by decide) (rc_o (by decide) (hx39))))))))) ?_
  refine tn_iconst dX1_empty_56 ?_
  refine tn_iconst dX1_empty_57 ?_
  refine tn_callSN (M := m_X1_empty) (pc := 58) (ix := 49) (M' := m_X11_put) (As := [.ref x38, .int (iI 0), .int (iI 0)]) (rest := []) dX1_empty_58 ok_X11_put stt_X11_put nl1_49 np_X11_put rfl (Nat.le_of_ble_eq_true rfl) (Nat.le_of_ble_eq_true rfl) rfl (k_X11_put (d) (T := T) (σ := σ32) (x := x38) (i := 0) (y := 0) hk40i (by omega) (by decide) (by decide) w36 (nh_k hk40 (by unfold HT; omega)) vok_0) (fun r42 T44 σ43 gt45 hp => ?_)
  obtain ⟨rfl, rfl, w47, F48⟩ := hp
  clear gt45
  show Tn _ _ 61 T σ43 [(0, .ref a), (1, .int (iI r))] [] _
  exact tn_vret rfl dX1_empty_61 ⟨rfl, rfl, w47, (((((((((FrC.rfl.put (by decide) (by decide)).put (by decide) (by decide)).put (by decide) (by decide)).put (by decide) (by decide)).put (by decide) (by decide)).trans (FrC.sub F15 (by decide))).trans (FrC.sub F26 (by decide))).trans (FrC.sub F37 (by decide))).trans (FrC.sub F48 (by decide))), rc_F F48 (Or.inl (by decide)) (by decide) (rc_F F37 (Or.inl (by decide)) (by decide) (rc_F F26 (Or.inl (by decide)) (by decide) (rc_F F15 (Or.inl (by decide)) (by decide) (rc_o (by decide) (rc_o (by decide) (rc_o (by decide) (rc_o (by decide) (ra_eq))))))))⟩
end
section
theorem cd_X1_get : Cond.code yX1_get cX1_get 4 (some .int) ∈ pWW := pw4 (List.mem_of_getElem? (i := 8) rfl) rfl
abbrev m_X1_get : MT := (yX1_get, cX1_get, 4, (some .int))
theorem ok_X1_get : pOk m_X1_get := ⟨⟨cd_X1_get, ini_1⟩, by decide +kernel, ⟨by decide +kernel, by decide +kernel⟩, Nat.le_of_ble_eq_true rfl⟩
theorem np_X1_get : (parseMethodDescriptor yX1_get.desc).map (fun d => d.parameters.length) = some 2 := by decide +kernel
theorem im_X1_get : Cond.instanceMethod yX1_get ∈ pWW := pw4 (List.mem_of_getElem? (i := 6) rfl) rfl
theorem se_X1_get : Cond.selects RX1 yX1_get yX1_get ∈ pWW := pw4 (List.mem_of_getElem? (i := 7) rfl) rfl
theorem fl1_9 : Cond.fieldLink RX1 9 (TX1 0).1 (TX1 0).2.1 (TX1 0).2.2.1 ∈ pWW := pw1 (List.mem_of_getElem? (i := 77) rfl) rfl
theorem dX1_get_0 : decode cX1_get 0 = .ok (.iload_n 1, 1) := by decide +kernel
theorem dX1_get_1 : decode cX1_get 1 = .ok (.bipush 13, 2) := by decide +kernel
theorem dX1_get_3 : decode cX1_get 3 = .ok (.imul, 1) := by decide +kernel
theorem dX1_get_4 : decode cX1_get 4 = .ok (.iload_n 2, 1) := by decide +kernel
theorem dX1_get_5 : decode cX1_get 5 = .ok (.iadd, 1) := by decide +kernel
theorem dX1_get_6 : decode cX1_get 6 = .ok (.istore_n 3, 1) := by decide +kernel
theorem dX1_get_7 : decode cX1_get 7 = .ok (.iload_n 1, 1) := by decide +kernel
theorem dX1_get_8 : decode cX1_get 8 = .ok (.ifCond .lt 33, 3) := by decide +kernel
theorem dX1_get_41 : decode cX1_get 41 = .ok (.iconst 0, 1) := by decide +kernel
theorem dX1_get_42 : decode cX1_get 42 = .ok (.ireturn, 1) := by decide +kernel
theorem dX1_get_11 : decode cX1_get 11 = .ok (.iload_n 1, 1) := by decide +kernel
theorem dX1_get_12 : decode cX1_get 12 = .ok (.aload_n 0, 1) := by decide +kernel
theorem dX1_get_13 : decode cX1_get 13 = .ok (.getfield 33, 3) := by decide +kernel
theorem dX1_get_16 : decode cX1_get 16 = .ok (.if_icmp .ge 25, 3) := by decide +kernel
theorem dX1_get_19 : decode cX1_get 19 = .ok (.iload_n 3, 1) := by decide +kernel
theorem dX1_get_20 : decode cX1_get 20 = .ok (.ifCond .lt 21, 3) := by decide +kernel
theorem dX1_get_23 : decode cX1_get 23 = .ok (.iload_n 3, 1) := by decide +kernel
theorem dX1_get_24 : decode cX1_get 24 = .ok (.aload_n 0, 1) := by decide +kernel
theorem dX1_get_25 : decode cX1_get 25 = .ok (.getfield 9, 3) := by decide +kernel
theorem dX1_get_28 : decode cX1_get 28 = .ok (.arraylength, 1) := by decide +kernel
theorem dX1_get_29 : decode cX1_get 29 = .ok (.if_icmp .ge 12, 3) := by decide +kernel
theorem dX1_get_32 : decode cX1_get 32 = .ok (.aload_n 0, 1) := by decide +kernel
theorem dX1_get_33 : decode cX1_get 33 = .ok (.getfield 9, 3) := by decide +kernel
theorem dX1_get_36 : decode cX1_get 36 = .ok (.iload_n 3, 1) := by decide +kernel
theorem dX1_get_37 : decode cX1_get 37 = .ok (.iaload, 1) := by decide +kernel
theorem dX1_get_38 : decode cX1_get 38 = .ok (.goto 4, 3) := by decide +kernel
set_option maxRecDepth 20000 in
theorem k_X1_get (d : Nat) {T : CT} {σ : MS} {a : Nat} {k : Int} {c : Int} (ha : OB T a 1) (h_k : -2147483648 ≤ k ∧ k ≤ 2147483647) (h_c : -2147483648 ≤ c ∧ c ≤ 2147483647) (hw : WT T σ) (hc : 0 ≤ c ∧ c ≤ 12) : Tn (d + 1) m_X1_get 0 T σ [(0, .ref a), (1, .int (iI k)), (2, .int (iI c))] [] (fun ro T2 σ2 => ∃ v : Int, ro = some (.int (iI v)) ∧ T = T2 ∧ σ = σ2 ∧ (-2147483648 ≤ v ∧ v ≤ 2147483647)) := by
  refine tn_iload_n dX1_get_0 rfl 1 rfl ?_
  refine tn_bipush dX1_get_1 (by decide) ?_
  refine tn_imul dX1_get_3 ?_
  refine tn_iload_n dX1_get_4 rfl 2 rfl ?_
  refine tn_iadd dX1_get_5 ?_
  refine tn_istore_n (L' := [(3, .int (iI ((k * 13) + c))), (0, .ref a), (1, .int (iI k)), (2, .int (iI c))]) dX1_get_6 rfl (by decide) rfl ?_
  refine tn_iload_n dX1_get_7 rfl 2 rfl ?_
  refine tn_if_lt (tgt := 41) dX1_get_8 (by decide) ⟨by omega, by omega⟩ (fun h1 => ?_) (fun h1 => ?_)
  · refine tn_iconst dX1_get_41 ?_
    exact tn_iret rfl dX1_get_42 ⟨_, rfl, rfl, rfl, by omega⟩
  · refine tn_iload_n dX1_get_11 rfl 2 rfl ?_
    refine tn_aload_n dX1_get_12 rfl 1 rfl ?_
    refine tn_getI (ci := 1) (i := 1) (n := 6) (t := σ.2.1 6 a) dX1_get_13 rfl lay_1 (by decide) fl1_33 ha rfl rfl (rfl) ?_
    have g2 : ((0 : Int) ≤ σ.2.1 6 a ∧ σ.2.1 6 a ≤ 5000) ∧ ((T a).1 = 50 → σ.2.1 6 a ≤ 200) := wf_6 hw ha
    have g2x := g2.2
    replace g2 := g2.1
    clear g2x
    refine tn_icmp_ge (tgt := 41) dX1_get_16 (by decide) ⟨by omega, by omega⟩ ⟨by omega, by omega⟩ (fun h3 => ?_) (fun h3 => ?_)
    · refine tn_iconst dX1_get_41 ?_
      exact tn_iret rfl dX1_get_42 ⟨_, rfl, rfl, rfl, by omega⟩
    · refine tn_iload_n dX1_get_19 rfl 0 rfl ?_
      refine tn_if_lt (tgt := 41) dX1_get_20 (by decide) ⟨by omega, by omega⟩ (fun h4 => ?_) (fun h4 => ?_)
      · refine tn_iconst dX1_get_41 ?_
        exact tn_iret rfl dX1_get_42 ⟨_, rfl, rfl, rfl, by omega⟩
      · refine tn_iload_n dX1_get_23 rfl 0 rfl ?_
        refine tn_aload_n dX1_get_24 rfl 1 rfl ?_
        obtain ⟨x5, hx6, hl8, hk7a, hk7b⟩ := wf_5 hw ha
        have hk7i : IA T x5 := by unfold IA; omega
        have hk7c : CELL T a x5 := ⟨hk7a, hk7b⟩
        clear hk7a hk7b
        refine tn_getR (ci := 1) (i := 0) (n := 5) (x := x5) dX1_get_25 rfl lay_1 (by decide) fl1_9 ha rfl rfl (hx6) ?_
        refine tn_alenX dX1_get_28 (Or.inl hk7i) ?_
        refine tn_icmp_ge (tgt := 41) dX1_get_29 (by decide) ⟨by omega, by omega⟩ ⟨by omega, by omega⟩ (fun h9 => ?_) (fun h9 => ?_)
        · refine tn_iconst dX1_get_41 ?_
          exact tn_iret rfl dX1_get_42 ⟨_, rfl, rfl, rfl, by omega⟩
        · refine tn_aload_n dX1_get_32 rfl 1 rfl ?_
          refine tn_getR (ci := 1) (i := 0) (n := 5) (x := x5) dX1_get_33 rfl lay_1 (by decide) fl1_9 ha rfl rfl (hx6) ?_
          refine tn_iload_n dX1_get_36 rfl 0 rfl ?_
          refine tn_ialdX (z := (k * 13) + c) hw dX1_get_37 hk7i (by omega) (by omega) (by omega) (fun v10 g11q g11 g11k => ?_)
          clear g11k g11q
          refine tn_goto (tgt := 42) dX1_get_38 (by decide) ?_
          exact tn_iret rfl dX1_get_42 ⟨_, rfl, rfl, rfl, by omega⟩
end
section
theorem cd_X1_set : Cond.code yX1_set cX1_set 5 none ∈ pWW := pw3 (List.mem_of_getElem? (i := 205) rfl) rfl
abbrev m_X1_set : MT := (yX1_set, cX1_set, 5, none)
theorem ok_X1_set : pOk m_X1_set := ⟨⟨cd_X1_set, ini_1⟩, by decide +kernel, ⟨by decide +kernel, by decide +kernel⟩, Nat.le_of_ble_eq_true rfl⟩
theorem np_X1_set : (parseMethodDescriptor yX1_set.desc).map (fun d => d.parameters.length) = some 3 := by decide +kernel
theorem im_X1_set : Cond.instanceMethod yX1_set ∈ pWW := pw3 (List.mem_of_getElem? (i := 203) rfl) rfl
theorem se_X1_set : Cond.selects RX1 yX1_set yX1_set ∈ pWW := pw3 (List.mem_of_getElem? (i := 204) rfl) rfl
theorem dX1_set_0 : decode cX1_set 0 = .ok (.iload_n 1, 1) := by decide +kernel
theorem dX1_set_1 : decode cX1_set 1 = .ok (.bipush 13, 2) := by decide +kernel
theorem dX1_set_3 : decode cX1_set 3 = .ok (.imul, 1) := by decide +kernel
theorem dX1_set_4 : decode cX1_set 4 = .ok (.iload_n 2, 1) := by decide +kernel
theorem dX1_set_5 : decode cX1_set 5 = .ok (.iadd, 1) := by decide +kernel
theorem dX1_set_6 : decode cX1_set 6 = .ok (.istore 4, 2) := by decide +kernel
theorem dX1_set_8 : decode cX1_set 8 = .ok (.iload_n 1, 1) := by decide +kernel
theorem dX1_set_9 : decode cX1_set 9 = .ok (.ifCond .lt 34, 3) := by decide +kernel
theorem dX1_set_43 : decode cX1_set 43 = .ok (.return_, 1) := by decide +kernel
theorem dX1_set_12 : decode cX1_set 12 = .ok (.iload_n 1, 1) := by decide +kernel
theorem dX1_set_13 : decode cX1_set 13 = .ok (.aload_n 0, 1) := by decide +kernel
theorem dX1_set_14 : decode cX1_set 14 = .ok (.getfield 33, 3) := by decide +kernel
theorem dX1_set_17 : decode cX1_set 17 = .ok (.if_icmp .ge 26, 3) := by decide +kernel
theorem dX1_set_20 : decode cX1_set 20 = .ok (.iload 4, 2) := by decide +kernel
theorem dX1_set_22 : decode cX1_set 22 = .ok (.ifCond .lt 21, 3) := by decide +kernel
theorem dX1_set_25 : decode cX1_set 25 = .ok (.iload 4, 2) := by decide +kernel
theorem dX1_set_27 : decode cX1_set 27 = .ok (.aload_n 0, 1) := by decide +kernel
theorem dX1_set_28 : decode cX1_set 28 = .ok (.getfield 9, 3) := by decide +kernel
theorem dX1_set_31 : decode cX1_set 31 = .ok (.arraylength, 1) := by decide +kernel
theorem dX1_set_32 : decode cX1_set 32 = .ok (.if_icmp .ge 11, 3) := by decide +kernel
theorem dX1_set_35 : decode cX1_set 35 = .ok (.aload_n 0, 1) := by decide +kernel
theorem dX1_set_36 : decode cX1_set 36 = .ok (.getfield 9, 3) := by decide +kernel
theorem dX1_set_39 : decode cX1_set 39 = .ok (.iload 4, 2) := by decide +kernel
theorem dX1_set_41 : decode cX1_set 41 = .ok (.iload_n 3, 1) := by decide +kernel
theorem dX1_set_42 : decode cX1_set 42 = .ok (.iastore, 1) := by decide +kernel
set_option maxRecDepth 20000 in
theorem k_X1_set (d : Nat) {T : CT} {σ : MS} {a : Nat} {k : Int} {c : Int} {y : Int} (ha : OB T a 1) (h_k : -2147483648 ≤ k ∧ k ≤ 2147483647) (h_c : -2147483648 ≤ c ∧ c ≤ 2147483647) (h_y : -2147483648 ≤ y ∧ y ≤ 2147483647) (hw : WT T σ) (hc : 0 ≤ c ∧ c ≤ 12) (hk : (T a).1 ≠ 50 → 1 ≤ c) : Tn (d + 1) m_X1_set 0 T σ [(0, .ref a), (1, .int (iI k)), (2, .int (iI c)), (3, .int (iI y))] [] (fun ro T2 σ2 => ro = none ∧ T = T2 ∧ WT T2 σ2 ∧ FrC T [] σ σ2) := by
  refine tn_iload_n dX1_set_0 rfl 1 rfl ?_
  refine tn_bipush dX1_set_1 (by decide) ?_
  refine tn_imul dX1_set_3 ?_
  refine tn_iload_n dX1_set_4 rfl 2 rfl ?_
  refine tn_iadd dX1_set_5 ?_
  refine tn_istore (L' := [(4, .int (iI ((k * 13) + c))), (0, .ref a), (1, .int (iI k)), (2, .int (iI c)), (3, .int (iI y))]) dX1_set_6 (by decide) rfl ?_
  refine tn_iload_n dX1_set_8 rfl 2 rfl ?_
  refine tn_if_lt (tgt := 43) dX1_set_9 (by decide) ⟨by omega, by omega⟩ (fun h1 => ?_) (fun h1 => ?_)
  · exact tn_vret rfl dX1_set_43 ⟨rfl, rfl, hw, FrC.rfl⟩
  · refine tn_iload_n dX1_set_12 rfl 2 rfl ?_
    refine tn_aload_n dX1_set_13 rfl 1 rfl ?_
    refine tn_getI (ci := 1) (i := 1) (n := 6) (t := σ.2.1 6 a) dX1_set_14 rfl lay_1 (by decide) fl1_33 ha rfl rfl (rfl) ?_
    have g2 : ((0 : Int) ≤ σ.2.1 6 a ∧ σ.2.1 6 a ≤ 5000) ∧ ((T a).1 = 50 → σ.2.1 6 a ≤ 200) := wf_6 hw ha
    have g2x := g2.2
    replace g2 := g2.1
    clear g2x
    refine tn_icmp_ge (tgt := 43) dX1_set_17 (by decide) ⟨by omega, by omega⟩ ⟨by omega, by omega⟩ (fun h3 => ?_) (fun h3 => ?_)
    · exact tn_vret rfl dX1_set_43 ⟨rfl, rfl, hw, FrC.rfl⟩
    · refine tn_iload dX1_set_20 0 rfl ?_
      refine tn_if_lt (tgt := 43) dX1_set_22 (by decide) ⟨by omega, by omega⟩ (fun h4 => ?_) (fun h4 => ?_)
      · exact tn_vret rfl dX1_set_43 ⟨rfl, rfl, hw, FrC.rfl⟩
      · refine tn_iload dX1_set_25 0 rfl ?_
        refine tn_aload_n dX1_set_27 rfl 1 rfl ?_
        obtain ⟨x5, hx6, hl8, hk7a, hk7b⟩ := wf_5 hw ha
        have hk7i : IA T x5 := by unfold IA; omega
        have hk7c : CELL T a x5 := ⟨hk7a, hk7b⟩
        clear hk7a hk7b
        refine tn_getR (ci := 1) (i := 0) (n := 5) (x := x5) dX1_set_28 rfl lay_1 (by decide) fl1_9 ha rfl rfl (hx6) ?_
        refine tn_alenX dX1_set_31 (Or.inl hk7i) ?_
        refine tn_icmp_ge (tgt := 43) dX1_set_32 (by decide) ⟨by omega, by omega⟩ ⟨by omega, by omega⟩ (fun h9 => ?_) (fun h9 => ?_)
        · exact tn_vret rfl dX1_set_43 ⟨rfl, rfl, hw, FrC.rfl⟩
        · refine tn_aload_n dX1_set_35 rfl 1 rfl ?_
          refine tn_getR (ci := 1) (i := 0) (n := 5) (x := x5) dX1_set_36 rfl lay_1 (by decide) fl1_9 ha rfl rfl (hx6) ?_
          refine tn_iload dX1_set_39 0 rfl ?_
          refine tn_iload_n dX1_set_41 rfl 4 rfl ?_
          refine tn_iast (z := (k * 13) + c) (v := y) dX1_set_42 hk7i (by omega) (by omega) (by omega) ?_
          exact tn_vret rfl dX1_set_43 ⟨rfl, rfl, (hw.arr (Or.inl hk7i) (hk7c.vok (by omega) (fun q r => by have q8 := hk q; omega))), (FrC.rfl.arr (hk_no (CELL.nh hk7c)))⟩
end
section
theorem cd_X1_kindAt : Cond.code yX1_kindAt cX1_kindAt 2 (some .int) ∈ pWW := pw4 (List.mem_of_getElem? (i := 1) rfl) rfl
abbrev m_X1_kindAt : MT := (yX1_kindAt, cX1_kindAt, 2, (some .int))
theorem ok_X1_kindAt : pOk m_X1_kindAt := ⟨⟨cd_X1_kindAt, ini_1⟩, by decide +kernel, ⟨by decide +kernel, by decide +kernel⟩, Nat.le_of_ble_eq_true rfl⟩
theorem np_X1_kindAt : (parseMethodDescriptor yX1_kindAt.desc).map (fun d => d.parameters.length) = some 1 := by decide +kernel
theorem im_X1_kindAt : Cond.instanceMethod yX1_kindAt ∈ pWW := pw3 (List.mem_of_getElem? (i := 239) rfl) rfl
theorem se_X1_kindAt : Cond.selects RX1 yX1_kindAt yX1_kindAt ∈ pWW := pw4 (List.mem_of_getElem? (i := 0) rfl) rfl
theorem dX1_kindAt_0 : decode cX1_kindAt 0 = .ok (.iload_n 1, 1) := by decide +kernel
theorem dX1_kindAt_1 : decode cX1_kindAt 1 = .ok (.ifCond .lt 35, 3) := by decide +kernel
theorem dX1_kindAt_36 : decode cX1_kindAt 36 = .ok (.iconst (-1), 1) := by decide +kernel
theorem dX1_kindAt_37 : decode cX1_kindAt 37 = .ok (.ireturn, 1) := by decide +kernel
theorem dX1_kindAt_4 : decode cX1_kindAt 4 = .ok (.iload_n 1, 1) := by decide +kernel
theorem dX1_kindAt_5 : decode cX1_kindAt 5 = .ok (.aload_n 0, 1) := by decide +kernel
theorem dX1_kindAt_6 : decode cX1_kindAt 6 = .ok (.getfield 33, 3) := by decide +kernel
theorem dX1_kindAt_9 : decode cX1_kindAt 9 = .ok (.if_icmp .ge 27, 3) := by decide +kernel
theorem dX1_kindAt_12 : decode cX1_kindAt 12 = .ok (.iload_n 1, 1) := by decide +kernel
theorem dX1_kindAt_13 : decode cX1_kindAt 13 = .ok (.bipush 13, 2) := by decide +kernel
theorem dX1_kindAt_15 : decode cX1_kindAt 15 = .ok (.imul, 1) := by decide +kernel
theorem dX1_kindAt_16 : decode cX1_kindAt 16 = .ok (.aload_n 0, 1) := by decide +kernel
theorem dX1_kindAt_17 : decode cX1_kindAt 17 = .ok (.getfield 9, 3) := by decide +kernel
theorem dX1_kindAt_20 : decode cX1_kindAt 20 = .ok (.arraylength, 1) := by decide +kernel
theorem dX1_kindAt_21 : decode cX1_kindAt 21 = .ok (.if_icmp .ge 15, 3) := by decide +kernel
theorem dX1_kindAt_24 : decode cX1_kindAt 24 = .ok (.aload_n 0, 1) := by decide +kernel
theorem dX1_kindAt_25 : decode cX1_kindAt 25 = .ok (.getfield 9, 3) := by decide +kernel
theorem dX1_kindAt_28 : decode cX1_kindAt 28 = .ok (.iload_n 1, 1) := by decide +kernel
theorem dX1_kindAt_29 : decode cX1_kindAt 29 = .ok (.bipush 13, 2) := by decide +kernel
theorem dX1_kindAt_31 : decode cX1_kindAt 31 = .ok (.imul, 1) := by decide +kernel
theorem dX1_kindAt_32 : decode cX1_kindAt 32 = .ok (.iaload, 1) := by decide +kernel
theorem dX1_kindAt_33 : decode cX1_kindAt 33 = .ok (.goto 4, 3) := by decide +kernel
set_option maxRecDepth 20000 in
theorem k_X1_kindAt (d : Nat) {T : CT} {σ : MS} {a : Nat} {k : Int} (ha : OB T a 1) (h_k : -2147483648 ≤ k ∧ k ≤ 2147483647) (hw : WT T σ) : Tn (d + 1) m_X1_kindAt 0 T σ [(0, .ref a), (1, .int (iI k))] [] (fun ro T2 σ2 => ∃ v : Int, ro = some (.int (iI v)) ∧ T = T2 ∧ σ = σ2 ∧ (-2147483648 ≤ v ∧ v ≤ 2147483647) ∧ (KND T a v)) := by
  refine tn_iload_n dX1_kindAt_0 rfl 1 rfl ?_
  refine tn_if_lt (tgt := 36) dX1_kindAt_1 (by decide) ⟨by omega, by omega⟩ (fun h1 => ?_) (fun h1 => ?_)
  · refine tn_iconst dX1_kindAt_36 ?_
    exact tn_iret rfl dX1_kindAt_37 ⟨_, rfl, rfl, rfl, by omega, knd_m1⟩
  · refine tn_iload_n dX1_kindAt_4 rfl 1 rfl ?_
    refine tn_aload_n dX1_kindAt_5 rfl 0 rfl ?_
    refine tn_getI (ci := 1) (i := 1) (n := 6) (t := σ.2.1 6 a) dX1_kindAt_6 rfl lay_1 (by decide) fl1_33 ha rfl rfl (rfl) ?_
    have g2 : ((0 : Int) ≤ σ.2.1 6 a ∧ σ.2.1 6 a ≤ 5000) ∧ ((T a).1 = 50 → σ.2.1 6 a ≤ 200) := wf_6 hw ha
    have g2x := g2.2
    replace g2 := g2.1
    clear g2x
    refine tn_icmp_ge (tgt := 36) dX1_kindAt_9 (by decide) ⟨by omega, by omega⟩ ⟨by omega, by omega⟩ (fun h3 => ?_) (fun h3 => ?_)
    · refine tn_iconst dX1_kindAt_36 ?_
      exact tn_iret rfl dX1_kindAt_37 ⟨_, rfl, rfl, rfl, by omega, knd_m1⟩
    · refine tn_iload_n dX1_kindAt_12 rfl 1 rfl ?_
      refine tn_bipush dX1_kindAt_13 (by decide) ?_
      refine tn_imul dX1_kindAt_15 ?_
      refine tn_aload_n dX1_kindAt_16 rfl 0 rfl ?_
      obtain ⟨x4, hx5, hl7, hk6a, hk6b⟩ := wf_5 hw ha
      have hk6i : IA T x4 := by unfold IA; omega
      have hk6c : CELL T a x4 := ⟨hk6a, hk6b⟩
      clear hk6a hk6b
      refine tn_getR (ci := 1) (i := 0) (n := 5) (x := x4) dX1_kindAt_17 rfl lay_1 (by decide) fl1_9 ha rfl rfl (hx5) ?_
      refine tn_alenX dX1_kindAt_20 (Or.inl hk6i) ?_
      refine tn_icmp_ge (tgt := 36) dX1_kindAt_21 (by decide) ⟨by omega, by omega⟩ ⟨by omega, by omega⟩ (fun h8 => ?_) (fun h8 => ?_)
      · refine tn_iconst dX1_kindAt_36 ?_
        exact tn_iret rfl dX1_kindAt_37 ⟨_, rfl, rfl, rfl, by omega, knd_m1⟩
      · refine tn_aload_n dX1_kindAt_24 rfl 0 rfl ?_
        refine tn_getR (ci := 1) (i := 0) (n := 5) (x := x4) dX1_kindAt_25 rfl lay_1 (by decide) fl1_9 ha rfl rfl (hx5) ?_
        refine tn_iload_n dX1_kindAt_28 rfl 1 rfl ?_
        refine tn_bipush dX1_kindAt_29 (by decide) ?_
        refine tn_imul dX1_kindAt_31 ?_
        refine tn_ialdX (z := k * 13) hw dX1_kindAt_32 hk6i (by omega) (by omega) (by omega) (fun v9 g10q g10 g10k => ?_)
        have g10u := hk6c.knd g10k (by omega)
        clear g10k g10q
        refine tn_goto (tgt := 37) dX1_kindAt_33 (by decide) ?_
        exact tn_iret rfl dX1_kindAt_37 ⟨_, rfl, rfl, rfl, by omega, by assumption⟩
end
section
theorem cd_X1_homeOf : Cond.code yX1_homeOf cX1_homeOf 3 (some .int) ∈ pWW := pw4 (List.mem_of_getElem? (i := 78) rfl) rfl
abbrev m_X1_homeOf : MT := (yX1_homeOf, cX1_homeOf, 3, (some .int))
theorem ok_X1_homeOf : pOk m_X1_homeOf := ⟨⟨cd_X1_homeOf, ini_1⟩, by decide +kernel, ⟨by decide +kernel, by decide +kernel⟩, Nat.le_of_ble_eq_true rfl⟩
theorem np_X1_homeOf : (parseMethodDescriptor yX1_homeOf.desc).map (fun d => d.parameters.length) = some 2 := by decide +kernel
theorem im_X1_homeOf : Cond.instanceMethod yX1_homeOf ∈ pWW := pw4 (List.mem_of_getElem? (i := 76) rfl) rfl
theorem se_X1_homeOf : Cond.selects RX1 yX1_homeOf yX1_homeOf ∈ pWW := pw4 (List.mem_of_getElem? (i := 77) rfl) rfl
theorem fl1_27 : Cond.fieldLink RX1 27 (TX1 10).1 (TX1 10).2.1 (TX1 10).2.2.1 ∈ pWW := pw1 (List.mem_of_getElem? (i := 123) rfl) rfl
theorem nl1_53 : (RX1, 53, yX11_at, "LineKeeper") ∈ nst_M := List.mem_of_getElem? (i := 14) rfl
theorem dX1_homeOf_0 : decode cX1_homeOf 0 = .ok (.aload_n 0, 1) := by decide +kernel
theorem dX1_homeOf_1 : decode cX1_homeOf 1 = .ok (.getfield 27, 3) := by decide +kernel
theorem dX1_homeOf_4 : decode cX1_homeOf 4 = .ok (.iload_n 1, 1) := by decide +kernel
theorem dX1_homeOf_5 : decode cX1_homeOf 5 = .ok (.bipush 12, 2) := by decide +kernel
theorem dX1_homeOf_7 : decode cX1_homeOf 7 = .ok (.imul, 1) := by decide +kernel
theorem dX1_homeOf_8 : decode cX1_homeOf 8 = .ok (.iload_n 2, 1) := by decide +kernel
theorem dX1_homeOf_9 : decode cX1_homeOf 9 = .ok (.iadd, 1) := by decide +kernel
theorem dX1_homeOf_10 : decode cX1_homeOf 10 = .ok (.invokestatic 53, 3) := by decide +kernel
theorem dX1_homeOf_13 : decode cX1_homeOf 13 = .ok (.ireturn, 1) := by decide +kernel
set_option maxRecDepth 20000 in
theorem k_X1_homeOf (d : Nat) {T : CT} {σ : MS} {a : Nat} {f : Int} {m : Int} (ha : OB T a 1) (h_f : -2147483648 ≤ f ∧ f ≤ 2147483647) (h_m : -2147483648 ≤ m ∧ m ≤ 2147483647) (hw : WT T σ) : Tn (d + 2) m_X1_homeOf 0 T σ [(0, .ref a), (1, .int (iI f)), (2, .int (iI m))] [] (fun ro T2 σ2 => ∃ v : Int, ro = some (.int (iI v)) ∧ T = T2 ∧ σ = σ2 ∧ (-2147483648 ≤ v ∧ v ≤ 2147483647)) := by
  refine tn_aload_n dX1_homeOf_0 rfl 0 rfl ?_
  obtain ⟨x1, hx2, hk3, hl4⟩ : ∃ x : Nat, σ.2.1 15 a = (x : Int) ∧ AR T x 1 144 144 := wf_15 hw ha
  have hk3i : IA T x1 := by unfold IA; omega
  refine tn_getR (ci := 1) (i := 10) (n := 15) (x := x1) dX1_homeOf_1 rfl lay_1 (by decide) fl1_27 ha rfl rfl (hx2) ?_
  refine tn_iload_n dX1_homeOf_4 rfl 1 rfl ?_
  refine tn_bipush dX1_homeOf_5 (by decide) ?_
  refine tn_imul dX1_homeOf_7 ?_
  refine tn_any (fun z5 g6 => ?_)
  have g6r : -2147483648 ≤ z5 ∧ z5 ≤ 2147483647 := g6
  refine tn_iload_n dX1_homeOf_8 rfl 2 rfl ?_
  refine tn_iadd dX1_homeOf_9 ?_
  refine tn_any (fun z7 g8 => ?_)
  have g8r : -2147483648 ≤ z7 ∧ z7 ≤ 2147483647 := g8
  refine tn_callSN (M := m_X1_homeOf) (pc := 10) (ix := 53) (M' := m_X11_at) (As := [.ref x1, .int (iI z7)]) (rest := []) dX1_homeOf_10 ok_X11_at stt_X11_at nl1_53 np_X11_at rfl (Nat.le_of_ble_eq_true rfl) (Nat.le_of_ble_eq_true rfl) rfl (k_X11_at (d) (T := T) (σ := σ) (x := x1) (i := z7) hk3i (by omega) (by omega) hw ) (fun r9 T11 σ10 gt12 hp => ?_)
  obtain ⟨v16, rfl, rfl, rfl, f13, f14, f15⟩ := hp
  clear gt12
  clear f14 f15
  show Tn _ _ 13 T σ [(0, .ref a), (1, .int (iI f)), (2, .int (iI m))] [.int (iI v16)] _
  exact tn_iret rfl dX1_homeOf_13 ⟨_, rfl, rfl, rfl, by omega⟩
end
section
theorem cd_X1_slotOf : Cond.code yX1_slotOf cX1_slotOf 5 (some .int) ∈ pWW := pw4 (List.mem_of_getElem? (i := 112) rfl) rfl
abbrev m_X1_slotOf : MT := (yX1_slotOf, cX1_slotOf, 5, (some .int))
theorem ok_X1_slotOf : pOk m_X1_slotOf := ⟨⟨cd_X1_slotOf, ini_1⟩, by decide +kernel, ⟨by decide +kernel, by decide +kernel⟩, Nat.le_of_ble_eq_true rfl⟩
theorem np_X1_slotOf : (parseMethodDescriptor yX1_slotOf.desc).map (fun d => d.parameters.length) = some 2 := by decide +kernel
theorem im_X1_slotOf : Cond.instanceMethod yX1_slotOf ∈ pWW := pw4 (List.mem_of_getElem? (i := 110) rfl) rfl
theorem se_X1_slotOf : Cond.selects RX1 yX1_slotOf yX1_slotOf ∈ pWW := pw4 (List.mem_of_getElem? (i := 111) rfl) rfl
theorem dX1_slotOf_0 : decode cX1_slotOf 0 = .ok (.iconst 1, 1) := by decide +kernel
theorem dX1_slotOf_1 : decode cX1_slotOf 1 = .ok (.iload_n 2, 1) := by decide +kernel
theorem dX1_slotOf_2 : decode cX1_slotOf 2 = .ok (.iadd, 1) := by decide +kernel
theorem dX1_slotOf_3 : decode cX1_slotOf 3 = .ok (.istore_n 3, 1) := by decide +kernel
theorem dX1_slotOf_4 : decode cX1_slotOf 4 = .ok (.iconst 0, 1) := by decide +kernel
theorem dX1_slotOf_5 : decode cX1_slotOf 5 = .ok (.istore 4, 2) := by decide +kernel
theorem dX1_slotOf_7 : decode cX1_slotOf 7 = .ok (.iload 4, 2) := by decide +kernel
theorem dX1_slotOf_9 : decode cX1_slotOf 9 = .ok (.iload_n 1, 1) := by decide +kernel
theorem dX1_slotOf_10 : decode cX1_slotOf 10 = .ok (.if_icmp .ge 29, 3) := by decide +kernel
theorem dX1_slotOf_13 : decode cX1_slotOf 13 = .ok (.iload 4, 2) := by decide +kernel
theorem dX1_slotOf_15 : decode cX1_slotOf 15 = .ok (.aload_n 0, 1) := by decide +kernel
theorem dX1_slotOf_16 : decode cX1_slotOf 16 = .ok (.getfield 24, 3) := by decide +kernel
theorem dX1_slotOf_19 : decode cX1_slotOf 19 = .ok (.arraylength, 1) := by decide +kernel
theorem dX1_slotOf_20 : decode cX1_slotOf 20 = .ok (.if_icmp .ge 19, 3) := by decide +kernel
theorem dX1_slotOf_23 : decode cX1_slotOf 23 = .ok (.iload_n 3, 1) := by decide +kernel
theorem dX1_slotOf_24 : decode cX1_slotOf 24 = .ok (.aload_n 0, 1) := by decide +kernel
theorem dX1_slotOf_25 : decode cX1_slotOf 25 = .ok (.getfield 24, 3) := by decide +kernel
theorem dX1_slotOf_28 : decode cX1_slotOf 28 = .ok (.iload 4, 2) := by decide +kernel
theorem dX1_slotOf_30 : decode cX1_slotOf 30 = .ok (.iaload, 1) := by decide +kernel
theorem dX1_slotOf_31 : decode cX1_slotOf 31 = .ok (.iadd, 1) := by decide +kernel
theorem dX1_slotOf_32 : decode cX1_slotOf 32 = .ok (.istore_n 3, 1) := by decide +kernel
theorem dX1_slotOf_33 : decode cX1_slotOf 33 = .ok (.iinc 4 1, 3) := by decide +kernel
theorem dX1_slotOf_36 : decode cX1_slotOf 36 = .ok (.goto (-29), 3) := by decide +kernel
set_option maxRecDepth 20000 in
theorem l_X1_slotOf_7 (d : Nat) {T : CT} {σ : MS} {a : Nat} {c1 : Int} {mg : Int} {post : Option Value → CT → MS → Prop} (h_a : OB T a 1) (r_c1 : -2147483648 ≤ c1 ∧ c1 ≤ 2147483647) (hw : WT T σ) (hx_39 : ∀ (i3 : Int) (i4 : Int) , (-2147483648 ≤ i3 ∧ i3 ≤ 2147483647) → (0 ≤ i4 ∧ i4 ≤ 12) → (mg + 1 ≤ i3 ∧ i3 ≤ 1 + mg + 12 * i4 ∧ -2147483000 ≤ mg ∧ mg ≤ 2147483000) → Tn (d + 1) m_X1_slotOf 39 T σ [(0, .ref a), (1, .int (iI c1)), (3, .int (iI i3)), (4, .int (iI i4))] [] post) : ∀ (n : Nat) (i3 : Int) (i4 : Int) , (-2147483648 ≤ i3 ∧ i3 ≤ 2147483647) → (0 ≤ i4 ∧ i4 ≤ 12) → (mg + 1 ≤ i3 ∧ i3 ≤ 1 + mg + 12 * i4 ∧ -2147483000 ≤ mg ∧ mg ≤ 2147483000) → (2147483700 - i4).toNat = n → Tn (d + 1) m_X1_slotOf 7 T σ [(0, .ref a), (1, .int (iI c1)), (3, .int (iI i3)), (4, .int (iI i4))] [] post := by
  intro n
  induction n using Nat.strongRecOn with
  | _ n ih =>
    intro i3 i4 r_i3 r_i4 h0 hm
    refine tn_iload dX1_slotOf_7 3 rfl ?_
    refine tn_iload_n dX1_slotOf_9 rfl 1 rfl ?_
    refine tn_icmp_ge (tgt := 39) dX1_slotOf_10 (by decide) ⟨by omega, by omega⟩ ⟨by omega, by omega⟩ (fun h1 => ?_) (fun h1 => ?_)
    · exact tn_sub [0, 1, 2, 3] rfl (hx_39 (i3) (i4) (by omega) (by omega) (by omega))
    · refine tn_iload dX1_slotOf_13 3 rfl ?_
      refine tn_aload_n dX1_slotOf_15 rfl 0 rfl ?_
      obtain ⟨x2, hx3, hk4, hl5⟩ : ∃ x : Nat, σ.2.1 14 a = (x : Int) ∧ AR T x 11 12 12 := wf_14 hw h_a
      have hk4i : IA T x2 := by unfold IA; omega
      refine tn_getR (ci := 1) (i := 9) (n := 14) (x := x2) dX1_slotOf_16 rfl lay_1 (by decide) fl1_24 h_a rfl rfl (hx3) ?_
      refine tn_alenX dX1_slotOf_19 (Or.inl hk4i) ?_
      refine tn_icmp_ge (tgt := 39) dX1_slotOf_20 (by decide) ⟨by omega, by omega⟩ ⟨by omega, by omega⟩ (fun h6 => ?_) (fun h6 => ?_)
      · exact tn_sub [0, 1, 2, 3] rfl (hx_39 (i3) (i4) (by omega) (by omega) (by omega))
      · refine tn_iload_n dX1_slotOf_23 rfl 2 rfl ?_
        refine tn_aload_n dX1_slotOf_24 rfl 0 rfl ?_
        refine tn_getR (ci := 1) (i := 9) (n := 14) (x := x2) dX1_slotOf_25 rfl lay_1 (by decide) fl1_24 h_a rfl rfl (hx3) ?_
        refine tn_iload dX1_slotOf_28 3 rfl ?_
        refine tn_ialdX (z := i4) hw dX1_slotOf_30 hk4i (by omega) (by omega) (by omega) (fun v7 g8q g8 g8k => ?_)
        have g8n := g8k.2.1 hk4
        clear g8k g8q
        refine tn_iadd dX1_slotOf_31 ?_
        refine tn_istore_n (L' := [(3, .int (iI (i3 + v7))), (0, .ref a), (1, .int (iI c1)), (4, .int (iI i4))]) dX1_slotOf_32 rfl (by decide) rfl ?_
        refine tn_iinc (q0 := 3) (L' := [(4, .int (iI (i4 + 1))), (3, .int (iI (i3 + v7))), (0, .ref a), (1, .int (iI c1))]) dX1_slotOf_33 rfl (by decide) rfl ?_
        refine tn_goto (tgt := 7) dX1_slotOf_36 (by decide) ?_
        exact tn_sub [2, 3, 1, 0] rfl (ih _ (by omega) (i3 + v7) (i4 + 1) (by omega) (by omega) (by omega) rfl)
theorem dX1_slotOf_39 : decode cX1_slotOf 39 = .ok (.iload_n 3, 1) := by decide +kernel
theorem dX1_slotOf_40 : decode cX1_slotOf 40 = .ok (.ireturn, 1) := by decide +kernel
set_option maxRecDepth 20000 in
theorem k_X1_slotOf (d : Nat) {T : CT} {σ : MS} {a : Nat} {f : Int} {m : Int} (ha : OB T a 1) (h_f : -2147483648 ≤ f ∧ f ≤ 2147483647) (h_m : -2147483648 ≤ m ∧ m ≤ 2147483647) (hw : WT T σ) (hm : -2147483000 ≤ m ∧ m ≤ 2147483000) : Tn (d + 1) m_X1_slotOf 0 T σ [(0, .ref a), (1, .int (iI f)), (2, .int (iI m))] [] (fun ro T2 σ2 => ∃ v : Int, ro = some (.int (iI v)) ∧ T = T2 ∧ σ = σ2 ∧ (-2147483648 ≤ v ∧ v ≤ 2147483647) ∧ (1 + m ≤ v ∧ v ≤ 145 + m)) := by
  refine tn_iconst dX1_slotOf_0 ?_
  refine tn_iload_n dX1_slotOf_1 rfl 2 rfl ?_
  refine tn_iadd dX1_slotOf_2 ?_
  refine tn_istore_n (L' := [(3, .int (iI (1 + m))), (0, .ref a), (1, .int (iI f)), (2, .int (iI m))]) dX1_slotOf_3 rfl (by decide) rfl ?_
  refine tn_iconst dX1_slotOf_4 ?_
  refine tn_istore (L' := [(4, .int (iI 0)), (3, .int (iI (1 + m))), (0, .ref a), (1, .int (iI f)), (2, .int (iI m))]) dX1_slotOf_5 (by decide) rfl ?_
  refine tn_sub [2, 3, 1, 0] rfl (l_X1_slotOf_7 (d) (T := T) (σ := σ) (a := a) (c1 := f) (mg := m) ha (by omega) hw (fun i31 i42 r8 r9 f10 => ?_) _ (1 + m) (0) (by omega) (by omega) (by omega) rfl)
  show Tn _ _ 39 T σ [(0, .ref a), (1, .int (iI f)), (3, .int (iI i31)), (4, .int (iI i42))] [] _
  refine tn_iload_n dX1_slotOf_39 rfl 2 rfl ?_
  exact tn_iret rfl dX1_slotOf_40 ⟨_, rfl, rfl, rfl, by omega, by omega⟩
end
section
theorem cd_X1_hasName : Cond.code yX1_hasName cX1_hasName 3 (some .boolean) ∈ pWW := pw4 (List.mem_of_getElem? (i := 104) rfl) rfl
abbrev m_X1_hasName : MT := (yX1_hasName, cX1_hasName, 3, (some .boolean))
theorem ok_X1_hasName : pOk m_X1_hasName := ⟨⟨cd_X1_hasName, ini_1⟩, by decide +kernel, ⟨by decide +kernel, by decide +kernel⟩, Nat.le_of_ble_eq_true rfl⟩
theorem np_X1_hasName : (parseMethodDescriptor yX1_hasName.desc).map (fun d => d.parameters.length) = some 2 := by decide +kernel
theorem im_X1_hasName : Cond.instanceMethod yX1_hasName ∈ pWW := pw4 (List.mem_of_getElem? (i := 102) rfl) rfl
theorem se_X1_hasName : Cond.selects RX1 yX1_hasName yX1_hasName ∈ pWW := pw4 (List.mem_of_getElem? (i := 103) rfl) rfl
theorem dX1_hasName_0 : decode cX1_hasName 0 = .ok (.iload_n 1, 1) := by decide +kernel
theorem dX1_hasName_1 : decode cX1_hasName 1 = .ok (.ifCond .lt 31, 3) := by decide +kernel
theorem dX1_hasName_32 : decode cX1_hasName 32 = .ok (.iconst 0, 1) := by decide +kernel
theorem dX1_hasName_33 : decode cX1_hasName 33 = .ok (.ireturn, 1) := by decide +kernel
theorem dX1_hasName_4 : decode cX1_hasName 4 = .ok (.iload_n 1, 1) := by decide +kernel
theorem dX1_hasName_5 : decode cX1_hasName 5 = .ok (.aload_n 0, 1) := by decide +kernel
theorem dX1_hasName_6 : decode cX1_hasName 6 = .ok (.getfield 46, 3) := by decide +kernel
theorem dX1_hasName_9 : decode cX1_hasName 9 = .ok (.if_icmp .ge 23, 3) := by decide +kernel
theorem dX1_hasName_12 : decode cX1_hasName 12 = .ok (.iload_n 2, 1) := by decide +kernel
theorem dX1_hasName_13 : decode cX1_hasName 13 = .ok (.ifCond .lt 19, 3) := by decide +kernel
theorem dX1_hasName_16 : decode cX1_hasName 16 = .ok (.iload_n 2, 1) := by decide +kernel
theorem dX1_hasName_17 : decode cX1_hasName 17 = .ok (.aload_n 0, 1) := by decide +kernel
theorem dX1_hasName_18 : decode cX1_hasName 18 = .ok (.getfield 24, 3) := by decide +kernel
theorem dX1_hasName_21 : decode cX1_hasName 21 = .ok (.iload_n 1, 1) := by decide +kernel
theorem dX1_hasName_22 : decode cX1_hasName 22 = .ok (.invokestatic 53, 3) := by decide +kernel
theorem dX1_hasName_25 : decode cX1_hasName 25 = .ok (.if_icmp .ge 7, 3) := by decide +kernel
theorem dX1_hasName_28 : decode cX1_hasName 28 = .ok (.iconst 1, 1) := by decide +kernel
theorem dX1_hasName_29 : decode cX1_hasName 29 = .ok (.goto 4, 3) := by decide +kernel
set_option maxRecDepth 20000 in
theorem k_X1_hasName (d : Nat) {T : CT} {σ : MS} {a : Nat} {f : Int} {m : Int} (ha : OB T a 1) (h_f : -2147483648 ≤ f ∧ f ≤ 2147483647) (h_m : -2147483648 ≤ m ∧ m ≤ 2147483647) (hw : WT T σ) : Tn (d + 2) m_X1_hasName 0 T σ [(0, .ref a), (1, .int (iI f)), (2, .int (iI m))] [] (fun ro T2 σ2 => ∃ v : Int, ro = some (.int (iI v)) ∧ T = T2 ∧ σ = σ2 ∧ (v = 0 ∨ v = 1)) := by
  refine tn_iload_n dX1_hasName_0 rfl 1 rfl ?_
  refine tn_if_lt (tgt := 32) dX1_hasName_1 (by decide) ⟨by omega, by omega⟩ (fun h1 => ?_) (fun h1 => ?_)
  · refine tn_iconst dX1_hasName_32 ?_
    exact tn_zret (v := 0) rfl (by decide) dX1_hasName_33 ⟨_, rfl, rfl, rfl, by omega⟩
  · refine tn_iload_n dX1_hasName_4 rfl 1 rfl ?_
    refine tn_aload_n dX1_hasName_5 rfl 0 rfl ?_
    refine tn_getI (ci := 1) (i := 5) (n := 10) (t := σ.2.1 10 a) dX1_hasName_6 rfl lay_1 (by decide) fl1_46 ha rfl rfl (rfl) ?_
    have g2 : ((0 : Int) ≤ σ.2.1 10 a ∧ σ.2.1 10 a ≤ 12) := wf_10 hw ha
    refine tn_icmp_ge (tgt := 32) dX1_hasName_9 (by decide) ⟨by omega, by omega⟩ ⟨by omega, by omega⟩ (fun h3 => ?_) (fun h3 => ?_)
    · refine tn_iconst dX1_hasName_32 ?_
      exact tn_zret (v := 0) rfl (by decide) dX1_hasName_33 ⟨_, rfl, rfl, rfl, by omega⟩
    · refine tn_iload_n dX1_hasName_12 rfl 2 rfl ?_
      refine tn_if_lt (tgt := 32) dX1_hasName_13 (by decide) ⟨by omega, by omega⟩ (fun h4 => ?_) (fun h4 => ?_)
      · refine tn_iconst dX1_hasName_32 ?_
        exact tn_zret (v := 0) rfl (by decide) dX1_hasName_33 ⟨_, rfl, rfl, rfl, by omega⟩
      · refine tn_iload_n dX1_hasName_16 rfl 2 rfl ?_
        refine tn_aload_n dX1_hasName_17 rfl 0 rfl ?_
        obtain ⟨x5, hx6, hk7, hl8⟩ : ∃ x : Nat, σ.2.1 14 a = (x : Int) ∧ AR T x 11 12 12 := wf_14 hw ha
        have hk7i : IA T x5 := by unfold IA; omega
        refine tn_getR (ci := 1) (i := 9) (n := 14) (x := x5) dX1_hasName_18 rfl lay_1 (by decide) fl1_24 ha rfl rfl (hx6) ?_
        refine tn_iload_n dX1_hasName_21 rfl 1 rfl ?_
        refine tn_callSN (M := m_X1_hasName) (pc := 22) (ix := 53) (M' := m_X11_at) (As := [.ref x5, .int (iI f)]) (rest := [.int (iI m)]) dX1_hasName_22 ok_X11_at stt_X11_at nl1_53 np_X11_at rfl (Nat.le_of_ble_eq_true rfl) (Nat.le_of_ble_eq_true rfl) rfl (k_X11_at (d) (T := T) (σ := σ) (x := x5) (i := f) hk7i (by omega) (by omega) hw ) (fun r9 T11 σ10 gt12 hp => ?_)
        obtain ⟨v16, rfl, rfl, rfl, f13, f14, f15⟩ := hp
        clear gt12
        have f14n := f14.2.1 hk7
        clear f14 f15
        show Tn _ _ 25 T σ [(0, .ref a), (1, .int (iI f)), (2, .int (iI m))] [.int (iI v16), .int (iI m)] _
        refine tn_icmp_ge (tgt := 32) dX1_hasName_25 (by decide) ⟨by omega, by omega⟩ ⟨by omega, by omega⟩ (fun h17 => ?_) (fun h17 => ?_)
        · refine tn_iconst dX1_hasName_32 ?_
          exact tn_zret (v := 0) rfl (by decide) dX1_hasName_33 ⟨_, rfl, rfl, rfl, by omega⟩
        · refine tn_iconst dX1_hasName_28 ?_
          refine tn_goto (tgt := 33) dX1_hasName_29 (by decide) ?_
          exact tn_zret (v := 1) rfl (by decide) dX1_hasName_33 ⟨_, rfl, rfl, rfl, by omega⟩
end
section
theorem cd_X1_lastOperand : Cond.code yX1_lastOperand cX1_lastOperand 5 none ∈ pWW := pw3 (List.mem_of_getElem? (i := 189) rfl) rfl
abbrev m_X1_lastOperand : MT := (yX1_lastOperand, cX1_lastOperand, 5, none)
theorem ok_X1_lastOperand : pOk m_X1_lastOperand := ⟨⟨cd_X1_lastOperand, ini_1⟩, by decide +kernel, ⟨by decide +kernel, by decide +kernel⟩, Nat.le_of_ble_eq_true rfl⟩
theorem np_X1_lastOperand : (parseMethodDescriptor yX1_lastOperand.desc).map (fun d => d.parameters.length) = some 3 := by decide +kernel
theorem im_X1_lastOperand : Cond.instanceMethod yX1_lastOperand ∈ pWW := pw3 (List.mem_of_getElem? (i := 187) rfl) rfl
theorem se_X1_lastOperand : Cond.selects RX1 yX1_lastOperand yX1_lastOperand ∈ pWW := pw3 (List.mem_of_getElem? (i := 188) rfl) rfl
theorem dX1_lastOperand_0 : decode cX1_lastOperand 0 = .ok (.aload_n 0, 1) := by decide +kernel
theorem dX1_lastOperand_1 : decode cX1_lastOperand 1 = .ok (.getfield 33, 3) := by decide +kernel
theorem dX1_lastOperand_4 : decode cX1_lastOperand 4 = .ok (.iconst 1, 1) := by decide +kernel
theorem dX1_lastOperand_5 : decode cX1_lastOperand 5 = .ok (.isub, 1) := by decide +kernel
theorem dX1_lastOperand_6 : decode cX1_lastOperand 6 = .ok (.bipush 13, 2) := by decide +kernel
theorem dX1_lastOperand_8 : decode cX1_lastOperand 8 = .ok (.imul, 1) := by decide +kernel
theorem dX1_lastOperand_9 : decode cX1_lastOperand 9 = .ok (.iconst 3, 1) := by decide +kernel
theorem dX1_lastOperand_10 : decode cX1_lastOperand 10 = .ok (.iadd, 1) := by decide +kernel
theorem dX1_lastOperand_11 : decode cX1_lastOperand 11 = .ok (.iconst 2, 1) := by decide +kernel
theorem dX1_lastOperand_12 : decode cX1_lastOperand 12 = .ok (.iload_n 1, 1) := by decide +kernel
theorem dX1_lastOperand_13 : decode cX1_lastOperand 13 = .ok (.imul, 1) := by decide +kernel
theorem dX1_lastOperand_14 : decode cX1_lastOperand 14 = .ok (.iadd, 1) := by decide +kernel
theorem dX1_lastOperand_15 : decode cX1_lastOperand 15 = .ok (.istore 4, 2) := by decide +kernel
theorem dX1_lastOperand_17 : decode cX1_lastOperand 17 = .ok (.iload_n 1, 1) := by decide +kernel
theorem dX1_lastOperand_18 : decode cX1_lastOperand 18 = .ok (.ifCond .lt 43, 3) := by decide +kernel
theorem dX1_lastOperand_61 : decode cX1_lastOperand 61 = .ok (.return_, 1) := by decide +kernel
theorem dX1_lastOperand_21 : decode cX1_lastOperand 21 = .ok (.iload_n 1, 1) := by decide +kernel
theorem dX1_lastOperand_22 : decode cX1_lastOperand 22 = .ok (.iconst 4, 1) := by decide +kernel
theorem dX1_lastOperand_23 : decode cX1_lastOperand 23 = .ok (.if_icmp .ge 38, 3) := by decide +kernel
theorem dX1_lastOperand_26 : decode cX1_lastOperand 26 = .ok (.iload 4, 2) := by decide +kernel
theorem dX1_lastOperand_28 : decode cX1_lastOperand 28 = .ok (.ifCond .lt 33, 3) := by decide +kernel
theorem dX1_lastOperand_31 : decode cX1_lastOperand 31 = .ok (.iload 4, 2) := by decide +kernel
theorem dX1_lastOperand_33 : decode cX1_lastOperand 33 = .ok (.iconst 1, 1) := by decide +kernel
theorem dX1_lastOperand_34 : decode cX1_lastOperand 34 = .ok (.iadd, 1) := by decide +kernel
theorem dX1_lastOperand_35 : decode cX1_lastOperand 35 = .ok (.aload_n 0, 1) := by decide +kernel
theorem dX1_lastOperand_36 : decode cX1_lastOperand 36 = .ok (.getfield 9, 3) := by decide +kernel
theorem dX1_lastOperand_39 : decode cX1_lastOperand 39 = .ok (.arraylength, 1) := by decide +kernel
theorem dX1_lastOperand_40 : decode cX1_lastOperand 40 = .ok (.if_icmp .ge 21, 3) := by decide +kernel
theorem dX1_lastOperand_43 : decode cX1_lastOperand 43 = .ok (.aload_n 0, 1) := by decide +kernel
theorem dX1_lastOperand_44 : decode cX1_lastOperand 44 = .ok (.getfield 9, 3) := by decide +kernel
theorem dX1_lastOperand_47 : decode cX1_lastOperand 47 = .ok (.iload 4, 2) := by decide +kernel
theorem dX1_lastOperand_49 : decode cX1_lastOperand 49 = .ok (.iload_n 2, 1) := by decide +kernel
theorem dX1_lastOperand_50 : decode cX1_lastOperand 50 = .ok (.iastore, 1) := by decide +kernel
theorem dX1_lastOperand_51 : decode cX1_lastOperand 51 = .ok (.aload_n 0, 1) := by decide +kernel
theorem dX1_lastOperand_52 : decode cX1_lastOperand 52 = .ok (.getfield 9, 3) := by decide +kernel
theorem dX1_lastOperand_55 : decode cX1_lastOperand 55 = .ok (.iload 4, 2) := by decide +kernel
theorem dX1_lastOperand_57 : decode cX1_lastOperand 57 = .ok (.iconst 1, 1) := by decide +kernel
theorem dX1_lastOperand_58 : decode cX1_lastOperand 58 = .ok (.iadd, 1) := by decide +kernel
theorem dX1_lastOperand_59 : decode cX1_lastOperand 59 = .ok (.iload_n 3, 1) := by decide +kernel
theorem dX1_lastOperand_60 : decode cX1_lastOperand 60 = .ok (.iastore, 1) := by decide +kernel
set_option maxRecDepth 20000 in
theorem k_X1_lastOperand (d : Nat) {T : CT} {σ : MS} {a : Nat} {i : Int} {k : Int} {y : Int} (ha : OB T a 1) (h_i : -2147483648 ≤ i ∧ i ≤ 2147483647) (h_k : -2147483648 ≤ k ∧ k ≤ 2147483647) (h_y : -2147483648 ≤ y ∧ y ≤ 2147483647) (hw : WT T σ) : Tn (d + 1) m_X1_lastOperand 0 T σ [(0, .ref a), (1, .int (iI i)), (2, .int (iI k)), (3, .int (iI y))] [] (fun ro T2 σ2 => ro = none ∧ T = T2 ∧ WT T2 σ2 ∧ FrC T [] σ σ2) := by
  refine tn_aload_n dX1_lastOperand_0 rfl 0 rfl ?_
  refine tn_getI (ci := 1) (i := 1) (n := 6) (t := σ.2.1 6 a) dX1_lastOperand_1 rfl lay_1 (by decide) fl1_33 ha rfl rfl (rfl) ?_
  have g1 : ((0 : Int) ≤ σ.2.1 6 a ∧ σ.2.1 6 a ≤ 5000) ∧ ((T a).1 = 50 → σ.2.1 6 a ≤ 200) := wf_6 hw ha
  have g1x := g1.2
  replace g1 := g1.1
  clear g1x
  refine tn_iconst dX1_lastOperand_4 ?_
  refine tn_isub dX1_lastOperand_5 ?_
  refine tn_bipush dX1_lastOperand_6 (by decide) ?_
  refine tn_imul dX1_lastOperand_8 ?_
  refine tn_iconst dX1_lastOperand_9 ?_
  refine tn_iadd dX1_lastOperand_10 ?_
  refine tn_iconst dX1_lastOperand_11 ?_
  refine tn_iload_n dX1_lastOperand_12 rfl 1 rfl ?_
  refine tn_imul dX1_lastOperand_13 ?_
  refine tn_iadd dX1_lastOperand_14 ?_
  refine tn_istore (L' := [(4, .int (iI (((((σ.2.1 6 a) - 1) * 13) + 3) + (2 * i)))), (0, .ref a), (1, .int (iI i)), (2, .int (iI k)), (3, .int (iI y))]) dX1_lastOperand_15 (by decide) rfl ?_
  refine tn_iload_n dX1_lastOperand_17 rfl 2 rfl ?_
  refine tn_if_lt (tgt := 61) dX1_lastOperand_18 (by decide) ⟨by omega, by omega⟩ (fun h2 => ?_) (fun h2 => ?_)
  · exact tn_vret rfl dX1_lastOperand_61 ⟨rfl, rfl, hw, FrC.rfl⟩
  · refine tn_iload_n dX1_lastOperand_21 rfl 2 rfl ?_
    refine tn_iconst dX1_lastOperand_22 ?_
    refine tn_icmp_ge (tgt := 61) dX1_lastOperand_23 (by decide) ⟨by omega, by omega⟩ ⟨by decide, by decide⟩ (fun h3 => ?_) (fun h3 => ?_)
    · exact tn_vret rfl dX1_lastOperand_61 ⟨rfl, rfl, hw, FrC.rfl⟩
    · refine tn_iload dX1_lastOperand_26 0 rfl ?_
      refine tn_if_lt (tgt := 61) dX1_lastOperand_28 (by decide) ⟨by omega, by omega⟩ (fun h4 => ?_) (fun h4 => ?_)
      · exact tn_vret rfl dX1_lastOperand_61 ⟨rfl, rfl, hw, FrC.rfl⟩
      · refine tn_iload dX1_lastOperand_31 0 rfl ?_
        refine tn_iconst dX1_lastOperand_33 ?_
        refine tn_iadd dX1_lastOperand_34 ?_
        refine tn_aload_n dX1_lastOperand_35 rfl 1 rfl ?_
        obtain ⟨x5, hx6, hl8, hk7a, hk7b⟩ := wf_5 hw ha
        have hk7i : IA T x5 := by unfold IA; omega
        have hk7c : CELL T a x5 := ⟨hk7a, hk7b⟩
        clear hk7a hk7b
        refine tn_getR (ci := 1) (i := 0) (n := 5) (x := x5) dX1_lastOperand_36 rfl lay_1 (by decide) fl1_9 ha rfl rfl (hx6) ?_
        refine tn_alenX dX1_lastOperand_39 (Or.inl hk7i) ?_
        refine tn_icmp_ge (tgt := 61) dX1_lastOperand_40 (by decide) ⟨by omega, by omega⟩ ⟨by omega, by omega⟩ (fun h9 => ?_) (fun h9 => ?_)
        · exact tn_vret rfl dX1_lastOperand_61 ⟨rfl, rfl, hw, FrC.rfl⟩
        · refine tn_aload_n dX1_lastOperand_43 rfl 1 rfl ?_
          refine tn_getR (ci := 1) (i := 0) (n := 5) (x := x5) dX1_lastOperand_44 rfl lay_1 (by decide) fl1_9 ha rfl rfl (hx6) ?_
          refine tn_iload dX1_lastOperand_47 0 rfl ?_
          refine tn_iload_n dX1_lastOperand_49 rfl 3 rfl ?_
          refine tn_iast (z := ((((σ.2.1 6 a) - 1) * 13) + 3) + (2 * i)) (v := k) dX1_lastOperand_50 hk7i (by omega) (by omega) (by omega) ?_
          refine tn_aload_n dX1_lastOperand_51 rfl 1 rfl ?_
          refine tn_getR (ci := 1) (i := 0) (n := 5) (x := x5) dX1_lastOperand_52 rfl lay_1 (by decide) fl1_9 ha rfl rfl (rc_a (Or.inl (by decide)) (hx6)) ?_
          refine tn_iload dX1_lastOperand_55 0 rfl ?_
          refine tn_iconst dX1_lastOperand_57 ?_
          refine tn_iadd dX1_lastOperand_58 ?_
          refine tn_iload_n dX1_lastOperand_59 rfl 4 rfl ?_
          refine tn_iast (z := (((((σ.2.1 6 a) - 1) * 13) + 3) + (2 * i)) + 1) (v := y) dX1_lastOperand_60 hk7i (by omega) (by omega) (by omega) ?_
          exact tn_vret rfl dX1_lastOperand_61 ⟨rfl, rfl, ((hw.arr (Or.inl hk7i) (hk7c.vok (by omega) (fun q r => by omega))).arr (Or.inl hk7i) (hk7c.vok (by omega) (fun q r => by omega))), ((FrC.rfl.arr (hk_no (CELL.nh hk7c))).arr (hk_no (CELL.nh hk7c)))⟩
end
section
theorem cd_X1_rowOfLabel : Cond.code yX1_rowOfLabel cX1_rowOfLabel 3 (some .int) ∈ pWW := pw4 (List.mem_of_getElem? (i := 31) rfl) rfl
abbrev m_X1_rowOfLabel : MT := (yX1_rowOfLabel, cX1_rowOfLabel, 3, (some .int))
theorem ok_X1_rowOfLabel : pOk m_X1_rowOfLabel := ⟨⟨cd_X1_rowOfLabel, ini_1⟩, by decide +kernel, ⟨by decide +kernel, by decide +kernel⟩, Nat.le_of_ble_eq_true rfl⟩
theorem np_X1_rowOfLabel : (parseMethodDescriptor yX1_rowOfLabel.desc).map (fun d => d.parameters.length) = some 1 := by decide +kernel
theorem im_X1_rowOfLabel : Cond.instanceMethod yX1_rowOfLabel ∈ pWW := pw4 (List.mem_of_getElem? (i := 30) rfl) rfl
theorem se_X1_rowOfLabel : Cond.selects RX1 yX1_rowOfLabel yX1_rowOfLabel ∈ pWW := pws (List.mem_map.mpr ⟨_, lw_pin 35 rfl, rfl⟩) rfl
theorem ml1_86 : Cond.methodLink RX1 86 yX1_get ∈ pWW := pw4 (List.mem_of_getElem? (i := 5) rfl) rfl
theorem dX1_rowOfLabel_0 : decode cX1_rowOfLabel 0 = .ok (.iconst 0, 1) := by decide +kernel
theorem dX1_rowOfLabel_1 : decode cX1_rowOfLabel 1 = .ok (.istore_n 2, 1) := by decide +kernel
theorem dX1_rowOfLabel_2 : decode cX1_rowOfLabel 2 = .ok (.iload_n 2, 1) := by decide +kernel
theorem dX1_rowOfLabel_3 : decode cX1_rowOfLabel 3 = .ok (.aload_n 0, 1) := by decide +kernel
theorem dX1_rowOfLabel_4 : decode cX1_rowOfLabel 4 = .ok (.getfield 33, 3) := by decide +kernel
theorem dX1_rowOfLabel_7 : decode cX1_rowOfLabel 7 = .ok (.if_icmp .ge 32, 3) := by decide +kernel
theorem dX1_rowOfLabel_10 : decode cX1_rowOfLabel 10 = .ok (.aload_n 0, 1) := by decide +kernel
theorem dX1_rowOfLabel_11 : decode cX1_rowOfLabel 11 = .ok (.iload_n 2, 1) := by decide +kernel
theorem dX1_rowOfLabel_12 : decode cX1_rowOfLabel 12 = .ok (.iconst 0, 1) := by decide +kernel
theorem dX1_rowOfLabel_13 : decode cX1_rowOfLabel 13 = .ok (.invokevirtual 86, 3) := by decide +kernel
theorem dX1_rowOfLabel_16 : decode cX1_rowOfLabel 16 = .ok (.bipush 13, 2) := by decide +kernel
theorem dX1_rowOfLabel_18 : decode cX1_rowOfLabel 18 = .ok (.if_icmp .ne 15, 3) := by decide +kernel
theorem dX1_rowOfLabel_33 : decode cX1_rowOfLabel 33 = .ok (.iinc 2 1, 3) := by decide +kernel
theorem dX1_rowOfLabel_36 : decode cX1_rowOfLabel 36 = .ok (.goto (-34), 3) := by decide +kernel
theorem dX1_rowOfLabel_21 : decode cX1_rowOfLabel 21 = .ok (.aload_n 0, 1) := by decide +kernel
theorem dX1_rowOfLabel_22 : decode cX1_rowOfLabel 22 = .ok (.iload_n 2, 1) := by decide +kernel
theorem dX1_rowOfLabel_23 : decode cX1_rowOfLabel 23 = .ok (.iconst 1, 1) := by decide +kernel
theorem dX1_rowOfLabel_24 : decode cX1_rowOfLabel 24 = .ok (.invokevirtual 86, 3) := by decide +kernel
theorem dX1_rowOfLabel_27 : decode cX1_rowOfLabel 27 = .ok (.iload_n 1, 1) := by decide +kernel
theorem dX1_rowOfLabel_28 : decode cX1_rowOfLabel 28 = .ok (.if_icmp .ne 5, 3) := by decide +kernel
set_option maxRecDepth 20000 in
theorem l_X1_rowOfLabel_2 (d : Nat) {T : CT} {σ : MS} {a : Nat} {c1 : Int} {post : Option Value → CT → MS → Prop} (h_a : OB T a 1) (r_c1 : -2147483648 ≤ c1 ∧ c1 ≤ 2147483647) (hw : WT T σ) (hx_31 : ∀ (i2 : Int) , (0 ≤ i2 ∧ i2 ≤ 2147483647) → Tn (d + 2) m_X1_rowOfLabel 31 T σ [(0, .ref a), (1, .int (iI c1)), (2, .int (iI i2))] [] post) (hx_39 : ∀ (i2 : Int) , (0 ≤ i2 ∧ i2 ≤ 2147483647) → Tn (d + 2) m_X1_rowOfLabel 39 T σ [(0, .ref a), (1, .int (iI c1)), (2, .int (iI i2))] [] post) : ∀ (n : Nat) (i2 : Int) , (0 ≤ i2 ∧ i2 ≤ 2147483647) → (2147483700 - i2).toNat = n → Tn (d + 2) m_X1_rowOfLabel 2 T σ [(0, .ref a), (1, .int (iI c1)), (2, .int (iI i2))] [] post := by
  intro n
  induction n using Nat.strongRecOn with
  | _ n ih =>
    intro i2 r_i2 hm
    refine tn_iload_n dX1_rowOfLabel_2 rfl 2 rfl ?_
    refine tn_aload_n dX1_rowOfLabel_3 rfl 0 rfl ?_
    refine tn_getI (ci := 1) (i := 1) (n := 6) (t := σ.2.1 6 a) dX1_rowOfLabel_4 rfl lay_1 (by decide) fl1_33 h_a rfl rfl (rfl) ?_
    have g1 : ((0 : Int) ≤ σ.2.1 6 a ∧ σ.2.1 6 a ≤ 5000) ∧ ((T a).1 = 50 → σ.2.1 6 a ≤ 200) := wf_6 hw h_a
    have g1x := g1.2
    replace g1 := g1.1
    clear g1x
    refine tn_icmp_ge (tgt := 39) dX1_rowOfLabel_7 (by decide) ⟨by omega, by omega⟩ ⟨by omega, by omega⟩ (fun h2 => ?_) (fun h2 => ?_)
    · exact tn_sub [0, 1, 2] rfl (hx_39 (i2) (by omega))
    · refine tn_aload_n dX1_rowOfLabel_10 rfl 0 rfl ?_
      refine tn_iload_n dX1_rowOfLabel_11 rfl 2 rfl ?_
      refine tn_iconst dX1_rowOfLabel_12 ?_
      refine tn_callV (M := m_X1_rowOfLabel) (pc := 13) (ix := 86) (ci := 1) (M' := m_X1_get) (As := [.int (iI i2), .int (iI 0)]) (rest := []) dX1_rowOfLabel_13 ok_X1_get im_X1_get se_X1_get ml1_86 np_X1_get rfl rfl h_a rfl (Nat.le_of_ble_eq_true rfl) (Nat.le_of_ble_eq_true rfl) rfl (k_X1_get (d) (T := T) (σ := σ) (a := a) (k := i2) (c := 0) h_a (by omega) (by decide) hw (by omega)) (fun r3 T5 σ4 gt6 hp => ?_)
      obtain ⟨v8, rfl, rfl, rfl, f7⟩ := hp
      clear gt6
      show Tn _ _ 16 T σ [(0, .ref a), (1, .int (iI c1)), (2, .int (iI i2))] [.int (iI v8)] _
      refine tn_bipush dX1_rowOfLabel_16 (by decide) ?_
      refine tn_icmp_ne (tgt := 33) dX1_rowOfLabel_18 (by decide) ⟨by omega, by omega⟩ ⟨by decide, by decide⟩ (fun h9 => ?_) (fun h9 => ?_)
      · refine tn_iinc (q0 := 2) (L' := [(2, .int (iI (i2 + 1))), (0, .ref a), (1, .int (iI c1))]) dX1_rowOfLabel_33 rfl (by decide) rfl ?_
        refine tn_goto (tgt := 2) dX1_rowOfLabel_36 (by decide) ?_
        exact tn_sub [1, 2, 0] rfl (ih _ (by omega) (i2 + 1) (by omega) rfl)
      · refine tn_aload_n dX1_rowOfLabel_21 rfl 0 rfl ?_
        refine tn_iload_n dX1_rowOfLabel_22 rfl 2 rfl ?_
        refine tn_iconst dX1_rowOfLabel_23 ?_
        refine tn_callV (M := m_X1_rowOfLabel) (pc := 24) (ix := 86) (ci := 1) (M' := m_X1_get) (As := [.int (iI i2), .int (iI 1)]) (rest := []) dX1_rowOfLabel_24 ok_X1_get im_X1_get se_X1_get ml1_86 np_X1_get rfl rfl h_a rfl (Nat.le_of_ble_eq_true rfl) (Nat.le_of_ble_eq_true rfl) rfl (k_X1_get (d) (T := T) (σ := σ) (a := a) (k := i2) (c := 1) h_a (by omega) (by decide) hw (by omega)) (fun r10 T12 σ11 gt13 hp => ?_)
        obtain ⟨v15, rfl, rfl, rfl, f14⟩ := hp
        clear gt13
        show Tn _ _ 27 T σ [(0, .ref a), (1, .int (iI c1)), (2, .int (iI i2))] [.int (iI v15)] _
        refine tn_iload_n dX1_rowOfLabel_27 rfl 1 rfl ?_
        refine tn_icmp_ne (tgt := 33) dX1_rowOfLabel_28 (by decide) ⟨by omega, by omega⟩ ⟨by omega, by omega⟩ (fun h16 => ?_) (fun h16 => ?_)
        · refine tn_iinc (q0 := 2) (L' := [(2, .int (iI (i2 + 1))), (0, .ref a), (1, .int (iI c1))]) dX1_rowOfLabel_33 rfl (by decide) rfl ?_
          refine tn_goto (tgt := 2) dX1_rowOfLabel_36 (by decide) ?_
          exact tn_sub [1, 2, 0] rfl (ih _ (by omega) (i2 + 1) (by omega) rfl)
        · exact tn_sub [0, 1, 2] rfl (hx_31 (i2) (by omega))
theorem dX1_rowOfLabel_31 : decode cX1_rowOfLabel 31 = .ok (.iload_n 2, 1) := by decide +kernel
theorem dX1_rowOfLabel_32 : decode cX1_rowOfLabel 32 = .ok (.ireturn, 1) := by decide +kernel
theorem dX1_rowOfLabel_39 : decode cX1_rowOfLabel 39 = .ok (.iconst (-1), 1) := by decide +kernel
theorem dX1_rowOfLabel_40 : decode cX1_rowOfLabel 40 = .ok (.ireturn, 1) := by decide +kernel
set_option maxRecDepth 20000 in
theorem k_X1_rowOfLabel (d : Nat) {T : CT} {σ : MS} {a : Nat} {l : Int} (ha : OB T a 1) (h_l : -2147483648 ≤ l ∧ l ≤ 2147483647) (hw : WT T σ) : Tn (d + 2) m_X1_rowOfLabel 0 T σ [(0, .ref a), (1, .int (iI l))] [] (fun ro T2 σ2 => ∃ v : Int, ro = some (.int (iI v)) ∧ T = T2 ∧ σ = σ2 ∧ (-2147483648 ≤ v ∧ v ≤ 2147483647)) := by
  refine tn_iconst dX1_rowOfLabel_0 ?_
  refine tn_istore_n (L' := [(2, .int (iI 0)), (0, .ref a), (1, .int (iI l))]) dX1_rowOfLabel_1 rfl (by decide) rfl ?_
  refine tn_sub [1, 2, 0] rfl (l_X1_rowOfLabel_2 (d) (T := T) (σ := σ) (a := a) (c1 := l) ha (by omega) hw (fun i21 r7 => ?_) (fun i28 r14 => ?_) _ (0) (by omega) rfl)
  · show Tn _ _ 31 T σ [(0, .ref a), (1, .int (iI l)), (2, .int (iI i21))] [] _
    refine tn_iload_n dX1_rowOfLabel_31 rfl 2 rfl ?_
    exact tn_iret rfl dX1_rowOfLabel_32 ⟨_, rfl, rfl, rfl, by omega⟩
  · show Tn _ _ 39 T σ [(0, .ref a), (1, .int (iI l)), (2, .int (iI i28))] [] _
    refine tn_iconst dX1_rowOfLabel_39 ?_
    exact tn_iret rfl dX1_rowOfLabel_40 ⟨_, rfl, rfl, rfl, by omega⟩
end
section
theorem cd_X1_link : Cond.code yX1_link cX1_link 3 none ∈ pWW := pw4 (List.mem_of_getElem? (i := 27) rfl) rfl
abbrev m_X1_link : MT := (yX1_link, cX1_link, 3, none)
theorem ok_X1_link : pOk m_X1_link := ⟨⟨cd_X1_link, ini_1⟩, by decide +kernel, ⟨by decide +kernel, by decide +kernel⟩, Nat.le_of_ble_eq_true rfl⟩
theorem np_X1_link : (parseMethodDescriptor yX1_link.desc).map (fun d => d.parameters.length) = some 0 := by decide +kernel
theorem im_X1_link : Cond.instanceMethod yX1_link ∈ pWW := pw4 (List.mem_of_getElem? (i := 25) rfl) rfl
theorem se_X1_link : Cond.selects RX1 yX1_link yX1_link ∈ pWW := pw4 (List.mem_of_getElem? (i := 26) rfl) rfl
theorem ml1_89 : Cond.methodLink RX1 89 yX1_rowOfLabel ∈ pWW := pw4 (List.mem_of_getElem? (i := 28) rfl) rfl
theorem ml1_93 : Cond.methodLink RX1 93 yX1_set ∈ pWW := pw3 (List.mem_of_getElem? (i := 202) rfl) rfl
theorem dX1_link_0 : decode cX1_link 0 = .ok (.iconst 0, 1) := by decide +kernel
theorem dX1_link_1 : decode cX1_link 1 = .ok (.istore_n 1, 1) := by decide +kernel
theorem dX1_link_2 : decode cX1_link 2 = .ok (.iload_n 1, 1) := by decide +kernel
theorem dX1_link_3 : decode cX1_link 3 = .ok (.aload_n 0, 1) := by decide +kernel
theorem dX1_link_4 : decode cX1_link 4 = .ok (.getfield 33, 3) := by decide +kernel
theorem dX1_link_7 : decode cX1_link 7 = .ok (.if_icmp .ge 45, 3) := by decide +kernel
theorem dX1_link_10 : decode cX1_link 10 = .ok (.aload_n 0, 1) := by decide +kernel
theorem dX1_link_11 : decode cX1_link 11 = .ok (.iload_n 1, 1) := by decide +kernel
theorem dX1_link_12 : decode cX1_link 12 = .ok (.iconst 0, 1) := by decide +kernel
theorem dX1_link_13 : decode cX1_link 13 = .ok (.invokevirtual 86, 3) := by decide +kernel
theorem dX1_link_16 : decode cX1_link 16 = .ok (.istore_n 2, 1) := by decide +kernel
theorem dX1_link_17 : decode cX1_link 17 = .ok (.iload_n 2, 1) := by decide +kernel
theorem dX1_link_18 : decode cX1_link 18 = .ok (.bipush 8, 2) := by decide +kernel
theorem dX1_link_20 : decode cX1_link 20 = .ok (.if_icmp .eq 9, 3) := by decide +kernel
theorem dX1_link_29 : decode cX1_link 29 = .ok (.aload_n 0, 1) := by decide +kernel
theorem dX1_link_30 : decode cX1_link 30 = .ok (.iload_n 1, 1) := by decide +kernel
theorem dX1_link_31 : decode cX1_link 31 = .ok (.bipush 12, 2) := by decide +kernel
theorem dX1_link_33 : decode cX1_link 33 = .ok (.aload_n 0, 1) := by decide +kernel
theorem dX1_link_34 : decode cX1_link 34 = .ok (.aload_n 0, 1) := by decide +kernel
theorem dX1_link_35 : decode cX1_link 35 = .ok (.iload_n 1, 1) := by decide +kernel
theorem dX1_link_36 : decode cX1_link 36 = .ok (.iconst 1, 1) := by decide +kernel
theorem dX1_link_37 : decode cX1_link 37 = .ok (.invokevirtual 86, 3) := by decide +kernel
theorem dX1_link_40 : decode cX1_link 40 = .ok (.invokevirtual 89, 3) := by decide +kernel
theorem dX1_link_43 : decode cX1_link 43 = .ok (.invokevirtual 93, 3) := by decide +kernel
theorem dX1_link_46 : decode cX1_link 46 = .ok (.iinc 1 1, 3) := by decide +kernel
theorem dX1_link_49 : decode cX1_link 49 = .ok (.goto (-47), 3) := by decide +kernel
theorem dX1_link_23 : decode cX1_link 23 = .ok (.iload_n 2, 1) := by decide +kernel
theorem dX1_link_24 : decode cX1_link 24 = .ok (.bipush 9, 2) := by decide +kernel
theorem dX1_link_26 : decode cX1_link 26 = .ok (.if_icmp .ne 20, 3) := by decide +kernel
set_option maxRecDepth 20000 in
theorem l_X1_link_2 (d : Nat) {T : CT} {σ0 : MS} {a : Nat} {post : Option Value → CT → MS → Prop} (h_a : OB T a 1) (hw0 : WT T σ0) (hx_52 : ∀ (i1 : Int) (σ : MS) , (WT T σ) → (FrC T [] σ0 σ) → (0 ≤ i1 ∧ i1 ≤ 2147483647) → Tn (d + 3) m_X1_link 52 T σ [(0, .ref a), (1, .int (iI i1))] [] post) : ∀ (n : Nat) (i1 : Int) (σ : MS) , (WT T σ) → (FrC T [] σ0 σ) → (0 ≤ i1 ∧ i1 ≤ 2147483647) → (2147483700 - i1).toNat = n → Tn (d + 3) m_X1_link 2 T σ [(0, .ref a), (1, .int (iI i1))] [] post := by
  intro n
  induction n using Nat.strongRecOn with
  | _ n ih =>
    intro i1 σ hw hF r_i1 hm
    refine tn_iload_n dX1_link_2 rfl 1 rfl ?_
    refine tn_aload_n dX1_link_3 rfl 0 rfl ?_
    refine tn_getI (ci := 1) (i := 1) (n := 6) (t := σ0.2.1 6 a) dX1_link_4 rfl lay_1 (by decide) fl1_33 h_a rfl rfl (rc_F hF (Or.inl (by decide)) (by decide) (rfl)) ?_
    have g1 : ((0 : Int) ≤ σ0.2.1 6 a ∧ σ0.2.1 6 a ≤ 5000) ∧ ((T a).1 = 50 → σ0.2.1 6 a ≤ 200) := wf_6 hw0 h_a
    have g1x := g1.2
    replace g1 := g1.1
    clear g1x
    refine tn_icmp_ge (tgt := 52) dX1_link_7 (by decide) ⟨by omega, by omega⟩ ⟨by omega, by omega⟩ (fun h2 => ?_) (fun h2 => ?_)
    · exact tn_sub [0, 1] rfl (hx_52 (i1) σ hw (FrC.rfl.trans (FrC.sub hF (by decide))) (by omega))
    · refine tn_aload_n dX1_link_10 rfl 0 rfl ?_
      refine tn_iload_n dX1_link_11 rfl 1 rfl ?_
      refine tn_iconst dX1_link_12 ?_
      refine tn_callV (M := m_X1_link) (pc := 13) (ix := 86) (ci := 1) (M' := m_X1_get) (As := [.int (iI i1), .int (iI 0)]) (rest := []) dX1_link_13 ok_X1_get im_X1_get se_X1_get ml1_86 np_X1_get rfl rfl h_a rfl (Nat.le_of_ble_eq_true rfl) (Nat.le_of_ble_eq_true rfl) rfl (k_X1_get (d + 1) (T := T) (σ := σ) (a := a) (k := i1) (c := 0) h_a (by omega) (by decide) hw (by omega)) (fun r3 T5 σ4 gt6 hp => ?_)
      obtain ⟨v8, rfl, rfl, rfl, f7⟩ := hp
      clear gt6
      show Tn _ _ 16 T σ [(0, .ref a), (1, .int (iI i1))] [.int (iI v8)] _
      refine tn_istore_n (L' := [(2, .int (iI v8)), (0, .ref a), (1, .int (iI i1))]) dX1_link_16 rfl (by decide) rfl ?_
      refine tn_iload_n dX1_link_17 rfl 0 rfl ?_
      refine tn_bipush dX1_link_18 (by decide) ?_
      refine tn_icmp_eq (tgt := 29) dX1_link_20 (by decide) ⟨by omega, by omega⟩ ⟨by decide, by decide⟩ (fun h9 => ?_) (fun h9 => ?_)
      · refine tn_aload_n dX1_link_29 rfl 1 rfl ?_
        refine tn_iload_n dX1_link_30 rfl 2 rfl ?_
        refine tn_bipush dX1_link_31 (by decide) ?_
        refine tn_aload_n dX1_link_33 rfl 1 rfl ?_
        refine tn_aload_n dX1_link_34 rfl 1 rfl ?_
        refine tn_iload_n dX1_link_35 rfl 2 rfl ?_
        refine tn_iconst dX1_link_36 ?_
        refine tn_callV (M := m_X1_link) (pc := 37) (ix := 86) (ci := 1) (M' := m_X1_get) (As := [.int (iI i1), .int (iI 1)]) (rest := [.ref a, .int (iI 12), .int (iI i1), .ref a]) dX1_link_37 ok_X1_get im_X1_get se_X1_get ml1_86 np_X1_get rfl rfl h_a rfl (Nat.le_of_ble_eq_true rfl) (Nat.le_of_ble_eq_true rfl) rfl (k_X1_get (d + 1) (T := T) (σ := σ) (a := a) (k := i1) (c := 1) h_a (by omega) (by decide) hw (by omega)) (fun r10 T12 σ11 gt13 hp => ?_)
        obtain ⟨v15, rfl, rfl, rfl, f14⟩ := hp
        clear gt13
        show Tn _ _ 40 T σ [(2, .int (iI v8)), (0, .ref a), (1, .int (iI i1))] [.int (iI v15), .ref a, .int (iI 12), .int (iI i1), .ref a] _
        refine tn_callV (M := m_X1_link) (pc := 40) (ix := 89) (ci := 1) (M' := m_X1_rowOfLabel) (As := [.int (iI v15)]) (rest := [.int (iI 12), .int (iI i1), .ref a]) dX1_link_40 ok_X1_rowOfLabel im_X1_rowOfLabel se_X1_rowOfLabel ml1_89 np_X1_rowOfLabel rfl rfl h_a rfl (Nat.le_of_ble_eq_true rfl) (Nat.le_of_ble_eq_true rfl) rfl (k_X1_rowOfLabel (d) (T := T) (σ := σ) (a := a) (l := v15) h_a (by omega) hw ) (fun r16 T18 σ17 gt19 hp => ?_)
        obtain ⟨v21, rfl, rfl, rfl, f20⟩ := hp
        clear gt19
        show Tn _ _ 43 T σ [(2, .int (iI v8)), (0, .ref a), (1, .int (iI i1))] [.int (iI v21), .int (iI 12), .int (iI i1), .ref a] _
        refine tn_callV (M := m_X1_link) (pc := 43) (ix := 93) (ci := 1) (M' := m_X1_set) (As := [.int (iI i1), .int (iI 12), .int (iI v21)]) (rest := []) dX1_link_43 ok_X1_set im_X1_set se_X1_set ml1_93 np_X1_set rfl rfl h_a rfl (Nat.le_of_ble_eq_true rfl) (Nat.le_of_ble_eq_true rfl) rfl (k_X1_set (d + 1) (T := T) (σ := σ) (a := a) (k := i1) (c := 12) (y := v21) h_a (by omega) (by decide) (by omega) hw (by omega) (by omega)) (fun r22 T24 σ23 gt25 hp => ?_)
        obtain ⟨rfl, rfl, w27, F28⟩ := hp
        clear gt25
        show Tn _ _ 46 T σ23 [(2, .int (iI v8)), (0, .ref a), (1, .int (iI i1))] [] _
        refine tn_iinc (q0 := 2) (L' := [(1, .int (iI (i1 + 1))), (2, .int (iI v8)), (0, .ref a)]) dX1_link_46 rfl (by decide) rfl ?_
        refine tn_goto (tgt := 2) dX1_link_49 (by decide) ?_
        exact tn_sub [2, 0] rfl (ih _ (by omega) (i1 + 1) σ23 w27 ((FrC.rfl.trans (FrC.sub hF (by decide))).trans (FrC.sub F28 (by decide))) (by omega) rfl)
      · refine tn_iload_n dX1_link_23 rfl 0 rfl ?_
        refine tn_bipush dX1_link_24 (by decide) ?_
        refine tn_icmp_ne (tgt := 46) dX1_link_26 (by decide) ⟨by omega, by omega⟩ ⟨by decide, by decide⟩ (fun h29 => ?_) (fun h29 => ?_)
        · refine tn_iinc (q0 := 2) (L' := [(1, .int (iI (i1 + 1))), (2, .int (iI v8)), (0, .ref a)]) dX1_link_46 rfl (by decide) rfl ?_
          refine tn_goto (tgt := 2) dX1_link_49 (by decide) ?_
          exact tn_sub [2, 0] rfl (ih _ (by omega) (i1 + 1) σ hw (FrC.rfl.trans (FrC.sub hF (by decide))) (by omega) rfl)
        · refine tn_aload_n dX1_link_29 rfl 1 rfl ?_
          refine tn_iload_n dX1_link_30 rfl 2 rfl ?_
          refine tn_bipush dX1_link_31 (by decide) ?_
          refine tn_aload_n dX1_link_33 rfl 1 rfl ?_
          refine tn_aload_n dX1_link_34 rfl 1 rfl ?_
          refine tn_iload_n dX1_link_35 rfl 2 rfl ?_
          refine tn_iconst dX1_link_36 ?_
          refine tn_callV (M := m_X1_link) (pc := 37) (ix := 86) (ci := 1) (M' := m_X1_get) (As := [.int (iI i1), .int (iI 1)]) (rest := [.ref a, .int (iI 12), .int (iI i1), .ref a]) dX1_link_37 ok_X1_get im_X1_get se_X1_get ml1_86 np_X1_get rfl rfl h_a rfl (Nat.le_of_ble_eq_true rfl) (Nat.le_of_ble_eq_true rfl) rfl (k_X1_get (d + 1) (T := T) (σ := σ) (a := a) (k := i1) (c := 1) h_a (by omega) (by decide) hw (by omega)) (fun r30 T32 σ31 gt33 hp => ?_)
          obtain ⟨v35, rfl, rfl, rfl, f34⟩ := hp
          clear gt33
          show Tn _ _ 40 T σ [(2, .int (iI v8)), (0, .ref a), (1, .int (iI i1))] [.int (iI v35), .ref a, .int (iI 12), .int (iI i1), .ref a] _
          refine tn_callV (M := m_X1_link) (pc := 40) (ix := 89) (ci := 1) (M' := m_X1_rowOfLabel) (As := [.int (iI v35)]) (rest := [.int (iI 12), .int (iI i1), .ref a]) dX1_link_40 ok_X1_rowOfLabel im_X1_rowOfLabel se_X1_rowOfLabel ml1_89 np_X1_rowOfLabel rfl rfl h_a rfl (Nat.le_of_ble_eq_true rfl) (Nat.le_of_ble_eq_true rfl) rfl (k_X1_rowOfLabel (d) (T := T) (σ := σ) (a := a) (l := v35) h_a (by omega) hw ) (fun r36 T38 σ37 gt39 hp => ?_)
          obtain ⟨v41, rfl, rfl, rfl, f40⟩ := hp
          clear gt39
          show Tn _ _ 43 T σ [(2, .int (iI v8)), (0, .ref a), (1, .int (iI i1))] [.int (iI v41), .int (iI 12), .int (iI i1), .ref a] _
          refine tn_callV (M := m_X1_link) (pc := 43) (ix := 93) (ci := 1) (M' := m_X1_set) (As := [.int (iI i1), .int (iI 12), .int (iI v41)]) (rest := []) dX1_link_43 ok_X1_set im_X1_set se_X1_set ml1_93 np_X1_set rfl rfl h_a rfl (Nat.le_of_ble_eq_true rfl) (Nat.le_of_ble_eq_true rfl) rfl (k_X1_set (d + 1) (T := T) (σ := σ) (a := a) (k := i1) (c := 12) (y := v41) h_a (by omega) (by decide) (by omega) hw (by omega) (by omega)) (fun r42 T44 σ43 gt45 hp => ?_)
          obtain ⟨rfl, rfl, w47, F48⟩ := hp
          clear gt45
          show Tn _ _ 46 T σ43 [(2, .int (iI v8)), (0, .ref a), (1, .int (iI i1))] [] _
          refine tn_iinc (q0 := 2) (L' := [(1, .int (iI (i1 + 1))), (2, .int (iI v8)), (0, .ref a)]) dX1_link_46 rfl (by decide) rfl ?_
          refine tn_goto (tgt := 2) dX1_link_49 (by decide) ?_
          exact tn_sub [2, 0] rfl (ih _ (by omega) (i1 + 1) σ43 w47 ((FrC.rfl.trans (FrC.sub hF (by decide))).trans (FrC.sub F48 (by decide))) (by omega) rfl)
theorem dX1_link_52 : decode cX1_link 52 = .ok (.return_, 1) := by decide +kernel
set_option maxRecDepth 20000 in
theorem k_X1_link (d : Nat) {T : CT} {σ : MS} {a : Nat} (ha : OB T a 1) (hw : WT T σ) : Tn (d + 3) m_X1_link 0 T σ [(0, .ref a)] [] (fun ro T2 σ2 => ro = none ∧ T = T2 ∧ WT T2 σ2 ∧ FrC T [] σ σ2) := by
  refine tn_iconst dX1_link_0 ?_
  refine tn_istore_n (L' := [(1, .int (iI 0)), (0, .ref a)]) dX1_link_1 rfl (by decide) rfl ?_
  refine tn_sub [1, 0] rfl (l_X1_link_2 (d) (T := T) (σ0 := σ) (a := a) ha hw (fun i11 σ2 w5 F6 r7 => ?_) _ (0) σ hw FrC.rfl (by omega) rfl)
  show Tn _ _ 52 T σ2 [(0, .ref a), (1, .int (iI i11))] [] _
  exact tn_vret rfl dX1_link_52 ⟨rfl, rfl, w5, (FrC.rfl.trans (FrC.sub F6 (by decide)))⟩
end
section
theorem cd_X1_writtenBy : Cond.code yX1_writtenBy cX1_writtenBy 3 (some .int) ∈ pWW := pw3 (List.mem_of_getElem? (i := 237) rfl) rfl
abbrev m_X1_writtenBy : MT := (yX1_writtenBy, cX1_writtenBy, 3, (some .int))
theorem ok_X1_writtenBy : pOk m_X1_writtenBy := ⟨⟨cd_X1_writtenBy, ini_1⟩, by decide +kernel, ⟨by decide +kernel, by decide +kernel⟩, Nat.le_of_ble_eq_true rfl⟩
theorem np_X1_writtenBy : (parseMethodDescriptor yX1_writtenBy.desc).map (fun d => d.parameters.length) = some 1 := by decide +kernel
theorem im_X1_writtenBy : Cond.instanceMethod yX1_writtenBy ∈ pWW := pw3 (List.mem_of_getElem? (i := 235) rfl) rfl
theorem se_X1_writtenBy : Cond.selects RX1 yX1_writtenBy yX1_writtenBy ∈ pWW := pw3 (List.mem_of_getElem? (i := 236) rfl) rfl
theorem ml1_97 : Cond.methodLink RX1 97 yX1_kindAt ∈ pWW := pw3 (List.mem_of_getElem? (i := 238) rfl) rfl
theorem nl1_100 : (RX1, 100, yX11_isPure, "LineKeeper") ∈ nst_M := List.mem_of_getElem? (i := 11) rfl
theorem dX1_writtenBy_0 : decode cX1_writtenBy 0 = .ok (.aload_n 0, 1) := by decide +kernel
theorem dX1_writtenBy_1 : decode cX1_writtenBy 1 = .ok (.iload_n 1, 1) := by decide +kernel
theorem dX1_writtenBy_2 : decode cX1_writtenBy 2 = .ok (.invokevirtual 97, 3) := by decide +kernel
theorem dX1_writtenBy_5 : decode cX1_writtenBy 5 = .ok (.istore_n 2, 1) := by decide +kernel
theorem dX1_writtenBy_6 : decode cX1_writtenBy 6 = .ok (.iload_n 2, 1) := by decide +kernel
theorem dX1_writtenBy_7 : decode cX1_writtenBy 7 = .ok (.invokestatic 100, 3) := by decide +kernel
theorem dX1_writtenBy_10 : decode cX1_writtenBy 10 = .ok (.ifCond .ne 9, 3) := by decide +kernel
theorem dX1_writtenBy_19 : decode cX1_writtenBy 19 = .ok (.aload_n 0, 1) := by decide +kernel
theorem dX1_writtenBy_20 : decode cX1_writtenBy 20 = .ok (.iload_n 1, 1) := by decide +kernel
theorem dX1_writtenBy_21 : decode cX1_writtenBy 21 = .ok (.iconst 1, 1) := by decide +kernel
theorem dX1_writtenBy_22 : decode cX1_writtenBy 22 = .ok (.invokevirtual 86, 3) := by decide +kernel
theorem dX1_writtenBy_25 : decode cX1_writtenBy 25 = .ok (.goto 4, 3) := by decide +kernel
theorem dX1_writtenBy_29 : decode cX1_writtenBy 29 = .ok (.ireturn, 1) := by decide +kernel
theorem dX1_writtenBy_13 : decode cX1_writtenBy 13 = .ok (.iload_n 2, 1) := by decide +kernel
theorem dX1_writtenBy_14 : decode cX1_writtenBy 14 = .ok (.bipush 10, 2) := by decide +kernel
theorem dX1_writtenBy_16 : decode cX1_writtenBy 16 = .ok (.if_icmp .ne 12, 3) := by decide +kernel
theorem dX1_writtenBy_28 : decode cX1_writtenBy 28 = .ok (.iconst (-1), 1) := by decide +kernel
set_option maxRecDepth 20000 in
theorem k_X1_writtenBy (d : Nat) {T : CT} {σ : MS} {a : Nat} {k : Int} (ha : OB T a 1) (h_k : -2147483648 ≤ k ∧ k ≤ 2147483647) (hw : WT T σ) : Tn (d + 2) m_X1_writtenBy 0 T σ [(0, .ref a), (1, .int (iI k))] [] (fun ro T2 σ2 => ∃ v : Int, ro = some (.int (iI v)) ∧ T = T2 ∧ σ = σ2 ∧ (-2147483648 ≤ v ∧ v ≤ 2147483647)) := by
  refine tn_aload_n dX1_writtenBy_0 rfl 0 rfl ?_
  refine tn_iload_n dX1_writtenBy_1 rfl 1 rfl ?_
  refine tn_callV (M := m_X1_writtenBy) (pc := 2) (ix := 97) (ci := 1) (M' := m_X1_kindAt) (As := [.int (iI k)]) (rest := []) dX1_writtenBy_2 ok_X1_kindAt im_X1_kindAt se_X1_kindAt ml1_97 np_X1_kindAt rfl rfl ha rfl (Nat.le_of_ble_eq_true rfl) (Nat.le_of_ble_eq_true rfl) rfl (k_X1_kindAt (d) (T := T) (σ := σ) (a := a) (k := k) ha (by omega) hw ) (fun r1 T3 σ2 gt4 hp => ?_)
  obtain ⟨v7, rfl, rfl, rfl, f5, f6⟩ := hp
  clear gt4
  clear f6
  show Tn _ _ 5 T σ [(0, .ref a), (1, .int (iI k))] [.int (iI v7)] _
  refine tn_istore_n (L' := [(2, .int (iI v7)), (0, .ref a), (1, .int (iI k))]) dX1_writtenBy_5 rfl (by decide) rfl ?_
  refine tn_iload_n dX1_writtenBy_6 rfl 0 rfl ?_
  refine tn_callSN (M := m_X1_writtenBy) (pc := 7) (ix := 100) (M' := m_X11_isPure) (As := [.int (iI v7)]) (rest := []) dX1_writtenBy_7 ok_X11_isPure stt_X11_isPure nl1_100 np_X11_isPure rfl (Nat.le_of_ble_eq_true rfl) (Nat.le_of_ble_eq_true rfl) rfl (k_X11_isPure (d) (T := T) (σ := σ) (k := v7) (by omega) hw ) (fun r8 T10 σ9 gt11 hp => ?_)
  obtain ⟨v13, rfl, rfl, rfl, f12⟩ := hp
  clear gt11
  show Tn _ _ 10 T σ [(2, .int (iI v7)), (0, .ref a), (1, .int (iI k))] [.int (iI v13)] _
  refine tn_if_ne (tgt := 19) dX1_writtenBy_10 (by decide) ⟨by omega, by omega⟩ (fun h14 => ?_) (fun h14 => ?_)
  · refine tn_aload_n dX1_writtenBy_19 rfl 1 rfl ?_
    refine tn_iload_n dX1_writtenBy_20 rfl 2 rfl ?_
    refine tn_iconst dX1_writtenBy_21 ?_
    refine tn_callV (M := m_X1_writtenBy) (pc := 22) (ix := 86) (ci := 1) (M' := m_X1_get) (As := [.int (iI k), .int (iI 1)]) (rest := []) dX1_writtenBy_22 ok_X1_get im_X1_get se_X1_get ml1_86 np_X1_get rfl rfl ha rfl (Nat.le_of_ble_eq_true rfl) (Nat.le_of_ble_eq_true rfl) rfl (k_X1_get (d) (T := T) (σ := σ) (a := a) (k := k) (c := 1) ha (by omega) (by decide) hw (by omega)) (fun r15 T17 σ16 gt18 hp => ?_)
    obtain ⟨v20, rfl, rfl, rfl, f19⟩ := hp
    clear gt18
    show Tn _ _ 25 T σ [(2, .int (iI v7)), (0, .ref a), (1, .int (iI k))] [.int (iI v20)] _
    refine tn_goto (tgt := 29) dX1_writtenBy_25 (by decide) ?_
    exact tn_iret rfl dX1_writtenBy_29 ⟨_, rfl, rfl, rfl, by omega⟩
  · refine tn_iload_n dX1_writtenBy_13 rfl 0 rfl ?_
    refine tn_bipush dX1_writtenBy_14 (by decide) ?_
    refine tn_icmp_ne (tgt := 28) dX1_writtenBy_16 (by decide) ⟨by omega, by omega⟩ ⟨by decide, by decide⟩ (fun h21 => ?_) (fun h21 => ?_)
    · refine tn_iconst dX1_writtenBy_28 ?_
      exact tn_iret rfl dX1_writtenBy_29 ⟨_, rfl, rfl, rfl, by omega⟩
    · refine tn_aload_n dX1_writtenBy_19 rfl 1 rfl ?_
      refine tn_iload_n dX1_writtenBy_20 rfl 2 rfl ?_
      refine tn_iconst dX1_writtenBy_21 ?_
      refine tn_callV (M := m_X1_writtenBy) (pc := 22) (ix := 86) (ci := 1) (M' := m_X1_get) (As := [.int (iI k), .int (iI 1)]) (rest := []) dX1_writtenBy_22 ok_X1_get im_X1_get se_X1_get ml1_86 np_X1_get rfl rfl ha rfl (Nat.le_of_ble_eq_true rfl) (Nat.le_of_ble_eq_true rfl) rfl (k_X1_get (d) (T := T) (σ := σ) (a := a) (k := k) (c := 1) ha (by omega) (by decide) hw (by omega)) (fun r22 T24 σ23 gt25 hp => ?_)
      obtain ⟨v27, rfl, rfl, rfl, f26⟩ := hp
      clear gt25
      show Tn _ _ 25 T σ [(2, .int (iI v7)), (0, .ref a), (1, .int (iI k))] [.int (iI v27)] _
      refine tn_goto (tgt := 29) dX1_writtenBy_25 (by decide) ?_
      exact tn_iret rfl dX1_writtenBy_29 ⟨_, rfl, rfl, rfl, by omega⟩
end
section
theorem cd_X1_fallsOn : Cond.code yX1_fallsOn cX1_fallsOn 3 (some .boolean) ∈ pWW := pw4 (List.mem_of_getElem? (i := 151) rfl) rfl
abbrev m_X1_fallsOn : MT := (yX1_fallsOn, cX1_fallsOn, 3, (some .boolean))
theorem ok_X1_fallsOn : pOk m_X1_fallsOn := ⟨⟨cd_X1_fallsOn, ini_1⟩, by decide +kernel, ⟨by decide +kernel, by decide +kernel⟩, Nat.le_of_ble_eq_true rfl⟩
theorem np_X1_fallsOn : (parseMethodDescriptor yX1_fallsOn.desc).map (fun d => d.parameters.length) = some 1 := by decide +kernel
theorem im_X1_fallsOn : Cond.instanceMethod yX1_fallsOn ∈ pWW := pw4 (List.mem_of_getElem? (i := 149) rfl) rfl
theorem se_X1_fallsOn : Cond.selects RX1 yX1_fallsOn yX1_fallsOn ∈ pWW := pw4 (List.mem_of_getElem? (i := 150) rfl) rfl
theorem dX1_fallsOn_0 : decode cX1_fallsOn 0 = .ok (.aload_n 0, 1) := by decide +kernel
theorem dX1_fallsOn_1 : decode cX1_fallsOn 1 = .ok (.iload_n 1, 1) := by decide +kernel
theorem dX1_fallsOn_2 : decode cX1_fallsOn 2 = .ok (.invokevirtual 97, 3) := by decide +kernel
theorem dX1_fallsOn_5 : decode cX1_fallsOn 5 = .ok (.istore_n 2, 1) := by decide +kernel
theorem dX1_fallsOn_6 : decode cX1_fallsOn 6 = .ok (.iload_n 2, 1) := by decide +kernel
theorem dX1_fallsOn_7 : decode cX1_fallsOn 7 = .ok (.bipush 8, 2) := by decide +kernel
theorem dX1_fallsOn_9 : decode cX1_fallsOn 9 = .ok (.if_icmp .eq 13, 3) := by decide +kernel
theorem dX1_fallsOn_22 : decode cX1_fallsOn 22 = .ok (.iconst 0, 1) := by decide +kernel
theorem dX1_fallsOn_23 : decode cX1_fallsOn 23 = .ok (.ireturn, 1) := by decide +kernel
theorem dX1_fallsOn_12 : decode cX1_fallsOn 12 = .ok (.iload_n 2, 1) := by decide +kernel
theorem dX1_fallsOn_13 : decode cX1_fallsOn 13 = .ok (.bipush 7, 2) := by decide +kernel
theorem dX1_fallsOn_15 : decode cX1_fallsOn 15 = .ok (.if_icmp .eq 7, 3) := by decide +kernel
theorem dX1_fallsOn_18 : decode cX1_fallsOn 18 = .ok (.iconst 1, 1) := by decide +kernel
theorem dX1_fallsOn_19 : decode cX1_fallsOn 19 = .ok (.goto 4, 3) := by decide +kernel
set_option maxRecDepth 20000 in
theorem k_X1_fallsOn (d : Nat) {T : CT} {σ : MS} {a : Nat} {k : Int} (ha : OB T a 1) (h_k : -2147483648 ≤ k ∧ k ≤ 2147483647) (hw : WT T σ) : Tn (d + 2) m_X1_fallsOn 0 T σ [(0, .ref a), (1, .int (iI k))] [] (fun ro T2 σ2 => ∃ v : Int, ro = some (.int (iI v)) ∧ T = T2 ∧ σ = σ2 ∧ (v = 0 ∨ v = 1)) := by
  refine tn_aload_n dX1_fallsOn_0 rfl 0 rfl ?_
  refine tn_iload_n dX1_fallsOn_1 rfl 1 rfl ?_
  refine tn_callV (M := m_X1_fallsOn) (pc := 2) (ix := 97) (ci := 1) (M' := m_X1_kindAt) (As := [.int (iI k)]) (rest := []) dX1_fallsOn_2 ok_X1_kindAt im_X1_kindAt se_X1_kindAt ml1_97 np_X1_kindAt rfl rfl ha rfl (Nat.le_of_ble_eq_true rfl) (Nat.le_of_ble_eq_true rfl) rfl (k_X1_kindAt (d) (T := T) (σ := σ) (a := a) (k := k) ha (by omega) hw ) (fun r1 T3 σ2 gt4 hp => ?_)
  obtain ⟨v7, rfl, rfl, rfl, f5, f6⟩ := hp
  clear gt4
  clear f6
  show Tn _ _ 5 T σ [(0, .ref a), (1, .int (iI k))] [.int (iI v7)] _
  refine tn_istore_n (L' := [(2, .int (iI v7)), (0, .ref a), (1, .int (iI k))]) dX1_fallsOn_5 rfl (by decide) rfl ?_
  refine tn_iload_n dX1_fallsOn_6 rfl 0 rfl ?_
  refine tn_bipush dX1_fallsOn_7 (by decide) ?_
  refine tn_icmp_eq (tgt := 22) dX1_fallsOn_9 (by decide) ⟨by omega, by omega⟩ ⟨by decide, by decide⟩ (fun h8 => ?_) (fun h8 => ?_)
  · refine tn_iconst dX1_fallsOn_22 ?_
    exact tn_zret (v := 0) rfl (by decide) dX1_fallsOn_23 ⟨_, rfl, rfl, rfl, by omega⟩
  · refine tn_iload_n dX1_fallsOn_12 rfl 0 rfl ?_
    refine tn_bipush dX1_fallsOn_13 (by decide) ?_
    refine tn_icmp_eq (tgt := 22) dX1_fallsOn_15 (by decide) ⟨by omega, by omega⟩ ⟨by decide, by decide⟩ (fun h9 => ?_) (fun h9 => ?_)
    · refine tn_iconst dX1_fallsOn_22 ?_
      exact tn_zret (v := 0) rfl (by decide) dX1_fallsOn_23 ⟨_, rfl, rfl, rfl, by omega⟩
    · refine tn_iconst dX1_fallsOn_18 ?_
      refine tn_goto (tgt := 23) dX1_fallsOn_19 (by decide) ?_
      exact tn_zret (v := 1) rfl (by decide) dX1_fallsOn_23 ⟨_, rfl, rfl, rfl, by omega⟩
end
section
theorem cd_X1_targetOf : Cond.code yX1_targetOf cX1_targetOf 3 (some .int) ∈ pWW := pw4 (List.mem_of_getElem? (i := 159) rfl) rfl
abbrev m_X1_targetOf : MT := (yX1_targetOf, cX1_targetOf, 3, (some .int))
theorem ok_X1_targetOf : pOk m_X1_targetOf := ⟨⟨cd_X1_targetOf, ini_1⟩, by decide +kernel, ⟨by decide +kernel, by decide +kernel⟩, Nat.le_of_ble_eq_true rfl⟩
theorem np_X1_targetOf : (parseMethodDescriptor yX1_targetOf.desc).map (fun d => d.parameters.length) = some 1 := by decide +kernel
theorem im_X1_targetOf : Cond.instanceMethod yX1_targetOf ∈ pWW := pw4 (List.mem_of_getElem? (i := 157) rfl) rfl
theorem se_X1_targetOf : Cond.selects RX1 yX1_targetOf yX1_targetOf ∈ pWW := pw4 (List.mem_of_getElem? (i := 158) rfl) rfl
theorem dX1_targetOf_0 : decode cX1_targetOf 0 = .ok (.aload_n 0, 1) := by decide +kernel
theorem dX1_targetOf_1 : decode cX1_targetOf 1 = .ok (.iload_n 1, 1) := by decide +kernel
theorem dX1_targetOf_2 : decode cX1_targetOf 2 = .ok (.invokevirtual 97, 3) := by decide +kernel
theorem dX1_targetOf_5 : decode cX1_targetOf 5 = .ok (.istore_n 2, 1) := by decide +kernel
theorem dX1_targetOf_6 : decode cX1_targetOf 6 = .ok (.iload_n 2, 1) := by decide +kernel
theorem dX1_targetOf_7 : decode cX1_targetOf 7 = .ok (.bipush 8, 2) := by decide +kernel
theorem dX1_targetOf_9 : decode cX1_targetOf 9 = .ok (.if_icmp .eq 9, 3) := by decide +kernel
theorem dX1_targetOf_18 : decode cX1_targetOf 18 = .ok (.aload_n 0, 1) := by decide +kernel
theorem dX1_targetOf_19 : decode cX1_targetOf 19 = .ok (.iload_n 1, 1) := by decide +kernel
theorem dX1_targetOf_20 : decode cX1_targetOf 20 = .ok (.bipush 12, 2) := by decide +kernel
theorem dX1_targetOf_22 : decode cX1_targetOf 22 = .ok (.invokevirtual 86, 3) := by decide +kernel
theorem dX1_targetOf_25 : decode cX1_targetOf 25 = .ok (.goto 4, 3) := by decide +kernel
theorem dX1_targetOf_29 : decode cX1_targetOf 29 = .ok (.ireturn, 1) := by decide +kernel
theorem dX1_targetOf_12 : decode cX1_targetOf 12 = .ok (.iload_n 2, 1) := by decide +kernel
theorem dX1_targetOf_13 : decode cX1_targetOf 13 = .ok (.bipush 9, 2) := by decide +kernel
theorem dX1_targetOf_15 : decode cX1_targetOf 15 = .ok (.if_icmp .ne 13, 3) := by decide +kernel
theorem dX1_targetOf_28 : decode cX1_targetOf 28 = .ok (.iconst (-1), 1) := by decide +kernel
set_option maxRecDepth 20000 in
theorem k_X1_targetOf (d : Nat) {T : CT} {σ : MS} {a : Nat} {k : Int} (ha : OB T a 1) (h_k : -2147483648 ≤ k ∧ k ≤ 2147483647) (hw : WT T σ) : Tn (d + 2) m_X1_targetOf 0 T σ [(0, .ref a), (1, .int (iI k))] [] (fun ro T2 σ2 => ∃ v : Int, ro = some (.int (iI v)) ∧ T = T2 ∧ σ = σ2 ∧ (-2147483648 ≤ v ∧ v ≤ 2147483647)) := by
  refine tn_aload_n dX1_targetOf_0 rfl 0 rfl ?_
  refine tn_iload_n dX1_targetOf_1 rfl 1 rfl ?_
  refine tn_callV (M := m_X1_targetOf) (pc := 2) (ix := 97) (ci := 1) (M' := m_X1_kindAt) (As := [.int (iI k)]) (rest := []) dX1_targetOf_2 ok_X1_kindAt im_X1_kindAt se_X1_kindAt ml1_97 np_X1_kindAt rfl rfl ha rfl (Nat.le_of_ble_eq_true rfl) (Nat.le_of_ble_eq_true rfl) rfl (k_X1_kindAt (d) (T := T) (σ := σ) (a := a) (k := k) ha (by omega) hw ) (fun r1 T3 σ2 gt4 hp => ?_)
  obtain ⟨v7, rfl, rfl, rfl, f5, f6⟩ := hp
  clear gt4
  clear f6
  show Tn _ _ 5 T σ [(0, .ref a), (1, .int (iI k))] [.int (iI v7)] _
  refine tn_istore_n (L' := [(2, .int (iI v7)), (0, .ref a), (1, .int (iI k))]) dX1_targetOf_5 rfl (by decide) rfl ?_
  refine tn_iload_n dX1_targetOf_6 rfl 0 rfl ?_
  refine tn_bipush dX1_targetOf_7 (by decide) ?_
  refine tn_icmp_eq (tgt := 18) dX1_targetOf_9 (by decide) ⟨by omega, by omega⟩ ⟨by decide, by decide⟩ (fun h8 => ?_) (fun h8 => ?_)
  · refine tn_aload_n dX1_targetOf_18 rfl 1 rfl ?_
    refine tn_iload_n dX1_targetOf_19 rfl 2 rfl ?_
    refine tn_bipush dX1_targetOf_20 (by decide) ?_
    refine tn_callV (M := m_X1_targetOf) (pc := 22) (ix := 86) (ci := 1) (M' := m_X1_get) (As := [.int (iI k), .int (iI 12)]) (rest := []) dX1_targetOf_22 ok_X1_get im_X1_get se_X1_get ml1_86 np_X1_get rfl rfl ha rfl (Nat.le_of_ble_eq_true rfl) (Nat.le_of_ble_eq_true rfl) rfl (k_X1_get (d) (T := T) (σ := σ) (a := a) (k := k) (c := 12) ha (by omega) (by decide) hw (by omega)) (fun r9 T11 σ10 gt12 hp => ?_)
    obtain ⟨v14, rfl, rfl, rfl, f13⟩ := hp
    clear gt12
    show Tn _ _ 25 T σ [(2, .int (iI v7)), (0, .ref a), (1, .int (iI k))] [.int (iI v14)] _
    refine tn_goto (tgt := 29) dX1_targetOf_25 (by decide) ?_
    exact tn_iret rfl dX1_targetOf_29 ⟨_, rfl, rfl, rfl, by omega⟩
  · refine tn_iload_n dX1_targetOf_12 rfl 0 rfl ?_
    refine tn_bipush dX1_targetOf_13 (by decide) ?_
    refine tn_icmp_ne (tgt := 28) dX1_targetOf_15 (by decide) ⟨by omega, by omega⟩ ⟨by decide, by decide⟩ (fun h15 => ?_) (fun h15 => ?_)
    · refine tn_iconst dX1_targetOf_28 ?_
      exact tn_iret rfl dX1_targetOf_29 ⟨_, rfl, rfl, rfl, by omega⟩
    · refine tn_aload_n dX1_targetOf_18 rfl 1 rfl ?_
      refine tn_iload_n dX1_targetOf_19 rfl 2 rfl ?_
      refine tn_bipush dX1_targetOf_20 (by decide) ?_
      refine tn_callV (M := m_X1_targetOf) (pc := 22) (ix := 86) (ci := 1) (M' := m_X1_get) (As := [.int (iI k), .int (iI 12)]) (rest := []) dX1_targetOf_22 ok_X1_get im_X1_get se_X1_get ml1_86 np_X1_get rfl rfl ha rfl (Nat.le_of_ble_eq_true rfl) (Nat.le_of_ble_eq_true rfl) rfl (k_X1_get (d) (T := T) (σ := σ) (a := a) (k := k) (c := 12) ha (by omega) (by decide) hw (by omega)) (fun r16 T18 σ17 gt19 hp => ?_)
      obtain ⟨v21, rfl, rfl, rfl, f20⟩ := hp
      clear gt19
      show Tn _ _ 25 T σ [(2, .int (iI v7)), (0, .ref a), (1, .int (iI k))] [.int (iI v21)] _
      refine tn_goto (tgt := 29) dX1_targetOf_25 (by decide) ?_
      exact tn_iret rfl dX1_targetOf_29 ⟨_, rfl, rfl, rfl, by omega⟩
end
section
theorem cd_X1_leansOn : Cond.code yX1_leansOn cX1_leansOn 4 (some .boolean) ∈ pWW := pw4 (List.mem_of_getElem? (i := 147) rfl) rfl
abbrev m_X1_leansOn : MT := (yX1_leansOn, cX1_leansOn, 4, (some .boolean))
theorem ok_X1_leansOn : pOk m_X1_leansOn := ⟨⟨cd_X1_leansOn, ini_1⟩, by decide +kernel, ⟨by decide +kernel, by decide +kernel⟩, Nat.le_of_ble_eq_true rfl⟩
theorem np_X1_leansOn : (parseMethodDescriptor yX1_leansOn.desc).map (fun d => d.parameters.length) = some 2 := by decide +kernel
theorem im_X1_leansOn : Cond.instanceMethod yX1_leansOn ∈ pWW := pw4 (List.mem_of_getElem? (i := 145) rfl) rfl
theorem se_X1_leansOn : Cond.selects RX1 yX1_leansOn yX1_leansOn ∈ pWW := pw4 (List.mem_of_getElem? (i := 146) rfl) rfl
theorem dX1_leansOn_0 : decode cX1_leansOn 0 = .ok (.aload_n 0, 1) := by decide +kernel
theorem dX1_leansOn_1 : decode cX1_leansOn 1 = .ok (.iload_n 1, 1) := by decide +kernel
theorem dX1_leansOn_2 : decode cX1_leansOn 2 = .ok (.invokevirtual 97, 3) := by decide +kernel
theorem dX1_leansOn_5 : decode cX1_leansOn 5 = .ok (.bipush 12, 2) := by decide +kernel
theorem dX1_leansOn_7 : decode cX1_leansOn 7 = .ok (.if_icmp .eq 5, 3) := by decide +kernel
theorem dX1_leansOn_12 : decode cX1_leansOn 12 = .ok (.aload_n 0, 1) := by decide +kernel
theorem dX1_leansOn_13 : decode cX1_leansOn 13 = .ok (.iload_n 1, 1) := by decide +kernel
theorem dX1_leansOn_14 : decode cX1_leansOn 14 = .ok (.bipush 11, 2) := by decide +kernel
theorem dX1_leansOn_16 : decode cX1_leansOn 16 = .ok (.invokevirtual 86, 3) := by decide +kernel
theorem dX1_leansOn_19 : decode cX1_leansOn 19 = .ok (.istore_n 3, 1) := by decide +kernel
theorem dX1_leansOn_20 : decode cX1_leansOn 20 = .ok (.iload_n 3, 1) := by decide +kernel
theorem dX1_leansOn_21 : decode cX1_leansOn 21 = .ok (.iconst 2, 1) := by decide +kernel
theorem dX1_leansOn_22 : decode cX1_leansOn 22 = .ok (.if_icmp .ne 19, 3) := by decide +kernel
theorem dX1_leansOn_41 : decode cX1_leansOn 41 = .ok (.aload_n 0, 1) := by decide +kernel
theorem dX1_leansOn_42 : decode cX1_leansOn 42 = .ok (.iload_n 1, 1) := by decide +kernel
theorem dX1_leansOn_43 : decode cX1_leansOn 43 = .ok (.iconst 3, 1) := by decide +kernel
theorem dX1_leansOn_44 : decode cX1_leansOn 44 = .ok (.invokevirtual 86, 3) := by decide +kernel
theorem dX1_leansOn_47 : decode cX1_leansOn 47 = .ok (.iconst 2, 1) := by decide +kernel
theorem dX1_leansOn_48 : decode cX1_leansOn 48 = .ok (.if_icmp .ne 13, 3) := by decide +kernel
theorem dX1_leansOn_61 : decode cX1_leansOn 61 = .ok (.aload_n 0, 1) := by decide +kernel
theorem dX1_leansOn_62 : decode cX1_leansOn 62 = .ok (.iload_n 1, 1) := by decide +kernel
theorem dX1_leansOn_63 : decode cX1_leansOn 63 = .ok (.iconst 5, 1) := by decide +kernel
theorem dX1_leansOn_64 : decode cX1_leansOn 64 = .ok (.invokevirtual 86, 3) := by decide +kernel
theorem dX1_leansOn_67 : decode cX1_leansOn 67 = .ok (.iconst 2, 1) := by decide +kernel
theorem dX1_leansOn_68 : decode cX1_leansOn 68 = .ok (.if_icmp .ne 18, 3) := by decide +kernel
theorem dX1_leansOn_86 : decode cX1_leansOn 86 = .ok (.iconst 0, 1) := by decide +kernel
theorem dX1_leansOn_87 : decode cX1_leansOn 87 = .ok (.ireturn, 1) := by decide +kernel
theorem dX1_leansOn_71 : decode cX1_leansOn 71 = .ok (.aload_n 0, 1) := by decide +kernel
theorem dX1_leansOn_72 : decode cX1_leansOn 72 = .ok (.iload_n 1, 1) := by decide +kernel
theorem dX1_leansOn_73 : decode cX1_leansOn 73 = .ok (.bipush 6, 2) := by decide +kernel
theorem dX1_leansOn_75 : decode cX1_leansOn 75 = .ok (.invokevirtual 86, 3) := by decide +kernel
theorem dX1_leansOn_78 : decode cX1_leansOn 78 = .ok (.iload_n 2, 1) := by decide +kernel
theorem dX1_leansOn_79 : decode cX1_leansOn 79 = .ok (.if_icmp .ne 7, 3) := by decide +kernel
theorem dX1_leansOn_82 : decode cX1_leansOn 82 = .ok (.iconst 1, 1) := by decide +kernel
theorem dX1_leansOn_83 : decode cX1_leansOn 83 = .ok (.goto 4, 3) := by decide +kernel
theorem dX1_leansOn_51 : decode cX1_leansOn 51 = .ok (.aload_n 0, 1) := by decide +kernel
theorem dX1_leansOn_52 : decode cX1_leansOn 52 = .ok (.iload_n 1, 1) := by decide +kernel
theorem dX1_leansOn_53 : decode cX1_leansOn 53 = .ok (.iconst 4, 1) := by decide +kernel
theorem dX1_leansOn_54 : decode cX1_leansOn 54 = .ok (.invokevirtual 86, 3) := by decide +kernel
theorem dX1_leansOn_57 : decode cX1_leansOn 57 = .ok (.iload_n 2, 1) := by decide +kernel
theorem dX1_leansOn_58 : decode cX1_leansOn 58 = .ok (.if_icmp .eq 24, 3) := by decide +kernel
theorem dX1_leansOn_25 : decode cX1_leansOn 25 = .ok (.aload_n 0, 1) := by decide +kernel
theorem dX1_leansOn_26 : decode cX1_leansOn 26 = .ok (.iload_n 1, 1) := by decide +kernel
theorem dX1_leansOn_27 : decode cX1_leansOn 27 = .ok (.iconst 4, 1) := by decide +kernel
theorem dX1_leansOn_28 : decode cX1_leansOn 28 = .ok (.invokevirtual 86, 3) := by decide +kernel
theorem dX1_leansOn_31 : decode cX1_leansOn 31 = .ok (.iload_n 2, 1) := by decide +kernel
theorem dX1_leansOn_32 : decode cX1_leansOn 32 = .ok (.if_icmp .ne 7, 3) := by decide +kernel
theorem dX1_leansOn_39 : decode cX1_leansOn 39 = .ok (.iconst 0, 1) := by decide +kernel
theorem dX1_leansOn_40 : decode cX1_leansOn 40 = .ok (.ireturn, 1) := by decide +kernel
theorem dX1_leansOn_35 : decode cX1_leansOn 35 = .ok (.iconst 1, 1) := by decide +kernel
theorem dX1_leansOn_36 : decode cX1_leansOn 36 = .ok (.goto 4, 3) := by decide +kernel
theorem dX1_leansOn_10 : decode cX1_leansOn 10 = .ok (.iconst 0, 1) := by decide +kernel
theorem dX1_leansOn_11 : decode cX1_leansOn 11 = .ok (.ireturn, 1) := by decide +kernel
set_option maxRecDepth 20000 in
theorem k_X1_leansOn (d : Nat) {T : CT} {σ : MS} {a : Nat} {k : Int} {r : Int} (ha : OB T a 1) (h_k : -2147483648 ≤ k ∧ k ≤ 2147483647) (h_r : -2147483648 ≤ r ∧ r ≤ 2147483647) (hw : WT T σ) : Tn (d + 2) m_X1_leansOn 0 T σ [(0, .ref a), (1, .int (iI k)), (2, .int (iI r))] [] (fun ro T2 σ2 => ∃ v : Int, ro = some (.int (iI v)) ∧ T = T2 ∧ σ = σ2 ∧ (v = 0 ∨ v = 1)) := by
  refine tn_aload_n dX1_leansOn_0 rfl 0 rfl ?_
  refine tn_iload_n dX1_leansOn_1 rfl 1 rfl ?_
  refine tn_callV (M := m_X1_leansOn) (pc := 2) (ix := 97) (ci := 1) (M' := m_X1_kindAt) (As := [.int (iI k)]) (rest := []) dX1_leansOn_2 ok_X1_kindAt im_X1_kindAt se_X1_kindAt ml1_97 np_X1_kindAt rfl rfl ha rfl (Nat.le_of_ble_eq_true rfl) (Nat.le_of_ble_eq_true rfl) rfl (k_X1_kindAt (d) (T := T) (σ := σ) (a := a) (k := k) ha (by omega) hw ) (fun r1 T3 σ2 gt4 hp => ?_)
  obtain ⟨v7, rfl, rfl, rfl, f5, f6⟩ := hp
  clear gt4
  clear f6
  show Tn _ _ 5 T σ [(0, .ref a), (1, .int (iI k)), (2, .int (iI r))] [.int (iI v7)] _
  refine tn_bipush dX1_leansOn_5 (by decide) ?_
  refine tn_icmp_eq (tgt := 12) dX1_leansOn_7 (by decide) ⟨by omega, by omega⟩ ⟨by decide, by decide⟩ (fun h8 => ?_) (fun h8 => ?_)
  · refine tn_aload_n dX1_leansOn_12 rfl 0 rfl ?_
    refine tn_iload_n dX1_leansOn_13 rfl 1 rfl ?_
    refine tn_bipush dX1_leansOn_14 (by decide) ?_
    refine tn_callV (M := m_X1_leansOn) (pc := 16) (ix := 86) (ci := 1) (M' := m_X1_get) (As := [.int (iI k), .int (iI 11)]) (rest := []) dX1_leansOn_16 ok_X1_get im_X1_get se_X1_get ml1_86 np_X1_get rfl rfl ha rfl (Nat.le_of_ble_eq_true rfl) (Nat.le_of_ble_eq_true rfl) rfl (k_X1_get (d) (T := T) (σ := σ) (a := a) (k := k) (c := 11) ha (by omega) (by decide) hw (by omega)) (fun r9 T11 σ10 gt12 hp => ?_)
    obtain ⟨v14, rfl, rfl, rfl, f13⟩ := hp
    clear gt12
    show Tn _ _ 19 T σ [(0, .ref a), (1, .int (iI k)), (2, .int (iI r))] [.int (iI v14)] _
    refine tn_istore_n (L' := [(3, .int (iI v14)), (0, .ref a), (1, .int (iI k)), (2, .int (iI r))]) dX1_leansOn_19 rfl (by decide) rfl ?_
    refine tn_iload_n dX1_leansOn_20 rfl 0 rfl ?_
    refine tn_iconst dX1_leansOn_21 ?_
    refine tn_icmp_ne (tgt := 41) dX1_leansOn_22 (by decide) ⟨by omega, by omega⟩ ⟨by decide, by decide⟩ (fun h15 => ?_) (fun h15 => ?_)
    · refine tn_aload_n dX1_leansOn_41 rfl 1 rfl ?_
      refine tn_iload_n dX1_leansOn_42 rfl 2 rfl ?_
      refine tn_iconst dX1_leansOn_43 ?_
      refine tn_callV (M := m_X1_leansOn) (pc := 44) (ix := 86) (ci := 1) (M' := m_X1_get) (As := [.int (iI k), .int (iI 3)]) (rest := []) dX1_leansOn_44 ok_X1_get im_X1_get se_X1_get ml1_86 np_X1_get rfl rfl ha rfl (Nat.le_of_ble_eq_true rfl) (Nat.le_of_ble_eq_true rfl) rfl (k_X1_get (d) (T := T) (σ := σ) (a := a) (k := k) (c := 3) ha (by omega) (by decide) hw (by omega)) (fun r16 T18 σ17 gt19 hp => ?_)
      obtain ⟨v21, rfl, rfl, rfl, f20⟩ := hp
      clear gt19
      show Tn _ _ 47 T σ [(3, .int (iI v14)), (0, .ref a), (1, .int (iI k)), (2, .int (iI r))] [.int (iI v21)] _
      refine tn_iconst dX1_leansOn_47 ?_
      refine tn_icmp_ne (tgt := 61) dX1_leansOn_48 (by decide) ⟨by omega, by omega⟩ ⟨by decide, by decide⟩ (fun h22 => ?_) (fun h22 => ?_)
      · refine tn_aload_n dX1_leansOn_61 rfl 1 rfl ?_
        refine tn_iload_n dX1_leansOn_62 rfl 2 rfl ?_
        refine tn_iconst dX1_leansOn_63 ?_
        refine tn_callV (M := m_X1_leansOn) (pc := 64) (ix := 86) (ci := 1) (M' := m_X1_get) (As := [.int (iI k), .int (iI 5)]) (rest := []) dX1_leansOn_64 ok_X1_get im_X1_get se_X1_get ml1_86 np_X1_get rfl rfl ha rfl (Nat.le_of_ble_eq_true rfl) (Nat.le_of_ble_eq_true rfl) rfl (k_X1_get (d) (T := T) (σ := σ) (a := a) (k := k) (c := 5) ha (by omega) (by decide) hw (by omega)) (fun r23 T25 σ24 gt26 hp => ?_)
        obtain ⟨v28, rfl, rfl, rfl, f27⟩ := hp
        clear gt26
        show Tn _ _ 67 T σ [(3, .int (iI v14)), (0, .ref a), (1, .int (iI k)), (2, .int (iI r))] [.int (iI v28)] _
        refine tn_iconst dX1_leansOn_67 ?_
        refine tn_icmp_ne (tgt := 86) dX1_leansOn_68 (by decide) ⟨by omega, by omega⟩ ⟨by decide, by decide⟩ (fun h29 => ?_) (fun h29 => ?_)
        · refine tn_iconst dX1_leansOn_86 ?_
          exact tn_zret (v := 0) rfl (by decide) dX1_leansOn_87 ⟨_, rfl, rfl, rfl, by omega⟩
        · refine tn_aload_n dX1_leansOn_71 rfl 1 rfl ?_
          refine tn_iload_n dX1_leansOn_72 rfl 2 rfl ?_
          refine tn_bipush dX1_leansOn_73 (by decide) ?_
          refine tn_callV (M := m_X1_leansOn) (pc := 75) (ix := 86) (ci := 1) (M' := m_X1_get) (As := [.int (iI k), .int (iI 6)]) (rest := []) dX1_leansOn_75 ok_X1_get im_X1_get se_X1_get ml1_86 np_X1_get rfl rfl ha rfl (Nat.le_of_ble_eq_true rfl) (Nat.le_of_ble_eq_true rfl) rfl (k_X1_get (d) (T := T) (σ := σ) (a := a) (k := k) (c := 6) ha (by omega) (by decide) hw (by omega)) (fun r30 T32 σ31 gt33 hp => ?_)
          obtain ⟨v35, rfl, rfl, rfl, f34⟩ := hp
          clear gt33
          show Tn _ _ 78 T σ [(3, .int (iI v14)), (0, .ref a), (1, .int (iI k)), (2, .int (iI r))] [.int (iI v35)] _
          refine tn_iload_n dX1_leansOn_78 rfl 3 rfl ?_
          refine tn_icmp_ne (tgt := 86) dX1_leansOn_79 (by decide) ⟨by omega, by omega⟩ ⟨by omega, by omega⟩ (fun h36 => ?_) (fun h36 => ?_)
          · refine tn_iconst dX1_leansOn_86 ?_
            exact tn_zret (v := 0) rfl (by decide) dX1_leansOn_87 ⟨_, rfl, rfl, rfl, by omega⟩
          · refine tn_iconst dX1_leansOn_82 ?_
            refine tn_goto (tgt := 87) dX1_leansOn_83 (by decide) ?_
            exact tn_zret (v := 1) rfl (by decide) dX1_leansOn_87 ⟨_, rfl, rfl, rfl, by omega⟩
      · refine tn_aload_n dX1_leansOn_51 rfl 1 rfl ?_
        refine tn_iload_n dX1_leansOn_52 rfl 2 rfl ?_
        refine tn_iconst dX1_leansOn_53 ?_
        refine tn_callV (M := m_X1_leansOn) (pc := 54) (ix := 86) (ci := 1) (M' := m_X1_get) (As := [.int (iI k), .int (iI 4)]) (rest := []) dX1_leansOn_54 ok_X1_get im_X1_get se_X1_get ml1_86 np_X1_get rfl rfl ha rfl (Nat.le_of_ble_eq_true rfl) (Nat.le_of_ble_eq_true rfl) rfl (k_X1_get (d) (T := T) (σ := σ) (a := a) (k := k) (c := 4) ha (by omega) (by decide) hw (by omega)) (fun r37 T39 σ38 gt40 hp => ?_)
        obtain ⟨v42, rfl, rfl, rfl, f41⟩ := hp
        clear gt40
        show Tn _ _ 57 T σ [(3, .int (iI v14)), (0, .ref a), (1, .int (iI k)), (2, .int (iI r))] [.int (iI v42)] _
        refine tn_iload_n dX1_leansOn_57 rfl 3 rfl ?_
        refine tn_icmp_eq (tgt := 82) dX1_leansOn_58 (by decide) ⟨by omega, by omega⟩ ⟨by omega, by omega⟩ (fun h43 => ?_) (fun h43 => ?_)
        · refine tn_iconst dX1_leansOn_82 ?_
          refine tn_goto (tgt := 87) dX1_leansOn_83 (by decide) ?_
          exact tn_zret (v := 1) rfl (by decide) dX1_leansOn_87 ⟨_, rfl, rfl, rfl, by omega⟩
        · refine tn_aload_n dX1_leansOn_61 rfl 1 rfl ?_
          refine tn_iload_n dX1_leansOn_62 rfl 2 rfl ?_
          refine tn_iconst dX1_leansOn_63 ?_
          refine tn_callV (M := m_X1_leansOn) (pc := 64) (ix := 86) (ci := 1) (M' := m_X1_get) (As := [.int (iI k), .int (iI 5)]) (rest := []) dX1_leansOn_64 ok_X1_get im_X1_get se_X1_get ml1_86 np_X1_get rfl rfl ha rfl (Nat.le_of_ble_eq_true rfl) (Nat.le_of_ble_eq_true rfl) rfl (k_X1_get (d) (T := T) (σ := σ) (a := a) (k := k) (c := 5) ha (by omega) (by decide) hw (by omega)) (fun r44 T46 σ45 gt47 hp => ?_)
          obtain ⟨v49, rfl, rfl, rfl, f48⟩ := hp
          clear gt47
          show Tn _ _ 67 T σ [(3, .int (iI v14)), (0, .ref a), (1, .int (iI k)), (2, .int (iI r))] [.int (iI v49)] _
          refine tn_iconst dX1_leansOn_67 ?_
          refine tn_icmp_ne (tgt := 86) dX1_leansOn_68 (by decide) ⟨by omega, by omega⟩ ⟨by decide, by decide⟩ (fun h50 => ?_) (fun h50 => ?_)
          · refine tn_iconst dX1_leansOn_86 ?_
            exact tn_zret (v := 0) rfl (by decide) dX1_leansOn_87 ⟨_, rfl, rfl, rfl, by omega⟩
          · refine tn_aload_n dX1_leansOn_71 rfl 1 rfl ?_
            refine tn_iload_n dX1_leansOn_72 rfl 2 rfl ?_
            refine tn_bipush dX1_leansOn_73 (by decide) ?_
            refine tn_callV (M := m_X1_leansOn) (pc := 75) (ix := 86) (ci := 1) (M' := m_X1_get) (As := [.int (iI k), .int (iI 6)]) (rest := []) dX1_leansOn_75 ok_X1_get im_X1_get se_X1_get ml1_86 np_X1_get rfl rfl ha rfl (Nat.le_of_ble_eq_true rfl) (Nat.le_of_ble_eq_true rfl) rfl (k_X1_get (d) (T := T) (σ := σ) (a := a) (k := k) (c := 6) ha (by omega) (by decide) hw (by omega)) (fun r51 T53 σ52 gt54 hp => ?_)
            obtain ⟨v56, rfl, rfl, rfl, f55⟩ := hp
            clear gt54
            show Tn _ _ 78 T σ [(3, .int (iI v14)), (0, .ref a), (1, .int (iI k)), (2, .int (iI r))] [.int (iI v56)] _
            refine tn_iload_n dX1_leansOn_78 rfl 3 rfl ?_
            refine tn_icmp_ne (tgt := 86) dX1_leansOn_79 (by decide) ⟨by omega, by omega⟩ ⟨by omega, by omega⟩ (fun h57 => ?_) (fun h57 => ?_)
            · refine tn_iconst dX1_leansOn_86 ?_
              exact tn_zret (v := 0) rfl (by decide) dX1_leansOn_87 ⟨_, rfl, rfl, rfl, by omega⟩
            · refine tn_iconst dX1_leansOn_82 ?_
              refine tn_goto (tgt := 87) dX1_leansOn_83 (by decide) ?_
              exact tn_zret (v := 1) rfl (by decide) dX1_leansOn_87 ⟨_, rfl, rfl, rfl, by omega⟩
    · refine tn_aload_n dX1_leansOn_25 rfl 1 rfl ?_
      refine tn_iload_n dX1_leansOn_26 rfl 2 rfl ?_
      refine tn_iconst dX1_leansOn_27 ?_
      refine tn_callV (M := m_X1_leansOn) (pc := 28) (ix := 86) (ci := 1) (M' := m_X1_get) (As := [.int (iI k), .int (iI 4)]) (rest := []) dX1_leansOn_28 ok_X1_get im_X1_get se_X1_get ml1_86 np_X1_get rfl rfl ha rfl (Nat.le_of_ble_eq_true rfl) (Nat.le_of_ble_eq_true rfl) rfl (k_X1_get (d) (T := T) (σ := σ) (a := a) (k := k) (c := 4) ha (by omega) (by decide) hw (by omega)) (fun r58 T60 σ59 gt61 hp => ?_)
      obtain ⟨v63, rfl, rfl, rfl, f62⟩ := hp
      clear gt61
      show Tn _ _ 31 T σ [(3, .int (iI v14)), (0, .ref a), (1, .int (iI k)), (2, .int (iI r))] [.int (iI v63)] _
      refine tn_iload_n dX1_leansOn_31 rfl 3 rfl ?_
      refine tn_icmp_ne (tgt := 39) dX1_leansOn_32 (by decide) ⟨by omega, by omega⟩ ⟨by omega, by omega⟩ (fun h64 => ?_) (fun h64 => ?_)
      · refine tn_iconst dX1_leansOn_39 ?_
        exact tn_zret (v := 0) rfl (by decide) dX1_leansOn_40 ⟨_, rfl, rfl, rfl, by omega⟩
      · refine tn_iconst dX1_leansOn_35 ?_
        refine tn_goto (tgt := 40) dX1_leansOn_36 (by decide) ?_
        exact tn_zret (v := 1) rfl (by decide) dX1_leansOn_40 ⟨_, rfl, rfl, rfl, by omega⟩
  · refine tn_iconst dX1_leansOn_10 ?_
    exact tn_zret (v := 0) rfl (by decide) dX1_leansOn_11 ⟨_, rfl, rfl, rfl, by omega⟩
end
section
theorem cd_X1_setWhere : Cond.code yX1_setWhere cX1_setWhere 4 none ∈ pWW := pw3 (List.mem_of_getElem? (i := 201) rfl) rfl
abbrev m_X1_setWhere : MT := (yX1_setWhere, cX1_setWhere, 4, none)
theorem ok_X1_setWhere : pOk m_X1_setWhere := ⟨⟨cd_X1_setWhere, ini_1⟩, by decide +kernel, ⟨by decide +kernel, by decide +kernel⟩, Nat.le_of_ble_eq_true rfl⟩
theorem np_X1_setWhere : (parseMethodDescriptor yX1_setWhere.desc).map (fun d => d.parameters.length) = some 3 := by decide +kernel
theorem im_X1_setWhere : Cond.instanceMethod yX1_setWhere ∈ pWW := pw3 (List.mem_of_getElem? (i := 199) rfl) rfl
theorem se_X1_setWhere : Cond.selects RX1 yX1_setWhere yX1_setWhere ∈ pWW := pw3 (List.mem_of_getElem? (i := 200) rfl) rfl
theorem dX1_setWhere_0 : decode cX1_setWhere 0 = .ok (.aload_n 0, 1) := by decide +kernel
theorem dX1_setWhere_1 : decode cX1_setWhere 1 = .ok (.iload_n 1, 1) := by decide +kernel
theorem dX1_setWhere_2 : decode cX1_setWhere 2 = .ok (.bipush 11, 2) := by decide +kernel
theorem dX1_setWhere_4 : decode cX1_setWhere 4 = .ok (.iload_n 2, 1) := by decide +kernel
theorem dX1_setWhere_5 : decode cX1_setWhere 5 = .ok (.invokevirtual 93, 3) := by decide +kernel
theorem dX1_setWhere_8 : decode cX1_setWhere 8 = .ok (.aload_n 0, 1) := by decide +kernel
theorem dX1_setWhere_9 : decode cX1_setWhere 9 = .ok (.iload_n 1, 1) := by decide +kernel
theorem dX1_setWhere_10 : decode cX1_setWhere 10 = .ok (.iconst 3, 1) := by decide +kernel
theorem dX1_setWhere_11 : decode cX1_setWhere 11 = .ok (.iconst 0, 1) := by decide +kernel
theorem dX1_setWhere_12 : decode cX1_setWhere 12 = .ok (.invokevirtual 93, 3) := by decide +kernel
theorem dX1_setWhere_15 : decode cX1_setWhere 15 = .ok (.aload_n 0, 1) := by decide +kernel
theorem dX1_setWhere_16 : decode cX1_setWhere 16 = .ok (.iload_n 1, 1) := by decide +kernel
theorem dX1_setWhere_17 : decode cX1_setWhere 17 = .ok (.iconst 4, 1) := by decide +kernel
theorem dX1_setWhere_18 : decode cX1_setWhere 18 = .ok (.iload_n 3, 1) := by decide +kernel
theorem dX1_setWhere_19 : decode cX1_setWhere 19 = .ok (.invokevirtual 93, 3) := by decide +kernel
theorem dX1_setWhere_22 : decode cX1_setWhere 22 = .ok (.aload_n 0, 1) := by decide +kernel
theorem dX1_setWhere_23 : decode cX1_setWhere 23 = .ok (.iload_n 1, 1) := by decide +kernel
theorem dX1_setWhere_24 : decode cX1_setWhere 24 = .ok (.iconst 5, 1) := by decide +kernel
theorem dX1_setWhere_25 : decode cX1_setWhere 25 = .ok (.iconst 0, 1) := by decide +kernel
theorem dX1_setWhere_26 : decode cX1_setWhere 26 = .ok (.invokevirtual 93, 3) := by decide +kernel
theorem dX1_setWhere_29 : decode cX1_setWhere 29 = .ok (.aload_n 0, 1) := by decide +kernel
theorem dX1_setWhere_30 : decode cX1_setWhere 30 = .ok (.iload_n 1, 1) := by decide +kernel
theorem dX1_setWhere_31 : decode cX1_setWhere 31 = .ok (.bipush 6, 2) := by decide +kernel
theorem dX1_setWhere_33 : decode cX1_setWhere 33 = .ok (.iconst 0, 1) := by decide +kernel
theorem dX1_setWhere_34 : decode cX1_setWhere 34 = .ok (.invokevirtual 93, 3) := by decide +kernel
theorem dX1_setWhere_37 : decode cX1_setWhere 37 = .ok (.return_, 1) := by decide +kernel
set_option maxRecDepth 20000 in
theorem k_X1_setWhere (d : Nat) {T : CT} {σ : MS} {a : Nat} {k : Int} {y : Int} {z : Int} (ha : OB T a 1) (h_k : -2147483648 ≤ k ∧ k ≤ 2147483647) (h_y : -2147483648 ≤ y ∧ y ≤ 2147483647) (h_z : -2147483648 ≤ z ∧ z ≤ 2147483647) (hw : WT T σ) : Tn (d + 2) m_X1_setWhere 0 T σ [(0, .ref a), (1, .int (iI k)), (2, .int (iI y)), (3, .int (iI z))] [] (fun ro T2 σ2 => ro = none ∧ T = T2 ∧ WT T2 σ2 ∧ FrC T [] σ σ2) := by
  refine tn_aload_n dX1_setWhere_0 rfl 0 rfl ?_
  refine tn_iload_n dX1_setWhere_1 rfl 1 rfl ?_
  refine tn_bipush dX1_setWhere_2 (by decide) ?_
  refine tn_iload_n dX1_setWhere_4 rfl 2 rfl ?_
  refine tn_callV (M := m_X1_setWhere) (pc := 5) (ix := 93) (ci := 1) (M' := m_X1_set) (As := [.int (iI k), .int (iI 11), .int (iI y)]) (rest := []) dX1_setWhere_5 ok_X1_set im_X1_set se_X1_set ml1_93 np_X1_set rfl rfl ha rfl (Nat.le_of_ble_eq_true rfl) (Nat.le_of_ble_eq_true rfl) rfl (k_X1_set (d) (T := T) (σ := σ) (a := a) (k := k) (c := 11) (y := y) ha (by omega) (by decide) (by omega) hw (by omega) (by omega)) (fun r1 T3 σ2 gt4 hp => ?_)
  obtain ⟨rfl, rfl, w6, F7⟩ := hp
  clear gt4
  show Tn _ _ 8 T σ2 [(0, .ref a), (1, .int (iI k)), (2, .int (iI y)), (3, .int (iI z))] [] _
  refine tn_aload_n dX1_setWhere_8 rfl 0 rfl ?_
  refine tn_iload_n dX1_setWhere_9 rfl 1 rfl ?_
  refine tn_iconst dX1_setWhere_10 ?_
  refine tn_iconst dX1_setWhere_11 ?_
  refine tn_callV (M := m_X1_setWhere) (pc := 12) (ix := 93) (ci := 1) (M' := m_X1_set) (As := [.int (iI k), .int (iI 3), .int (iI 0)]) (rest := []) dX1_setWhere_12 ok_X1_set im_X1_set se_X1_set ml1_93 np_X1_set rfl rfl ha rfl (Nat.le_of_ble_eq_true rfl) (Nat.le_of_ble_eq_true rfl) rfl (k_X1_set (d) (T := T) (σ := σ2) (a := a) (k := k) (c := 3) (y := 0) ha (by omega) (by decide) (by decide) w6 (by omega) (by omega)) (fun r8 T10 σ9 gt11 hp => ?_)
  obtain ⟨rfl, rfl, w13, F14⟩ := hp
  clear gt11
  show Tn _ _ 15 T σ9 [(0, .ref a), (1, .int (iI k)), (2, .int (iI y)), (3, .int (iI z))] [] _
  refine tn_aload_n dX1_setWhere_15 rfl 0 rfl ?_
  refine tn_iload_n dX1_setWhere_16 rfl 1 rfl ?_
  refine tn_iconst dX1_setWhere_17 ?_
  refine tn_iload_n dX1_setWhere_18 rfl 3 rfl ?_
  refine tn_callV (M := m_X1_setWhere) (pc := 19) (ix := 93) (ci := 1) (M' := m_X1_set) (As := [.int (iI k), .int (iI 4), .int (iI z)]) (rest := []) dX1_setWhere_19 ok_X1_set im_X1_set se_X1_set ml1_93 np_X1_set rfl rfl ha rfl (Nat.le_of_ble_eq_true rfl) (Nat.le_of_ble_eq_true rfl) rfl (k_X1_set (d) (T := T) (σ := σ9) (a := a) (k := k) (c := 4) (y := z) ha (by omega) (by decide) (by omega) w13 (by omega) (by omega)) (fun r15 T17 σ16 gt18 hp => ?_)
  obtain ⟨rfl, rfl, w20, F21⟩ := hp
  clear gt18
  show Tn _ _ 22 T σ16 [(0, .ref a), (1, .int (iI k)), (2, .int (iI y)), (3, .int (iI z))] [] _
  refine tn_aload_n dX1_setWhere_22 rfl 0 rfl ?_
  refine tn_iload_n dX1_setWhere_23 rfl 1 rfl ?_
  refine tn_iconst dX1_setWhere_24 ?_
  refine tn_iconst dX1_setWhere_25 ?_
  refine tn_callV (M := m_X1_setWhere) (pc := 26) (ix := 93) (ci := 1) (M' := m_X1_set) (As := [.int (iI k), .int (iI 5), .int (iI 0)]) (rest := []) dX1_setWhere_26 ok_X1_set im_X1_set se_X1_set ml1_93 np_X1_set rfl rfl ha rfl (Nat.le_of_ble_eq_true rfl) (Nat.le_of_ble_eq_true rfl) rfl (k_X1_set (d) (T := T) (σ := σ16) (a := a) (k := k) (c := 5) (y := 0) ha (by omega) (by decide) (by decide) w20 (by omega) (by omega)) (fun r22 T24 σ23 gt25 hp => ?_)
  obtain ⟨rfl, rfl, w27, F28⟩ := hp
  clear gt25
  show Tn _ _ 29 T σ23 [(0, .ref a), (1, .int (iI k)), (2, .int (iI y)), (3, .int (iI z))] [] _
  refine tn_aload_n dX1_setWhere_29 rfl 0 rfl ?_
  refine tn_iload_n dX1_setWhere_30 rfl 1 rfl ?_
  refine tn_bipush dX1_setWhere_31 (by decide) ?_
  refine tn_iconst dX1_setWhere_33 ?_
  refine tn_callV (M := m_X1_setWhere) (pc := 34) (ix := 93) (ci := 1) (M' := m_X1_set) (As := [.int (iI k), .int (iI 6), .int (iI 0)]) (rest := []) dX1_setWhere_34 ok_X1_set im_X1_set se_X1_set ml1_93 np_X1_set rfl rfl ha rfl (Nat.le_of_ble_eq_true rfl) (Nat.le_of_ble_eq_true rfl) rfl (k_X1_set (d) (T := T) (σ := σ23) (a := a) (k := k) (c := 6) (y := 0) ha (by omega) (by decide) (by decide) w27 (by omega) (by omega)) (fun r29 T31 σ30 gt32 hp => ?_)
  obtain ⟨rfl, rfl, w34, F35⟩ := hp
  clear gt32
  show Tn _ _ 37 T σ30 [(0, .ref a), (1, .int (iI k)), (2, .int (iI y)), (3, .int (iI z))] [] _
  exact tn_vret rfl dX1_setWhere_37 ⟨rfl, rfl, w34, (((((FrC.rfl.trans (FrC.sub F7 (by decide))).trans (FrC.sub F14 (by decide))).trans (FrC.sub F21 (by decide))).trans (FrC.sub F28 (by decide))).trans (FrC.sub F35 (by decide)))⟩
end
section
theorem cd_X1_sameOperands : Cond.code yX1_sameOperands cX1_sameOperands 3 (some .boolean) ∈ pWW := pw4 (List.mem_of_getElem? (i := 128) rfl) rfl
abbrev m_X1_sameOperands : MT := (yX1_sameOperands, cX1_sameOperands, 3, (some .boolean))
theorem ok_X1_sameOperands : pOk m_X1_sameOperands := ⟨⟨cd_X1_sameOperands, ini_1⟩, by decide +kernel, ⟨by decide +kernel, by decide +kernel⟩, Nat.le_of_ble_eq_true rfl⟩
theorem np_X1_sameOperands : (parseMethodDescriptor yX1_sameOperands.desc).map (fun d => d.parameters.length) = some 2 := by decide +kernel
theorem im_X1_sameOperands : Cond.instanceMethod yX1_sameOperands ∈ pWW := pw4 (List.mem_of_getElem? (i := 126) rfl) rfl
theorem se_X1_sameOperands : Cond.selects RX1 yX1_sameOperands yX1_sameOperands ∈ pWW := pw4 (List.mem_of_getElem? (i := 127) rfl) rfl
theorem dX1_sameOperands_0 : decode cX1_sameOperands 0 = .ok (.aload_n 0, 1) := by decide +kernel
theorem dX1_sameOperands_1 : decode cX1_sameOperands 1 = .ok (.iload_n 1, 1) := by decide +kernel
theorem dX1_sameOperands_2 : decode cX1_sameOperands 2 = .ok (.iconst 3, 1) := by decide +kernel
theorem dX1_sameOperands_3 : decode cX1_sameOperands 3 = .ok (.invokevirtual 86, 3) := by decide +kernel
theorem dX1_sameOperands_6 : decode cX1_sameOperands 6 = .ok (.aload_n 0, 1) := by decide +kernel
theorem dX1_sameOperands_7 : decode cX1_sameOperands 7 = .ok (.iload_n 2, 1) := by decide +kernel
theorem dX1_sameOperands_8 : decode cX1_sameOperands 8 = .ok (.iconst 3, 1) := by decide +kernel
theorem dX1_sameOperands_9 : decode cX1_sameOperands 9 = .ok (.invokevirtual 86, 3) := by decide +kernel
theorem dX1_sameOperands_12 : decode cX1_sameOperands 12 = .ok (.if_icmp .ne 54, 3) := by decide +kernel
theorem dX1_sameOperands_66 : decode cX1_sameOperands 66 = .ok (.iconst 0, 1) := by decide +kernel
theorem dX1_sameOperands_67 : decode cX1_sameOperands 67 = .ok (.ireturn, 1) := by decide +kernel
theorem dX1_sameOperands_15 : decode cX1_sameOperands 15 = .ok (.aload_n 0, 1) := by decide +kernel
theorem dX1_sameOperands_16 : decode cX1_sameOperands 16 = .ok (.iload_n 1, 1) := by decide +kernel
theorem dX1_sameOperands_17 : decode cX1_sameOperands 17 = .ok (.iconst 4, 1) := by decide +kernel
theorem dX1_sameOperands_18 : decode cX1_sameOperands 18 = .ok (.invokevirtual 86, 3) := by decide +kernel
theorem dX1_sameOperands_21 : decode cX1_sameOperands 21 = .ok (.aload_n 0, 1) := by decide +kernel
theorem dX1_sameOperands_22 : decode cX1_sameOperands 22 = .ok (.iload_n 2, 1) := by decide +kernel
theorem dX1_sameOperands_23 : decode cX1_sameOperands 23 = .ok (.iconst 4, 1) := by decide +kernel
theorem dX1_sameOperands_24 : decode cX1_sameOperands 24 = .ok (.invokevirtual 86, 3) := by decide +kernel
theorem dX1_sameOperands_27 : decode cX1_sameOperands 27 = .ok (.if_icmp .ne 39, 3) := by decide +kernel
theorem dX1_sameOperands_30 : decode cX1_sameOperands 30 = .ok (.aload_n 0, 1) := by decide +kernel
theorem dX1_sameOperands_31 : decode cX1_sameOperands 31 = .ok (.iload_n 1, 1) := by decide +kernel
theorem dX1_sameOperands_32 : decode cX1_sameOperands 32 = .ok (.iconst 5, 1) := by decide +kernel
theorem dX1_sameOperands_33 : decode cX1_sameOperands 33 = .ok (.invokevirtual 86, 3) := by decide +kernel
theorem dX1_sameOperands_36 : decode cX1_sameOperands 36 = .ok (.aload_n 0, 1) := by decide +kernel
theorem dX1_sameOperands_37 : decode cX1_sameOperands 37 = .ok (.iload_n 2, 1) := by decide +kernel
theorem dX1_sameOperands_38 : decode cX1_sameOperands 38 = .ok (.iconst 5, 1) := by decide +kernel
theorem dX1_sameOperands_39 : decode cX1_sameOperands 39 = .ok (.invokevirtual 86, 3) := by decide +kernel
theorem dX1_sameOperands_42 : decode cX1_sameOperands 42 = .ok (.if_icmp .ne 24, 3) := by decide +kernel
theorem dX1_sameOperands_45 : decode cX1_sameOperands 45 = .ok (.aload_n 0, 1) := by decide +kernel
theorem dX1_sameOperands_46 : decode cX1_sameOperands 46 = .ok (.iload_n 1, 1) := by decide +kernel
theorem dX1_sameOperands_47 : decode cX1_sameOperands 47 = .ok (.bipush 6, 2) := by decide +kernel
theorem dX1_sameOperands_49 : decode cX1_sameOperands 49 = .ok (.invokevirtual 86, 3) := by decide +kernel
theorem dX1_sameOperands_52 : decode cX1_sameOperands 52 = .ok (.aload_n 0, 1) := by decide +kernel
theorem dX1_sameOperands_53 : decode cX1_sameOperands 53 = .ok (.iload_n 2, 1) := by decide +kernel
theorem dX1_sameOperands_54 : decode cX1_sameOperands 54 = .ok (.bipush 6, 2) := by decide +kernel
theorem dX1_sameOperands_56 : decode cX1_sameOperands 56 = .ok (.invokevirtual 86, 3) := by decide +kernel
theorem dX1_sameOperands_59 : decode cX1_sameOperands 59 = .ok (.if_icmp .ne 7, 3) := by decide +kernel
theorem dX1_sameOperands_62 : decode cX1_sameOperands 62 = .ok (.iconst 1, 1) := by decide +kernel
theorem dX1_sameOperands_63 : decode cX1_sameOperands 63 = .ok (.goto 4, 3) := by decide +kernel
set_option maxRecDepth 20000 in
theorem k_X1_sameOperands (d : Nat) {T : CT} {σ : MS} {a : Nat} {k : Int} {j : Int} (ha : OB T a 1) (h_k : -2147483648 ≤ k ∧ k ≤ 2147483647) (h_j : -2147483648 ≤ j ∧ j ≤ 2147483647) (hw : WT T σ) : Tn (d + 2) m_X1_sameOperands 0 T σ [(0, .ref a), (1, .int (iI k)), (2, .int (iI j))] [] (fun ro T2 σ2 => ∃ v : Int, ro = some (.int (iI v)) ∧ T = T2 ∧ σ = σ2 ∧ (v = 0 ∨ v = 1)) := by
  refine tn_aload_n dX1_sameOperands_0 rfl 0 rfl ?_
  refine tn_iload_n dX1_sameOperands_1 rfl 1 rfl ?_
  refine tn_iconst dX1_sameOperands_2 ?_
  refine tn_callV (M := m_X1_sameOperands) (pc := 3) (ix := 86) (ci := 1) (M' := m_X1_get) (As := [.int (iI k), .int (iI 3)]) (rest := []) dX1_sameOperands_3 ok_X1_get im_X1_get se_X1_get ml1_86 np_X1_get rfl rfl ha rfl (Nat.le_of_ble_eq_true rfl) (Nat.le_of_ble_eq_true rfl) rfl (k_X1_get (d) (T := T) (σ := σ) (a := a) (k := k) (c := 3) ha (by omega) (by decide) hw (by omega)) (fun r1 T3 σ2 gt4 hp => ?_)
  obtain ⟨v6, rfl, rfl, rfl, f5⟩ := hp
  clear gt4
  show Tn _ _ 6 T σ [(0, .ref a), (1, .int (iI k)), (2, .int (iI j))] [.int (iI v6)] _
  refine tn_aload_n dX1_sameOperands_6 rfl 0 rfl ?_
  refine tn_iload_n dX1_sameOperands_7 rfl 2 rfl ?_
  refine tn_iconst dX1_sameOperands_8 ?_
  refine tn_callV (M := m_X1_sameOperands) (pc := 9) (ix := 86) (ci := 1) (M' := m_X1_get) (As := [.int (iI j), .int (iI 3)]) (rest := [.int (iI v6)]) dX1_sameOperands_9 ok_X1_get im_X1_get se_X1_get ml1_86 np_X1_get rfl rfl ha rfl (Nat.le_of_ble_eq_true rfl) (Nat.le_of_ble_eq_true rfl) rfl (k_X1_get (d) (T := T) (σ := σ) (a := a) (k := j) (c := 3) ha (by omega) (by decide) hw (by omega)) (fun r7 T9 σ8 gt10 hp => ?_)
  obtain ⟨v12, rfl, rfl, rfl, f11⟩ := hp
  clear gt10
  show Tn _ _ 12 T σ [(0, .ref a), (1, .int (iI k)), (2, .int (iI j))] [.int (iI v12), .int (iI v6)] _
  refine tn_icmp_ne (tgt := 66) dX1_sameOperands_12 (by decide) ⟨by omega, by omega⟩ ⟨by omega, by omega⟩ (fun h13 => ?_) (fun h13 => ?_)
  · refine tn_iconst dX1_sameOperands_66 ?_
    exact tn_zret (v := 0) rfl (by decide) dX1_sameOperands_67 ⟨_, rfl, rfl, rfl, by omega⟩
  · refine tn_aload_n dX1_sameOperands_15 rfl 0 rfl ?_
    refine tn_iload_n dX1_sameOperands_16 rfl 1 rfl ?_
    refine tn_iconst dX1_sameOperands_17 ?_
    refine tn_callV (M := m_X1_sameOperands) (pc := 18) (ix := 86) (ci := 1) (M' := m_X1_get) (As := [.int (iI k), .int (iI 4)]) (rest := []) dX1_sameOperands_18 ok_X1_get im_X1_get se_X1_get ml1_86 np_X1_get rfl rfl ha rfl (Nat.le_of_ble_eq_true rfl) (Nat.le_of_ble_eq_true rfl) rfl (k_X1_get (d) (T := T) (σ := σ) (a := a) (k := k) (c := 4) ha (by omega) (by decide) hw (by omega)) (fun r14 T16 σ15 gt17 hp => ?_)
    obtain ⟨v19, rfl, rfl, rfl, f18⟩ := hp
    clear gt17
    show Tn _ _ 21 T σ [(0, .ref a), (1, .int (iI k)), (2, .int (iI j))] [.int (iI v19)] _
    refine tn_aload_n dX1_sameOperands_21 rfl 0 rfl ?_
    refine tn_iload_n dX1_sameOperands_22 rfl 2 rfl ?_
    refine tn_iconst dX1_sameOperands_23 ?_
    refine tn_callV (M := m_X1_sameOperands) (pc := 24) (ix := 86) (ci := 1) (M' := m_X1_get) (As := [.int (iI j), .int (iI 4)]) (rest := [.int (iI v19)]) dX1_sameOperands_24 ok_X1_get im_X1_get se_X1_get ml1_86 np_X1_get rfl rfl ha rfl (Nat.le_of_ble_eq_true rfl) (Nat.le_of_ble_eq_true rfl) rfl (k_X1_get (d) (T := T) (σ := σ) (a := a) (k := j) (c := 4) ha (by omega) (by decide) hw (by omega)) (fun r20 T22 σ21 gt23 hp => ?_)
    obtain ⟨v25, rfl, rfl, rfl, f24⟩ := hp
    clear gt23
    show Tn _ _ 27 T σ [(0, .ref a), (1, .int (iI k)), (2, .int (iI j))] [.int (iI v25), .int (iI v19)] _
    refine tn_icmp_ne (tgt := 66) dX1_sameOperands_27 (by decide) ⟨by omega, by omega⟩ ⟨by omega, by omega⟩ (fun h26 => ?_) (fun h26 => ?_)
    · refine tn_iconst dX1_sameOperands_66 ?_
      exact tn_zret (v := 0) rfl (by decide) dX1_sameOperands_67 ⟨_, rfl, rfl, rfl, by omega⟩
    · refine tn_aload_n dX1_sameOperands_30 rfl 0 rfl ?_
      refine tn_iload_n dX1_sameOperands_31 rfl 1 rfl ?_
      refine tn_iconst dX1_sameOperands_32 ?_
      refine tn_callV (M := m_X1_sameOperands) (pc := 33) (ix := 86) (ci := 1) (M' := m_X1_get) (As := [.int (iI k), .int (iI 5)]) (rest := []) dX1_sameOperands_33 ok_X1_get im_X1_get se_X1_get ml1_86 np_X1_get rfl rfl ha rfl (Nat.le_of_ble_eq_true rfl) (Nat.le_of_ble_eq_true rfl) rfl (k_X1_get (d) (T := T) (σ := σ) (a := a) (k := k) (c := 5) ha (by omega) (by decide) hw (by omega)) (fun r27 T29 σ28 gt30 hp => ?_)
      obtain ⟨v32, rfl, rfl, rfl, f31⟩ := hp
      clear gt30
      show Tn _ _ 36 T σ [(0, .ref a), (1, .int (iI k)), (2, .int (iI j))] [.int (iI v32)] _
      refine tn_aload_n dX1_sameOperands_36 rfl 0 rfl ?_
      refine tn_iload_n dX1_sameOperands_37 rfl 2 rfl ?_
      refine tn_iconst dX1_sameOperands_38 ?_
      refine tn_callV (M := m_X1_sameOperands) (pc := 39) (ix := 86) (ci := 1) (M' := m_X1_get) (As := [.int (iI j), .int (iI 5)]) (rest := [.int (iI v32)]) dX1_sameOperands_39 ok_X1_get im_X1_get se_X1_get ml1_86 np_X1_get rfl rfl ha rfl (Nat.le_of_ble_eq_true rfl) (Nat.le_of_ble_eq_true rfl) rfl (k_X1_get (d) (T := T) (σ := σ) (a := a) (k := j) (c := 5) ha (by omega) (by decide) hw (by omega)) (fun r33 T35 σ34 gt36 hp => ?_)
      obtain ⟨v38, rfl, rfl, rfl, f37⟩ := hp
      clear gt36
      show Tn _ _ 42 T σ [(0, .ref a), (1, .int (iI k)), (2, .int (iI j))] [.int (iI v38), .int (iI v32)] _
      refine tn_icmp_ne (tgt := 66) dX1_sameOperands_42 (by decide) ⟨by omega, by omega⟩ ⟨by omega, by omega⟩ (fun h39 => ?_) (fun h39 => ?_)
      · refine tn_iconst dX1_sameOperands_66 ?_
        exact tn_zret (v := 0) rfl (by decide) dX1_sameOperands_67 ⟨_, rfl, rfl, rfl, by omega⟩
      · refine tn_aload_n dX1_sameOperands_45 rfl 0 rfl ?_
        refine tn_iload_n dX1_sameOperands_46 rfl 1 rfl ?_
        refine tn_bipush dX1_sameOperands_47 (by decide) ?_
        refine tn_callV (M := m_X1_sameOperands) (pc := 49) (ix := 86) (ci := 1) (M' := m_X1_get) (As := [.int (iI k), .int (iI 6)]) (rest := []) dX1_sameOperands_49 ok_X1_get im_X1_get se_X1_get ml1_86 np_X1_get rfl rfl ha rfl (Nat.le_of_ble_eq_true rfl) (Nat.le_of_ble_eq_true rfl) rfl (k_X1_get (d) (T := T) (σ := σ) (a := a) (k := k) (c := 6) ha (by omega) (by decide) hw (by omega)) (fun r40 T42 σ41 gt43 hp => ?_)
        obtain ⟨v45, rfl, rfl, rfl, f44⟩ := hp
        clear gt43
        show Tn _ _ 52 T σ [(0, .ref a), (1, .int (iI k)), (2, .int (iI j))] [.int (iI v45)] _
        refine tn_aload_n dX1_sameOperands_52 rfl 0 rfl ?_
        refine tn_iload_n dX1_sameOperands_53 rfl 2 rfl ?_
        refine tn_bipush dX1_sameOperands_54 (by decide) ?_
        refine tn_callV (M := m_X1_sameOperands) (pc := 56) (ix := 86) (ci := 1) (M' := m_X1_get) (As := [.int (iI j), .int (iI 6)]) (rest := [.int (iI v45)]) dX1_sameOperands_56 ok_X1_get im_X1_get se_X1_get ml1_86 np_X1_get rfl rfl ha rfl (Nat.le_of_ble_eq_true rfl) (Nat.le_of_ble_eq_true rfl) rfl (k_X1_get (d) (T := T) (σ := σ) (a := a) (k := j) (c := 6) ha (by omega) (by decide) hw (by omega)) (fun r46 T48 σ47 gt49 hp => ?_)
        obtain ⟨v51, rfl, rfl, rfl, f50⟩ := hp
        clear gt49
        show Tn _ _ 59 T σ [(0, .ref a), (1, .int (iI k)), (2, .int (iI j))] [.int (iI v51), .int (iI v45)] _
        refine tn_icmp_ne (tgt := 66) dX1_sameOperands_59 (by decide) ⟨by omega, by omega⟩ ⟨by omega, by omega⟩ (fun h52 => ?_) (fun h52 => ?_)
        · refine tn_iconst dX1_sameOperands_66 ?_
          exact tn_zret (v := 0) rfl (by decide) dX1_sameOperands_67 ⟨_, rfl, rfl, rfl, by omega⟩
        · refine tn_iconst dX1_sameOperands_62 ?_
          refine tn_goto (tgt := 67) dX1_sameOperands_63 (by decide) ?_
          exact tn_zret (v := 1) rfl (by decide) dX1_sameOperands_67 ⟨_, rfl, rfl, rfl, by omega⟩
end
section
theorem cd_X1_sameWhere : Cond.code yX1_sameWhere cX1_sameWhere 3 (some .boolean) ∈ pWW := pw4 (List.mem_of_getElem? (i := 124) rfl) rfl
abbrev m_X1_sameWhere : MT := (yX1_sameWhere, cX1_sameWhere, 3, (some .boolean))
theorem ok_X1_sameWhere : pOk m_X1_sameWhere := ⟨⟨cd_X1_sameWhere, ini_1⟩, by decide +kernel, ⟨by decide +kernel, by decide +kernel⟩, Nat.le_of_ble_eq_true rfl⟩
theorem np_X1_sameWhere : (parseMethodDescriptor yX1_sameWhere.desc).map (fun d => d.parameters.length) = some 2 := by decide +kernel
theorem im_X1_sameWhere : Cond.instanceMethod yX1_sameWhere ∈ pWW := pw4 (List.mem_of_getElem? (i := 122) rfl) rfl
theorem se_X1_sameWhere : Cond.selects RX1 yX1_sameWhere yX1_sameWhere ∈ pWW := pw4 (List.mem_of_getElem? (i := 123) rfl) rfl
theorem ml1_103 : Cond.methodLink RX1 103 yX1_sameOperands ∈ pWW := pw4 (List.mem_of_getElem? (i := 125) rfl) rfl
theorem dX1_sameWhere_0 : decode cX1_sameWhere 0 = .ok (.aload_n 0, 1) := by decide +kernel
theorem dX1_sameWhere_1 : decode cX1_sameWhere 1 = .ok (.iload_n 1, 1) := by decide +kernel
theorem dX1_sameWhere_2 : decode cX1_sameWhere 2 = .ok (.bipush 11, 2) := by decide +kernel
theorem dX1_sameWhere_4 : decode cX1_sameWhere 4 = .ok (.invokevirtual 86, 3) := by decide +kernel
theorem dX1_sameWhere_7 : decode cX1_sameWhere 7 = .ok (.aload_n 0, 1) := by decide +kernel
theorem dX1_sameWhere_8 : decode cX1_sameWhere 8 = .ok (.iload_n 2, 1) := by decide +kernel
theorem dX1_sameWhere_9 : decode cX1_sameWhere 9 = .ok (.bipush 11, 2) := by decide +kernel
theorem dX1_sameWhere_11 : decode cX1_sameWhere 11 = .ok (.invokevirtual 86, 3) := by decide +kernel
theorem dX1_sameWhere_14 : decode cX1_sameWhere 14 = .ok (.if_icmp .ne 16, 3) := by decide +kernel
theorem dX1_sameWhere_30 : decode cX1_sameWhere 30 = .ok (.iconst 0, 1) := by decide +kernel
theorem dX1_sameWhere_31 : decode cX1_sameWhere 31 = .ok (.ireturn, 1) := by decide +kernel
theorem dX1_sameWhere_17 : decode cX1_sameWhere 17 = .ok (.aload_n 0, 1) := by decide +kernel
theorem dX1_sameWhere_18 : decode cX1_sameWhere 18 = .ok (.iload_n 1, 1) := by decide +kernel
theorem dX1_sameWhere_19 : decode cX1_sameWhere 19 = .ok (.iload_n 2, 1) := by decide +kernel
theorem dX1_sameWhere_20 : decode cX1_sameWhere 20 = .ok (.invokevirtual 103, 3) := by decide +kernel
theorem dX1_sameWhere_23 : decode cX1_sameWhere 23 = .ok (.ifCond .eq 7, 3) := by decide +kernel
theorem dX1_sameWhere_26 : decode cX1_sameWhere 26 = .ok (.iconst 1, 1) := by decide +kernel
theorem dX1_sameWhere_27 : decode cX1_sameWhere 27 = .ok (.goto 4, 3) := by decide +kernel
set_option maxRecDepth 20000 in
theorem k_X1_sameWhere (d : Nat) {T : CT} {σ : MS} {a : Nat} {k : Int} {j : Int} (ha : OB T a 1) (h_k : -2147483648 ≤ k ∧ k ≤ 2147483647) (h_j : -2147483648 ≤ j ∧ j ≤ 2147483647) (hw : WT T σ) : Tn (d + 3) m_X1_sameWhere 0 T σ [(0, .ref a), (1, .int (iI k)), (2, .int (iI j))] [] (fun ro T2 σ2 => ∃ v : Int, ro = some (.int (iI v)) ∧ T = T2 ∧ σ = σ2 ∧ (v = 0 ∨ v = 1)) := by
  refine tn_aload_n dX1_sameWhere_0 rfl 0 rfl ?_
  refine tn_iload_n dX1_sameWhere_1 rfl 1 rfl ?_
  refine tn_bipush dX1_sameWhere_2 (by decide) ?_
  refine tn_callV (M := m_X1_sameWhere) (pc := 4) (ix := 86) (ci := 1) (M' := m_X1_get) (As := [.int (iI k), .int (iI 11)]) (rest := []) dX1_sameWhere_4 ok_X1_get im_X1_get se_X1_get ml1_86 np_X1_get rfl rfl ha rfl (Nat.le_of_ble_eq_true rfl) (Nat.le_of_ble_eq_true rfl) rfl (k_X1_get (d + 1) (T := T) (σ := σ) (a := a) (k := k) (c := 11) ha (by omega) (by decide) hw (by omega)) (fun r1 T3 σ2 gt4 hp => ?_)
  obtain ⟨v6, rfl, rfl, rfl, f5⟩ := hp
  clear gt4
  show Tn _ _ 7 T σ [(0, .ref a), (1, .int (iI k)), (2, .int (iI j))] [.int (iI v6)] _
  refine tn_aload_n dX1_sameWhere_7 rfl 0 rfl ?_
  refine tn_iload_n dX1_sameWhere_8 rfl 2 rfl ?_
  refine tn_bipush dX1_sameWhere_9 (by decide) ?_
  refine tn_callV (M := m_X1_sameWhere) (pc := 11) (ix := 86) (ci := 1) (M' := m_X1_get) (As := [.int (iI j), .int (iI 11)]) (rest := [.int (iI v6)]) dX1_sameWhere_11 ok_X1_get im_X1_get se_X1_get ml1_86 np_X1_get rfl rfl ha rfl (Nat.le_of_ble_eq_true rfl) (Nat.le_of_ble_eq_true rfl) rfl (k_X1_get (d + 1) (T := T) (σ := σ) (a := a) (k := j) (c := 11) ha (by omega) (by decide) hw (by omega)) (fun r7 T9 σ8 gt10 hp => ?_)
  obtain ⟨v12, rfl, rfl, rfl, f11⟩ := hp
  clear gt10
  show Tn _ _ 14 T σ [(0, .ref a), (1, .int (iI k)), (2, .int (iI j))] [.int (iI v12), .int (iI v6)] _
  refine tn_icmp_ne (tgt := 30) dX1_sameWhere_14 (by decide) ⟨by omega, by omega⟩ ⟨by omega, by omega⟩ (fun h13 => ?_) (fun h13 => ?_)
  · refine tn_iconst dX1_sameWhere_30 ?_
    exact tn_zret (v := 0) rfl (by decide) dX1_sameWhere_31 ⟨_, rfl, rfl, rfl, by omega⟩
  · refine tn_aload_n dX1_sameWhere_17 rfl 0 rfl ?_
    refine tn_iload_n dX1_sameWhere_18 rfl 1 rfl ?_
    refine tn_iload_n dX1_sameWhere_19 rfl 2 rfl ?_
    refine tn_callV (M := m_X1_sameWhere) (pc := 20) (ix := 103) (ci := 1) (M' := m_X1_sameOperands) (As := [.int (iI k), .int (iI j)]) (rest := []) dX1_sameWhere_20 ok_X1_sameOperands im_X1_sameOperands se_X1_sameOperands ml1_103 np_X1_sameOperands rfl rfl ha rfl (Nat.le_of_ble_eq_true rfl) (Nat.le_of_ble_eq_true rfl) rfl (k_X1_sameOperands (d) (T := T) (σ := σ) (a := a) (k := k) (j := j) ha (by omega) (by omega) hw ) (fun r14 T16 σ15 gt17 hp => ?_)
    obtain ⟨v19, rfl, rfl, rfl, f18⟩ := hp
    clear gt17
    show Tn _ _ 23 T σ [(0, .ref a), (1, .int (iI k)), (2, .int (iI j))] [.int (iI v19)] _
    refine tn_if_eq (tgt := 30) dX1_sameWhere_23 (by decide) ⟨by omega, by omega⟩ (fun h20 => ?_) (fun h20 => ?_)
    · refine tn_iconst dX1_sameWhere_30 ?_
      exact tn_zret (v := 0) rfl (by decide) dX1_sameWhere_31 ⟨_, rfl, rfl, rfl, by omega⟩
    · refine tn_iconst dX1_sameWhere_26 ?_
      refine tn_goto (tgt := 31) dX1_sameWhere_27 (by decide) ?_
      exact tn_zret (v := 1) rfl (by decide) dX1_sameWhere_31 ⟨_, rfl, rfl, rfl, by omega⟩
end
