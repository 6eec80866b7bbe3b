section
theorem pw_tbl {w : Cond} (h : w ∈ tables_1) (hg : goodWord w = true) : w ∈ pWW := List.mem_filter.mpr ⟨List.mem_append_right _ h, hg⟩
theorem pws {w : Cond} (h : w ∈ k2_sels lw_privs) (hg : goodWord w = true) : w ∈ pWW := List.mem_filter.mpr ⟨List.mem_append_left _ h, hg⟩
theorem lw_pin (i : Nat) {q : MethodName × Nat} (h : lw_privs[i]? = some q) : q ∈ lw_privs := List.mem_of_getElem? h
theorem pLay {C : String} {T : u_T} {N : Nat} (h : ∀ k, k < N → u_lay C T k ∈ pWW) : ∀ w ∈ u_ws C T N, w ∈ pWW := fun w hw => by
  obtain ⟨k, hk, e⟩ := List.mem_map.mp hw
  rw [← e]
  exact h k (List.mem_range.mp hk)
theorem pw1 {w : Cond} (h : w ∈ tables_1_1) (hg : goodWord w = true) : w ∈ pWW := pw_tbl (List.mem_append_left _ h) hg
theorem pw2 {w : Cond} (h : w ∈ tables_1_2) (hg : goodWord w = true) : w ∈ pWW := pw_tbl (List.mem_append_right _ (List.mem_append_left _ h)) hg
theorem pw3 {w : Cond} (h : w ∈ tables_1_3) (hg : goodWord w = true) : w ∈ pWW := pw_tbl (List.mem_append_right _ (List.mem_append_right _ (List.mem_append_left _ h))) hg
theorem pw4 {w : Cond} (h : w ∈ tables_1_4) (hg : goodWord w = true) : w ∈ pWW := pw_tbl (List.mem_append_right _ (List.mem_append_right _ (List.mem_append_right _ (List.mem_append_left _ h)))) hg
theorem pw5 {w : Cond} (h : w ∈ tables_1_5) (hg : goodWord w = true) : w ∈ pWW := pw_tbl (List.mem_append_right _ (List.mem_append_right _ (List.mem_append_right _ (List.mem_append_right _ (List.mem_append_left _ h))))) hg
theorem pw6 {w : Cond} (h : w ∈ tables_1_6) (hg : goodWord w = true) : w ∈ pWW := pw_tbl (List.mem_append_right _ (List.mem_append_right _ (List.mem_append_right _ (List.mem_append_right _ (List.mem_append_right _ (List.mem_append_left _ h)))))) hg
theorem pw7 {w : Cond} (h : w ∈ tables_1_7) (hg : goodWord w = true) : w ∈ pWW := pw_tbl (List.mem_append_right _ (List.mem_append_right _ (List.mem_append_right _ (List.mem_append_right _ (List.mem_append_right _ (List.mem_append_right _ (List.mem_append_left _ h))))))) hg
theorem pw8 {w : Cond} (h : w ∈ tables_1_8) (hg : goodWord w = true) : w ∈ pWW := pw_tbl (List.mem_append_right _ (List.mem_append_right _ (List.mem_append_right _ (List.mem_append_right _ (List.mem_append_right _ (List.mem_append_right _ (List.mem_append_right _ (List.mem_append_left _ h)))))))) hg
theorem pw9 {w : Cond} (h : w ∈ tables_1_9) (hg : goodWord w = true) : w ∈ pWW := pw_tbl (List.mem_append_right _ (List.mem_append_right _ (List.mem_append_right _ (List.mem_append_right _ (List.mem_append_right _ (List.mem_append_right _ (List.mem_append_right _ (List.mem_append_right _ (List.mem_append_left _ h))))))))) hg
theorem pw10 {w : Cond} (h : w ∈ tables_1_10) (hg : goodWord w = true) : w ∈ pWW := pw_tbl (List.mem_append_right _ (List.mem_append_right _ (List.mem_append_right _ (List.mem_append_right _ (List.mem_append_right _ (List.mem_append_right _ (List.mem_append_right _ (List.mem_append_right _ (List.mem_append_right _ h))))))))) hg
theorem lay_12 : ∀ w ∈ u_ws RX12 TX12 87, w ∈ pWW := pLay (fun k hk => match k, hk with
  | 0, _ => pw7 (List.mem_of_getElem? (i := 92) rfl) rfl
  | 1, _ => pw7 (List.mem_of_getElem? (i := 94) rfl) rfl
  | 2, _ => pw7 (List.mem_of_getElem? (i := 96) rfl) rfl
  | 3, _ => pw7 (List.mem_of_getElem? (i := 98) rfl) rfl
  | 4, _ => pw7 (List.mem_of_getElem? (i := 100) rfl) rfl
  | 5, _ => pw7 (List.mem_of_getElem? (i := 102) rfl) rfl
  | 6, _ => pw7 (List.mem_of_getElem? (i := 104) rfl) rfl
  | 7, _ => pw7 (List.mem_of_getElem? (i := 106) rfl) rfl
  | 8, _ => pw7 (List.mem_of_getElem? (i := 108) rfl) rfl
  | 9, _ => pw7 (List.mem_of_getElem? (i := 110) rfl) rfl
  | 10, _ => pw7 (List.mem_of_getElem? (i := 112) rfl) rfl
  | 11, _ => pw7 (List.mem_of_getElem? (i := 114) rfl) rfl
  | 12, _ => pw7 (List.mem_of_getElem? (i := 116) rfl) rfl
  | 13, _ => pw7 (List.mem_of_getElem? (i := 118) rfl) rfl
  | 14, _ => pw7 (List.mem_of_getElem? (i := 120) rfl) rfl
  | 15, _ => pw7 (List.mem_of_getElem? (i := 122) rfl) rfl
  | 16, _ => pw7 (List.mem_of_getElem? (i := 124) rfl) rfl
  | 17, _ => pw7 (List.mem_of_getElem? (i := 126) rfl) rfl
  | 18, _ => pw7 (List.mem_of_getElem? (i := 128) rfl) rfl
  | 19, _ => pw7 (List.mem_of_getElem? (i := 130) rfl) rfl
  | 20, _ => pw7 (List.mem_of_getElem? (i := 132) rfl) rfl
  | 21, _ => pw7 (List.mem_of_getElem? (i := 134) rfl) rfl
  | 22, _ => pw7 (List.mem_of_getElem? (i := 136) rfl) rfl
  | 23, _ => pw7 (List.mem_of_getElem? (i := 138) rfl) rfl
  | 24, _ => pw7 (List.mem_of_getElem? (i := 140) rfl) rfl
  | 25, _ => pw7 (List.mem_of_getElem? (i := 142) rfl) rfl
  | 26, _ => pw7 (List.mem_of_getElem? (i := 144) rfl) rfl
  | 27, _ => pw7 (List.mem_of_getElem? (i := 146) rfl) rfl
  | 28, _ => pw7 (List.mem_of_getElem? (i := 148) rfl) rfl
  | 29, _ => pw7 (List.mem_of_getElem? (i := 150) rfl) rfl
  | 30, _ => pw7 (List.mem_of_getElem? (i := 152) rfl) rfl
  | 31, _ => pw7 (List.mem_of_getElem? (i := 154) rfl) rfl
  | 32, _ => pw7 (List.mem_of_getElem? (i := 156) rfl) rfl
  | 33, _ => pw7 (List.mem_of_getElem? (i := 158) rfl) rfl
  | 34, _ => pw7 (List.mem_of_getElem? (i := 160) rfl) rfl
  | 35, _ => pw7 (List.mem_of_getElem? (i := 162) rfl) rfl
  | 36, _ => pw7 (List.mem_of_getElem? (i := 164) rfl) rfl
  | 37, _ => pw7 (List.mem_of_getElem? (i := 166) rfl) rfl
  | 38, _ => pw7 (List.mem_of_getElem? (i := 168) rfl) rfl
  | 39, _ => pw7 (List.mem_of_getElem? (i := 170) rfl) rfl
  | 40, _ => pw7 (List.mem_of_getElem? (i := 172) rfl) rfl
  | 41, _ => pw7 (List.mem_of_getElem? (i := 174) rfl) rfl
  | 42, _ => pw7 (List.mem_of_getElem? (i := 176) rfl) rfl
  | 43, _ => pw7 (List.mem_of_getElem? (i := 178) rfl) rfl
  | 44, _ => pw7 (List.mem_of_getElem? (i := 180) rfl) rfl
  | 45, _ => pw7 (List.mem_of_getElem? (i := 182) rfl) rfl
  | 46, _ => pw7 (List.mem_of_getElem? (i := 184) rfl) rfl
  | 47, _ => pw7 (List.mem_of_getElem? (i := 186) rfl) rfl
  | 48, _ => pw7 (List.mem_of_getElem? (i := 188) rfl) rfl
  | 49, _ => pw7 (List.mem_of_getElem? (i := 190) rfl) rfl
  | 50, _ => pw7 (List.mem_of_getElem? (i := 192) rfl) rfl
  | 51, _ => pw7 (List.mem_of_getElem? (i := 194) rfl) rfl
  | 52, _ => pw7 (List.mem_of_getElem? (i := 196) rfl) rfl
  | 53, _ => pw7 (List.mem_of_getElem? (i := 198) rfl) rfl
  | 54, _ => pw7 (List.mem_of_getElem? (i := 200) rfl) rfl
  | 55, _ => pw7 (List.mem_of_getElem? (i := 202) rfl) rfl
  | 56, _ => pw7 (List.mem_of_getElem? (i := 204) rfl) rfl
  | 57, _ => pw7 (List.mem_of_getElem? (i := 206) rfl) rfl
  | 58, _ => pw7 (List.mem_of_getElem? (i := 208) rfl) rfl
  | 59, _ => pw7 (List.mem_of_getElem? (i := 210) rfl) rfl
  | 60, _ => pw7 (List.mem_of_getElem? (i := 212) rfl) rfl
  | 61, _ => pw7 (List.mem_of_getElem? (i := 214) rfl) rfl
  | 62, _ => pw7 (List.mem_of_getElem? (i := 216) rfl) rfl
  | 63, _ => pw7 (List.mem_of_getElem? (i := 218) rfl) rfl
  | 64, _ => pw7 (List.mem_of_getElem? (i := 220) rfl) rfl
  | 65, _ => pw7 (List.mem_of_getElem? (i := 222) rfl) rfl
  | 66, _ => pw7 (List.mem_of_getElem? (i := 224) rfl) rfl
  | 67, _ => pw7 (List.mem_of_getElem? (i := 226) rfl) rfl
  | 68, _ => pw7 (List.mem_of_getElem? (i := 228) rfl) rfl
  | 69, _ => pw7 (List.mem_of_getElem? (i := 230) rfl) rfl
  | 70, _ => pw7 (List.mem_of_getElem? (i := 232) rfl) rfl
  | 71, _ => pw7 (List.mem_of_getElem? (i := 234) rfl) rfl
  | 72, _ => pw7 (List.mem_of_getElem? (i := 236) rfl) rfl
  | 73, _ => pw7 (List.mem_of_getElem? (i := 238) rfl) rfl
  | 74, _ => pw8 (List.mem_of_getElem? (i := 0) rfl) rfl
  | 75, _ => pw8 (List.mem_of_getElem? (i := 2) rfl) rfl
  | 76, _ => pw8 (List.mem_of_getElem? (i := 4) rfl) rfl
  | 77, _ => pw8 (List.mem_of_getElem? (i := 6) rfl) rfl
  | 78, _ => pw8 (List.mem_of_getElem? (i := 8) rfl) rfl
  | 79, _ => pw8 (List.mem_of_getElem? (i := 10) rfl) rfl
  | 80, _ => pw8 (List.mem_of_getElem? (i := 12) rfl) rfl
  | 81, _ => pw8 (List.mem_of_getElem? (i := 14) rfl) rfl
  | 82, _ => pw8 (List.mem_of_getElem? (i := 16) rfl) rfl
  | 83, _ => pw8 (List.mem_of_getElem? (i := 18) rfl) rfl
  | 84, _ => pw8 (List.mem_of_getElem? (i := 20) rfl) rfl
  | 85, _ => pw8 (List.mem_of_getElem? (i := 22) rfl) rfl
  | 86, _ => pw8 (List.mem_of_getElem? (i := 24) rfl) rfl
  | k + 87, h => absurd h (by omega))
theorem cd_X12_init : Cond.code yX12_init cX12_init 1 none ∈ pWW := pw7 (List.mem_of_getElem? (i := 2) rfl) rfl
theorem ini_12 : Cond.initialized RX12 ∈ pWW := pw1 (List.mem_of_getElem? (i := 12) rfl) rfl
abbrev m_X12_init : MT := (yX12_init, cX12_init, 1, none)
theorem ok_X12_init : pOk m_X12_init := ⟨⟨cd_X12_init, ini_12⟩, by decide +kernel, ⟨by decide +kernel, by decide +kernel⟩, Nat.le_of_ble_eq_true rfl⟩
theorem np_X12_init : (parseMethodDescriptor yX12_init.desc).map (fun d => d.parameters.length) = some 0 := by decide +kernel
theorem im_X12_init : Cond.instanceMethod yX12_init ∈ pWW := pw7 (List.mem_of_getElem? (i := 1) rfl) rfl
theorem cd_X12_in : Cond.code yX12_in cX12_in 3 (some .boolean) ∈ pWW := pw8 (List.mem_of_getElem? (i := 42) rfl) rfl
abbrev m_X12_in : MT := (yX12_in, cX12_in, 3, (some .boolean))
theorem ok_X12_in : pOk m_X12_in := ⟨⟨cd_X12_in, ini_12⟩, by decide +kernel, ⟨by decide +kernel, by decide +kernel⟩, Nat.le_of_ble_eq_true rfl⟩
theorem np_X12_in : (parseMethodDescriptor yX12_in.desc).map (fun d => d.parameters.length) = some 3 := by decide +kernel
theorem stt_X12_in : Cond.static yX12_in ∈ pWW := pw8 (List.mem_of_getElem? (i := 41) rfl) rfl
theorem cd_X12_copyItem : Cond.code yX12_copyItem cX12_copyItem 4 none ∈ pWW := pw9 (List.mem_of_getElem? (i := 28) rfl) rfl
abbrev m_X12_copyItem : MT := (yX12_copyItem, cX12_copyItem, 4, none)
theorem ok_X12_copyItem : pOk m_X12_copyItem := ⟨⟨cd_X12_copyItem, ini_12⟩, by decide +kernel, ⟨by decide +kernel, by decide +kernel⟩, Nat.le_of_ble_eq_true rfl⟩
theorem np_X12_copyItem : (parseMethodDescriptor yX12_copyItem.desc).map (fun d => d.parameters.length) = some 2 := by decide +kernel
theorem im_X12_copyItem : Cond.instanceMethod yX12_copyItem ∈ pWW := pw9 (List.mem_of_getElem? (i := 27) rfl) rfl
theorem se_X12_copyItem : Cond.selects RX12 yX12_copyItem yX12_copyItem ∈ pWW := pws (List.mem_map.mpr ⟨_, lw_pin 132 rfl, rfl⟩) rfl
theorem cd_X12_setItem : Cond.code yX12_setItem cX12_setItem 6 none ∈ pWW := pw8 (List.mem_of_getElem? (i := 216) rfl) rfl
abbrev m_X12_setItem : MT := (yX12_setItem, cX12_setItem, 6, none)
theorem ok_X12_setItem : pOk m_X12_setItem := ⟨⟨cd_X12_setItem, ini_12⟩, by decide +kernel, ⟨by decide +kernel, by decide +kernel⟩, Nat.le_of_ble_eq_true rfl⟩
theorem np_X12_setItem : (parseMethodDescriptor yX12_setItem.desc).map (fun d => d.parameters.length) = some 4 := by decide +kernel
theorem im_X12_setItem : Cond.instanceMethod yX12_setItem ∈ pWW := pw8 (List.mem_of_getElem? (i := 215) rfl) rfl
theorem se_X12_setItem : Cond.selects RX12 yX12_setItem yX12_setItem ∈ pWW := pws (List.mem_map.mpr ⟨_, lw_pin 119 rfl, rfl⟩) rfl
theorem cd_X12_setArg : Cond.code yX12_setArg cX12_setArg 5 none ∈ pWW := pw9 (List.mem_of_getElem? (i := 4) rfl) rfl
abbrev m_X12_setArg : MT := (yX12_setArg, cX12_setArg, 5, none)
theorem ok_X12_setArg : pOk m_X12_setArg := ⟨⟨cd_X12_setArg, ini_12⟩, by decide +kernel, ⟨by decide +kernel, by decide +kernel⟩, Nat.le_of_ble_eq_true rfl⟩
theorem np_X12_setArg : (parseMethodDescriptor yX12_setArg.desc).map (fun d => d.parameters.length) = some 4 := by decide +kernel
theorem im_X12_setArg : Cond.instanceMethod yX12_setArg ∈ pWW := pw9 (List.mem_of_getElem? (i := 3) rfl) rfl
theorem se_X12_setArg : Cond.selects RX12 yX12_setArg yX12_setArg ∈ pWW := pws (List.mem_map.mpr ⟨_, lw_pin 126 rfl, rfl⟩) rfl
theorem cd_X12_at : Cond.code yX12_at cX12_at 3 (some .int) ∈ pWW := pw8 (List.mem_of_getElem? (i := 212) rfl) rfl
abbrev m_X12_at : MT := (yX12_at, cX12_at, 3, (some .int))
theorem ok_X12_at : pOk m_X12_at := ⟨⟨cd_X12_at, ini_12⟩, by decide +kernel, ⟨by decide +kernel, by decide +kernel⟩, Nat.le_of_ble_eq_true rfl⟩
theorem np_X12_at : (parseMethodDescriptor yX12_at.desc).map (fun d => d.parameters.length) = some 2 := by decide +kernel
theorem im_X12_at : Cond.instanceMethod yX12_at ∈ pWW := pw8 (List.mem_of_getElem? (i := 211) rfl) rfl
theorem se_X12_at : Cond.selects RX12 yX12_at yX12_at ∈ pWW := pws (List.mem_map.mpr ⟨_, lw_pin 118 rfl, rfl⟩) rfl
theorem cd_X12_isAct : Cond.code yX12_isAct cX12_isAct 1 (some .boolean) ∈ pWW := pw9 (List.mem_of_getElem? (i := 47) rfl) rfl
abbrev m_X12_isAct : MT := (yX12_isAct, cX12_isAct, 1, (some .boolean))
theorem ok_X12_isAct : pOk m_X12_isAct := ⟨⟨cd_X12_isAct, ini_12⟩, by decide +kernel, ⟨by decide +kernel, by decide +kernel⟩, Nat.le_of_ble_eq_true rfl⟩
theorem np_X12_isAct : (parseMethodDescriptor yX12_isAct.desc).map (fun d => d.parameters.length) = some 1 := by decide +kernel
theorem stt_X12_isAct : Cond.static yX12_isAct ∈ pWW := pw9 (List.mem_of_getElem? (i := 46) rfl) rfl
theorem cd_X12_isFive : Cond.code yX12_isFive cX12_isFive 1 (some .boolean) ∈ pWW := pw9 (List.mem_of_getElem? (i := 61) rfl) rfl
abbrev m_X12_isFive : MT := (yX12_isFive, cX12_isFive, 1, (some .boolean))
theorem ok_X12_isFive : pOk m_X12_isFive := ⟨⟨cd_X12_isFive, ini_12⟩, by decide +kernel, ⟨by decide +kernel, by decide +kernel⟩, Nat.le_of_ble_eq_true rfl⟩
theorem np_X12_isFive : (parseMethodDescriptor yX12_isFive.desc).map (fun d => d.parameters.length) = some 1 := by decide +kernel
theorem stt_X12_isFive : Cond.static yX12_isFive ∈ pWW := pw9 (List.mem_of_getElem? (i := 60) rfl) rfl
theorem cd_X12_writes : Cond.code yX12_writes cX12_writes 1 (some .boolean) ∈ pWW := pw9 (List.mem_of_getElem? (i := 54) rfl) rfl
abbrev m_X12_writes : MT := (yX12_writes, cX12_writes, 1, (some .boolean))
theorem ok_X12_writes : pOk m_X12_writes := ⟨⟨cd_X12_writes, ini_12⟩, by decide +kernel, ⟨by decide +kernel, by decide +kernel⟩, Nat.le_of_ble_eq_true rfl⟩
theorem np_X12_writes : (parseMethodDescriptor yX12_writes.desc).map (fun d => d.parameters.length) = some 1 := by decide +kernel
theorem stt_X12_writes : Cond.static yX12_writes ∈ pWW := pw9 (List.mem_of_getElem? (i := 53) rfl) rfl
theorem cd_X12_writesTo : Cond.code yX12_writesTo cX12_writesTo 3 (some .boolean) ∈ pWW := pw9 (List.mem_of_getElem? (i := 140) rfl) rfl
abbrev m_X12_writesTo : MT := (yX12_writesTo, cX12_writesTo, 3, (some .boolean))
theorem ok_X12_writesTo : pOk m_X12_writesTo := ⟨⟨cd_X12_writesTo, ini_12⟩, by decide +kernel, ⟨by decide +kernel, by decide +kernel⟩, Nat.le_of_ble_eq_true rfl⟩
theorem np_X12_writesTo : (parseMethodDescriptor yX12_writesTo.desc).map (fun d => d.parameters.length) = some 2 := by decide +kernel
theorem im_X12_writesTo : Cond.instanceMethod yX12_writesTo ∈ pWW := pw9 (List.mem_of_getElem? (i := 139) rfl) rfl
theorem se_X12_writesTo : Cond.selects RX12 yX12_writesTo yX12_writesTo ∈ pWW := pws (List.mem_map.mpr ⟨_, lw_pin 151 rfl, rfl⟩) rfl
theorem cd_X12_args : Cond.code yX12_args cX12_args 3 (some .int) ∈ pWW := pw9 (List.mem_of_getElem? (i := 58) rfl) rfl
abbrev m_X12_args : MT := (yX12_args, cX12_args, 3, (some .int))
theorem ok_X12_args : pOk m_X12_args := ⟨⟨cd_X12_args, ini_12⟩, by decide +kernel, ⟨by decide +kernel, by decide +kernel⟩, Nat.le_of_ble_eq_true rfl⟩
theorem np_X12_args : (parseMethodDescriptor yX12_args.desc).map (fun d => d.parameters.length) = some 1 := by decide +kernel
theorem im_X12_args : Cond.instanceMethod yX12_args ∈ pWW := pw9 (List.mem_of_getElem? (i := 57) rfl) rfl
theorem se_X12_args : Cond.selects RX12 yX12_args yX12_args ∈ pWW := pws (List.mem_map.mpr ⟨_, lw_pin 136 rfl, rfl⟩) rfl
theorem cd_X12_leansOn : Cond.code yX12_leansOn cX12_leansOn 4 (some .boolean) ∈ pWW := pw9 (List.mem_of_getElem? (i := 144) rfl) rfl
abbrev m_X12_leansOn : MT := (yX12_leansOn, cX12_leansOn, 4, (some .boolean))
theorem ok_X12_leansOn : pOk m_X12_leansOn := ⟨⟨cd_X12_leansOn, ini_12⟩, by decide +kernel, ⟨by decide +kernel, by decide +kernel⟩, Nat.le_of_ble_eq_true rfl⟩
theorem np_X12_leansOn : (parseMethodDescriptor yX12_leansOn.desc).map (fun d => d.parameters.length) = some 2 := by decide +kernel
theorem im_X12_leansOn : Cond.instanceMethod yX12_leansOn ∈ pWW := pw9 (List.mem_of_getElem? (i := 143) rfl) rfl
theorem se_X12_leansOn : Cond.selects RX12 yX12_leansOn yX12_leansOn ∈ pWW := pws (List.mem_map.mpr ⟨_, lw_pin 152 rfl, rfl⟩) rfl
theorem cd_X12_registers : Cond.code yX12_registers cX12_registers 6 (some .int) ∈ pWW := pw9 (List.mem_of_getElem? (i := 51) rfl) rfl
abbrev m_X12_registers : MT := (yX12_registers, cX12_registers, 6, (some .int))
theorem ok_X12_registers : pOk m_X12_registers := ⟨⟨cd_X12_registers, ini_12⟩, by decide +kernel, ⟨by decide +kernel, by decide +kernel⟩, Nat.le_of_ble_eq_true rfl⟩
theorem np_X12_registers : (parseMethodDescriptor yX12_registers.desc).map (fun d => d.parameters.length) = some 1 := by decide +kernel
theorem im_X12_registers : Cond.instanceMethod yX12_registers ∈ pWW := pw9 (List.mem_of_getElem? (i := 50) rfl) rfl
theorem se_X12_registers : Cond.selects RX12 yX12_registers yX12_registers ∈ pWW := pws (List.mem_map.mpr ⟨_, lw_pin 135 rfl, rfl⟩) rfl
theorem cd_X12_labels : Cond.code yX12_labels cX12_labels 6 (some .int) ∈ pWW := pw9 (List.mem_of_getElem? (i := 200) rfl) rfl
abbrev m_X12_labels : MT := (yX12_labels, cX12_labels, 6, (some .int))
theorem ok_X12_labels : pOk m_X12_labels := ⟨⟨cd_X12_labels, ini_12⟩, by decide +kernel, ⟨by decide +kernel, by decide +kernel⟩, Nat.le_of_ble_eq_true rfl⟩
theorem np_X12_labels : (parseMethodDescriptor yX12_labels.desc).map (fun d => d.parameters.length) = some 1 := by decide +kernel
theorem im_X12_labels : Cond.instanceMethod yX12_labels ∈ pWW := pw9 (List.mem_of_getElem? (i := 199) rfl) rfl
theorem se_X12_labels : Cond.selects RX12 yX12_labels yX12_labels ∈ pWW := pws (List.mem_map.mpr ⟨_, lw_pin 166 rfl, rfl⟩) rfl
theorem cd_X12_see : Cond.code yX12_see cX12_see 2 (some .int) ∈ pWW := pw8 (List.mem_of_getElem? (i := 58) rfl) rfl
abbrev m_X12_see : MT := (yX12_see, cX12_see, 2, (some .int))
theorem ok_X12_see : pOk m_X12_see := ⟨⟨cd_X12_see, ini_12⟩, by decide +kernel, ⟨by decide +kernel, by decide +kernel⟩, Nat.le_of_ble_eq_true rfl⟩
theorem np_X12_see : (parseMethodDescriptor yX12_see.desc).map (fun d => d.parameters.length) = some 1 := by decide +kernel
theorem im_X12_see : Cond.instanceMethod yX12_see ∈ pWW := pw8 (List.mem_of_getElem? (i := 57) rfl) rfl
theorem se_X12_see : Cond.selects RX12 yX12_see yX12_see ∈ pWW := pws (List.mem_map.mpr ⟨_, lw_pin 103 rfl, rfl⟩) rfl
theorem cd_X12_isLetter : Cond.code yX12_isLetter cX12_isLetter 1 (some .boolean) ∈ pWW := pw8 (List.mem_of_getElem? (i := 61) rfl) rfl
abbrev m_X12_isLetter : MT := (yX12_isLetter, cX12_isLetter, 1, (some .boolean))
theorem ok_X12_isLetter : pOk m_X12_isLetter := ⟨⟨cd_X12_isLetter, ini_12⟩, by decide +kernel, ⟨by decide +kernel, by decide +kernel⟩, Nat.le_of_ble_eq_true rfl⟩
theorem np_X12_isLetter : (parseMethodDescriptor yX12_isLetter.desc).map (fun d => d.parameters.length) = some 1 := by decide +kernel
theorem stt_X12_isLetter : Cond.static yX12_isLetter ∈ pWW := pw8 (List.mem_of_getElem? (i := 60) rfl) rfl
theorem cd_X12_isDigit : Cond.code yX12_isDigit cX12_isDigit 1 (some .boolean) ∈ pWW := pw8 (List.mem_of_getElem? (i := 64) rfl) rfl
abbrev m_X12_isDigit : MT := (yX12_isDigit, cX12_isDigit, 1, (some .boolean))
theorem ok_X12_isDigit : pOk m_X12_isDigit := ⟨⟨cd_X12_isDigit, ini_12⟩, by decide +kernel, ⟨by decide +kernel, by decide +kernel⟩, Nat.le_of_ble_eq_true rfl⟩
theorem np_X12_isDigit : (parseMethodDescriptor yX12_isDigit.desc).map (fun d => d.parameters.length) = some 1 := by decide +kernel
theorem stt_X12_isDigit : Cond.static yX12_isDigit ∈ pWW := pw8 (List.mem_of_getElem? (i := 63) rfl) rfl
theorem cd_X12_advance : Cond.code yX12_advance cX12_advance 3 none ∈ pWW := pw8 (List.mem_of_getElem? (i := 54) rfl) rfl
abbrev m_X12_advance : MT := (yX12_advance, cX12_advance, 3, none)
theorem ok_X12_advance : pOk m_X12_advance := ⟨⟨cd_X12_advance, ini_12⟩, by decide +kernel, ⟨by decide +kernel, by decide +kernel⟩, Nat.le_of_ble_eq_true rfl⟩
theorem np_X12_advance : (parseMethodDescriptor yX12_advance.desc).map (fun d => d.parameters.length) = some 0 := by decide +kernel
theorem im_X12_advance : Cond.instanceMethod yX12_advance ∈ pWW := pw8 (List.mem_of_getElem? (i := 53) rfl) rfl
theorem se_X12_advance : Cond.selects RX12 yX12_advance yX12_advance ∈ pWW := pws (List.mem_map.mpr ⟨_, lw_pin 102 rfl, rfl⟩) rfl
theorem cd_X12_isSign : Cond.code yX12_isSign cX12_isSign 2 (some .boolean) ∈ pWW := pw8 (List.mem_of_getElem? (i := 180) rfl) rfl
abbrev m_X12_isSign : MT := (yX12_isSign, cX12_isSign, 2, (some .boolean))
theorem ok_X12_isSign : pOk m_X12_isSign := ⟨⟨cd_X12_isSign, ini_12⟩, by decide +kernel, ⟨by decide +kernel, by decide +kernel⟩, Nat.le_of_ble_eq_true rfl⟩
theorem np_X12_isSign : (parseMethodDescriptor yX12_isSign.desc).map (fun d => d.parameters.length) = some 1 := by decide +kernel
theorem im_X12_isSign : Cond.instanceMethod yX12_isSign ∈ pWW := pw8 (List.mem_of_getElem? (i := 179) rfl) rfl
theorem se_X12_isSign : Cond.selects RX12 yX12_isSign yX12_isSign ∈ pWW := pws (List.mem_map.mpr ⟨_, lw_pin 110 rfl, rfl⟩) rfl
theorem cd_X12_isWord : Cond.code yX12_isWord cX12_isWord 3 (some .boolean) ∈ pWW := pw8 (List.mem_of_getElem? (i := 200) rfl) rfl
abbrev m_X12_isWord : MT := (yX12_isWord, cX12_isWord, 3, (some .boolean))
theorem ok_X12_isWord : pOk m_X12_isWord := ⟨⟨cd_X12_isWord, ini_12⟩, by decide +kernel, ⟨by decide +kernel, by decide +kernel⟩, Nat.le_of_ble_eq_true rfl⟩
theorem np_X12_isWord : (parseMethodDescriptor yX12_isWord.desc).map (fun d => d.parameters.length) = some 1 := by decide +kernel
theorem im_X12_isWord : Cond.instanceMethod yX12_isWord ∈ pWW := pw8 (List.mem_of_getElem? (i := 199) rfl) rfl
theorem se_X12_isWord : Cond.selects RX12 yX12_isWord yX12_isWord ∈ pWW := pws (List.mem_map.mpr ⟨_, lw_pin 115 rfl, rfl⟩) rfl
theorem cd_X12_isName : Cond.code yX12_isName cX12_isName 1 (some .boolean) ∈ pWW := pw8 (List.mem_of_getElem? (i := 155) rfl) rfl
abbrev m_X12_isName : MT := (yX12_isName, cX12_isName, 1, (some .boolean))
theorem ok_X12_isName : pOk m_X12_isName := ⟨⟨cd_X12_isName, ini_12⟩, by decide +kernel, ⟨by decide +kernel, by decide +kernel⟩, Nat.le_of_ble_eq_true rfl⟩
theorem np_X12_isName : (parseMethodDescriptor yX12_isName.desc).map (fun d => d.parameters.length) = some 0 := by decide +kernel
theorem im_X12_isName : Cond.instanceMethod yX12_isName ∈ pWW := pw8 (List.mem_of_getElem? (i := 154) rfl) rfl
theorem se_X12_isName : Cond.selects RX12 yX12_isName yX12_isName ∈ pWW := pws (List.mem_map.mpr ⟨_, lw_pin 105 rfl, rfl⟩) rfl
theorem cd_X12_wrong : Cond.code yX12_wrong cX12_wrong 1 (some .boolean) ∈ pWW := pw8 (List.mem_of_getElem? (i := 164) rfl) rfl
abbrev m_X12_wrong : MT := (yX12_wrong, cX12_wrong, 1, (some .boolean))
theorem ok_X12_wrong : pOk m_X12_wrong := ⟨⟨cd_X12_wrong, ini_12⟩, by decide +kernel, ⟨by decide +kernel, by decide +kernel⟩, Nat.le_of_ble_eq_true rfl⟩
theorem np_X12_wrong : (parseMethodDescriptor yX12_wrong.desc).map (fun d => d.parameters.length) = some 0 := by decide +kernel
theorem im_X12_wrong : Cond.instanceMethod yX12_wrong ∈ pWW := pw8 (List.mem_of_getElem? (i := 163) rfl) rfl
theorem se_X12_wrong : Cond.selects RX12 yX12_wrong yX12_wrong ∈ pWW := pws (List.mem_map.mpr ⟨_, lw_pin 106 rfl, rfl⟩) rfl
theorem cd_X12_note : Cond.code yX12_note cX12_note 3 none ∈ pWW := pw8 (List.mem_of_getElem? (i := 168) rfl) rfl
abbrev m_X12_note : MT := (yX12_note, cX12_note, 3, none)
theorem ok_X12_note : pOk m_X12_note := ⟨⟨cd_X12_note, ini_12⟩, by decide +kernel, ⟨by decide +kernel, by decide +kernel⟩, Nat.le_of_ble_eq_true rfl⟩
theorem np_X12_note : (parseMethodDescriptor yX12_note.desc).map (fun d => d.parameters.length) = some 2 := by decide +kernel
theorem im_X12_note : Cond.instanceMethod yX12_note ∈ pWW := pw8 (List.mem_of_getElem? (i := 167) rfl) rfl
theorem se_X12_note : Cond.selects RX12 yX12_note yX12_note ∈ pWW := pws (List.mem_map.mpr ⟨_, lw_pin 107 rfl, rfl⟩) rfl
theorem cd_X12_need : Cond.code yX12_need cX12_need 2 (some .boolean) ∈ pWW := pw8 (List.mem_of_getElem? (i := 176) rfl) rfl
abbrev m_X12_need : MT := (yX12_need, cX12_need, 2, (some .boolean))
theorem ok_X12_need : pOk m_X12_need := ⟨⟨cd_X12_need, ini_12⟩, by decide +kernel, ⟨by decide +kernel, by decide +kernel⟩, Nat.le_of_ble_eq_true rfl⟩
theorem np_X12_need : (parseMethodDescriptor yX12_need.desc).map (fun d => d.parameters.length) = some 1 := by decide +kernel
theorem im_X12_need : Cond.instanceMethod yX12_need ∈ pWW := pw8 (List.mem_of_getElem? (i := 175) rfl) rfl
theorem se_X12_need : Cond.selects RX12 yX12_need yX12_need ∈ pWW := pws (List.mem_map.mpr ⟨_, lw_pin 109 rfl, rfl⟩) rfl
theorem cd_X12_isKept : Cond.code yX12_isKept cX12_isKept 1 (some .boolean) ∈ pWW := pw8 (List.mem_of_getElem? (i := 184) rfl) rfl
abbrev m_X12_isKept : MT := (yX12_isKept, cX12_isKept, 1, (some .boolean))
theorem ok_X12_isKept : pOk m_X12_isKept := ⟨⟨cd_X12_isKept, ini_12⟩, by decide +kernel, ⟨by decide +kernel, by decide +kernel⟩, Nat.le_of_ble_eq_true rfl⟩
theorem np_X12_isKept : (parseMethodDescriptor yX12_isKept.desc).map (fun d => d.parameters.length) = some 0 := by decide +kernel
theorem im_X12_isKept : Cond.instanceMethod yX12_isKept ∈ pWW := pw8 (List.mem_of_getElem? (i := 183) rfl) rfl
theorem se_X12_isKept : Cond.selects RX12 yX12_isKept yX12_isKept ∈ pWW := pws (List.mem_map.mpr ⟨_, lw_pin 111 rfl, rfl⟩) rfl
theorem cd_X12_nameOf : Cond.code yX12_nameOf cX12_nameOf 5 (some .int) ∈ pWW := pw8 (List.mem_of_getElem? (i := 188) rfl) rfl
abbrev m_X12_nameOf : MT := (yX12_nameOf, cX12_nameOf, 5, (some .int))
theorem ok_X12_nameOf : pOk m_X12_nameOf := ⟨⟨cd_X12_nameOf, ini_12⟩, by decide +kernel, ⟨by decide +kernel, by decide +kernel⟩, Nat.le_of_ble_eq_true rfl⟩
theorem np_X12_nameOf : (parseMethodDescriptor yX12_nameOf.desc).map (fun d => d.parameters.length) = some 2 := by decide +kernel
theorem im_X12_nameOf : Cond.instanceMethod yX12_nameOf ∈ pWW := pw8 (List.mem_of_getElem? (i := 187) rfl) rfl
theorem se_X12_nameOf : Cond.selects RX12 yX12_nameOf yX12_nameOf ∈ pWW := pws (List.mem_map.mpr ⟨_, lw_pin 112 rfl, rfl⟩) rfl
theorem cd_X12_put : Cond.code yX12_put cX12_put 6 (some .int) ∈ pWW := pw8 (List.mem_of_getElem? (i := 208) rfl) rfl
abbrev m_X12_put : MT := (yX12_put, cX12_put, 6, (some .int))
theorem ok_X12_put : pOk m_X12_put := ⟨⟨cd_X12_put, ini_12⟩, by decide +kernel, ⟨by decide +kernel, by decide +kernel⟩, Nat.le_of_ble_eq_true rfl⟩
theorem np_X12_put : (parseMethodDescriptor yX12_put.desc).map (fun d => d.parameters.length) = some 3 := by decide +kernel
theorem im_X12_put : Cond.instanceMethod yX12_put ∈ pWW := pw8 (List.mem_of_getElem? (i := 207) rfl) rfl
theorem se_X12_put : Cond.selects RX12 yX12_put yX12_put ∈ pWW := pws (List.mem_map.mpr ⟨_, lw_pin 117 rfl, rfl⟩) rfl
theorem cd_X12_give : Cond.code yX12_give cX12_give 3 none ∈ pWW := pw8 (List.mem_of_getElem? (i := 236) rfl) rfl
abbrev m_X12_give : MT := (yX12_give, cX12_give, 3, none)
theorem ok_X12_give : pOk m_X12_give := ⟨⟨cd_X12_give, ini_12⟩, by decide +kernel, ⟨by decide +kernel, by decide +kernel⟩, Nat.le_of_ble_eq_true rfl⟩
theorem np_X12_give : (parseMethodDescriptor yX12_give.desc).map (fun d => d.parameters.length) = some 2 := by decide +kernel
theorem im_X12_give : Cond.instanceMethod yX12_give ∈ pWW := pw8 (List.mem_of_getElem? (i := 235) rfl) rfl
theorem se_X12_give : Cond.selects RX12 yX12_give yX12_give ∈ pWW := pws (List.mem_map.mpr ⟨_, lw_pin 124 rfl, rfl⟩) rfl
theorem cd_X12_joins : Cond.code yX12_joins cX12_joins 7 none ∈ pWW := pw9 (List.mem_of_getElem? (i := 0) rfl) rfl
abbrev m_X12_joins : MT := (yX12_joins, cX12_joins, 7, none)
theorem ok_X12_joins : pOk m_X12_joins := ⟨⟨cd_X12_joins, ini_12⟩, by decide +kernel, ⟨by decide +kernel, by decide +kernel⟩, Nat.le_of_ble_eq_true rfl⟩
theorem np_X12_joins : (parseMethodDescriptor yX12_joins.desc).map (fun d => d.parameters.length) = some 5 := by decide +kernel
theorem im_X12_joins : Cond.instanceMethod yX12_joins ∈ pWW := pw8 (List.mem_of_getElem? (i := 239) rfl) rfl
theorem se_X12_joins : Cond.selects RX12 yX12_joins yX12_joins ∈ pWW := pws (List.mem_map.mpr ⟨_, lw_pin 125 rfl, rfl⟩) rfl
theorem cd_X12_expression : Cond.code yX12_expression cX12_expression 5 (some .boolean) ∈ pWW := pw8 (List.mem_of_getElem? (i := 220) rfl) rfl
abbrev m_X12_expression : MT := (yX12_expression, cX12_expression, 5, (some .boolean))
theorem ok_X12_expression : pOk m_X12_expression := ⟨⟨cd_X12_expression, ini_12⟩, by decide +kernel, ⟨by decide +kernel, by decide +kernel⟩, Nat.le_of_ble_eq_true rfl⟩
theorem np_X12_expression : (parseMethodDescriptor yX12_expression.desc).map (fun d => d.parameters.length) = some 0 := by decide +kernel
theorem im_X12_expression : Cond.instanceMethod yX12_expression ∈ pWW := pw8 (List.mem_of_getElem? (i := 219) rfl) rfl
theorem se_X12_expression : Cond.selects RX12 yX12_expression yX12_expression ∈ pWW := pws (List.mem_map.mpr ⟨_, lw_pin 120 rfl, rfl⟩) rfl
theorem cd_X12_sum : Cond.code yX12_sum cX12_sum 5 (some .boolean) ∈ pWW := pw8 (List.mem_of_getElem? (i := 224) rfl) rfl
abbrev m_X12_sum : MT := (yX12_sum, cX12_sum, 5, (some .boolean))
theorem ok_X12_sum : pOk m_X12_sum := ⟨⟨cd_X12_sum, ini_12⟩, by decide +kernel, ⟨by decide +kernel, by decide +kernel⟩, Nat.le_of_ble_eq_true rfl⟩
theorem np_X12_sum : (parseMethodDescriptor yX12_sum.desc).map (fun d => d.parameters.length) = some 0 := by decide +kernel
theorem im_X12_sum : Cond.instanceMethod yX12_sum ∈ pWW := pw8 (List.mem_of_getElem? (i := 223) rfl) rfl
theorem se_X12_sum : Cond.selects RX12 yX12_sum yX12_sum ∈ pWW := pws (List.mem_map.mpr ⟨_, lw_pin 121 rfl, rfl⟩) rfl
theorem cd_X12_product : Cond.code yX12_product cX12_product 4 (some .boolean) ∈ pWW := pw8 (List.mem_of_getElem? (i := 228) rfl) rfl
abbrev m_X12_product : MT := (yX12_product, cX12_product, 4, (some .boolean))
theorem ok_X12_product : pOk m_X12_product := ⟨⟨cd_X12_product, ini_12⟩, by decide +kernel, ⟨by decide +kernel, by decide +kernel⟩, Nat.le_of_ble_eq_true rfl⟩
theorem np_X12_product : (parseMethodDescriptor yX12_product.desc).map (fun d => d.parameters.length) = some 0 := by decide +kernel
theorem im_X12_product : Cond.instanceMethod yX12_product ∈ pWW := pw8 (List.mem_of_getElem? (i := 227) rfl) rfl
theorem se_X12_product : Cond.selects RX12 yX12_product yX12_product ∈ pWW := pws (List.mem_map.mpr ⟨_, lw_pin 122 rfl, rfl⟩) rfl
theorem cd_X12_signed : Cond.code yX12_signed cX12_signed 2 (some .boolean) ∈ pWW := pw8 (List.mem_of_getElem? (i := 232) rfl) rfl
abbrev m_X12_signed : MT := (yX12_signed, cX12_signed, 2, (some .boolean))
theorem ok_X12_signed : pOk m_X12_signed := ⟨⟨cd_X12_signed, ini_12⟩, by decide +kernel, ⟨by decide +kernel, by decide +kernel⟩, Nat.le_of_ble_eq_true rfl⟩
theorem np_X12_signed : (parseMethodDescriptor yX12_signed.desc).map (fun d => d.parameters.length) = some 0 := by decide +kernel
theorem im_X12_signed : Cond.instanceMethod yX12_signed ∈ pWW := pw8 (List.mem_of_getElem? (i := 231) rfl) rfl
theorem se_X12_signed : Cond.selects RX12 yX12_signed yX12_signed ∈ pWW := pws (List.mem_map.mpr ⟨_, lw_pin 123 rfl, rfl⟩) rfl
theorem cd_X12_block : Cond.code yX12_block cX12_block 1 (some .boolean) ∈ pWW := pw8 (List.mem_of_getElem? (i := 192) rfl) rfl
abbrev m_X12_block : MT := (yX12_block, cX12_block, 1, (some .boolean))
theorem ok_X12_block : pOk m_X12_block := ⟨⟨cd_X12_block, ini_12⟩, by decide +kernel, ⟨by decide +kernel, by decide +kernel⟩, Nat.le_of_ble_eq_true rfl⟩
theorem np_X12_block : (parseMethodDescriptor yX12_block.desc).map (fun d => d.parameters.length) = some 0 := by decide +kernel
theorem im_X12_block : Cond.instanceMethod yX12_block ∈ pWW := pw8 (List.mem_of_getElem? (i := 191) rfl) rfl
theorem se_X12_block : Cond.selects RX12 yX12_block yX12_block ∈ pWW := pws (List.mem_map.mpr ⟨_, lw_pin 113 rfl, rfl⟩) rfl
theorem cd_X12_statement : Cond.code yX12_statement cX12_statement 4 (some .boolean) ∈ pWW := pw8 (List.mem_of_getElem? (i := 196) rfl) rfl
abbrev m_X12_statement : MT := (yX12_statement, cX12_statement, 4, (some .boolean))
theorem ok_X12_statement : pOk m_X12_statement := ⟨⟨cd_X12_statement, ini_12⟩, by decide +kernel, ⟨by decide +kernel, by decide +kernel⟩, Nat.le_of_ble_eq_true rfl⟩
theorem np_X12_statement : (parseMethodDescriptor yX12_statement.desc).map (fun d => d.parameters.length) = some 0 := by decide +kernel
theorem im_X12_statement : Cond.instanceMethod yX12_statement ∈ pWW := pw8 (List.mem_of_getElem? (i := 195) rfl) rfl
theorem se_X12_statement : Cond.selects RX12 yX12_statement yX12_statement ∈ pWW := pws (List.mem_map.mpr ⟨_, lw_pin 114 rfl, rfl⟩) rfl
theorem cd_X12_assignment : Cond.code yX12_assignment cX12_assignment 6 (some .boolean) ∈ pWW := pw9 (List.mem_of_getElem? (i := 12) rfl) rfl
abbrev m_X12_assignment : MT := (yX12_assignment, cX12_assignment, 6, (some .boolean))
theorem ok_X12_assignment : pOk m_X12_assignment := ⟨⟨cd_X12_assignment, ini_12⟩, by decide +kernel, ⟨by decide +kernel, by decide +kernel⟩, Nat.le_of_ble_eq_true rfl⟩
theorem np_X12_assignment : (parseMethodDescriptor yX12_assignment.desc).map (fun d => d.parameters.length) = some 0 := by decide +kernel
theorem im_X12_assignment : Cond.instanceMethod yX12_assignment ∈ pWW := pw9 (List.mem_of_getElem? (i := 11) rfl) rfl
theorem se_X12_assignment : Cond.selects RX12 yX12_assignment yX12_assignment ∈ pWW := pws (List.mem_map.mpr ⟨_, lw_pin 128 rfl, rfl⟩) rfl
theorem cd_X12_bind : Cond.code yX12_bind cX12_bind 3 none ∈ pWW := pw9 (List.mem_of_getElem? (i := 24) rfl) rfl
abbrev m_X12_bind : MT := (yX12_bind, cX12_bind, 3, none)
theorem ok_X12_bind : pOk m_X12_bind := ⟨⟨cd_X12_bind, ini_12⟩, by decide +kernel, ⟨by decide +kernel, by decide +kernel⟩, Nat.le_of_ble_eq_true rfl⟩
theorem np_X12_bind : (parseMethodDescriptor yX12_bind.desc).map (fun d => d.parameters.length) = some 1 := by decide +kernel
theorem im_X12_bind : Cond.instanceMethod yX12_bind ∈ pWW := pw9 (List.mem_of_getElem? (i := 23) rfl) rfl
theorem se_X12_bind : Cond.selects RX12 yX12_bind yX12_bind ∈ pWW := pws (List.mem_map.mpr ⟨_, lw_pin 131 rfl, rfl⟩) rfl
theorem cd_X12_call : Cond.code yX12_call cX12_call 10 (some .boolean) ∈ pWW := pw9 (List.mem_of_getElem? (i := 16) rfl) rfl
abbrev m_X12_call : MT := (yX12_call, cX12_call, 10, (some .boolean))
theorem ok_X12_call : pOk m_X12_call := ⟨⟨cd_X12_call, ini_12⟩, by decide +kernel, ⟨by decide +kernel, by decide +kernel⟩, Nat.le_of_ble_eq_true rfl⟩
theorem np_X12_call : (parseMethodDescriptor yX12_call.desc).map (fun d => d.parameters.length) = some 3 := by decide +kernel
theorem im_X12_call : Cond.instanceMethod yX12_call ∈ pWW := pw9 (List.mem_of_getElem? (i := 15) rfl) rfl
theorem se_X12_call : Cond.selects RX12 yX12_call yX12_call ∈ pWW := pws (List.mem_map.mpr ⟨_, lw_pin 129 rfl, rfl⟩) rfl
theorem cd_X12_ifStatement : Cond.code yX12_ifStatement cX12_ifStatement 4 (some .boolean) ∈ pWW := pw9 (List.mem_of_getElem? (i := 8) rfl) rfl
abbrev m_X12_ifStatement : MT := (yX12_ifStatement, cX12_ifStatement, 4, (some .boolean))
theorem ok_X12_ifStatement : pOk m_X12_ifStatement := ⟨⟨cd_X12_ifStatement, ini_12⟩, by decide +kernel, ⟨by decide +kernel, by decide +kernel⟩, Nat.le_of_ble_eq_true rfl⟩
theorem np_X12_ifStatement : (parseMethodDescriptor yX12_ifStatement.desc).map (fun d => d.parameters.length) = some 0 := by decide +kernel
theorem im_X12_ifStatement : Cond.instanceMethod yX12_ifStatement ∈ pWW := pw9 (List.mem_of_getElem? (i := 7) rfl) rfl
theorem se_X12_ifStatement : Cond.selects RX12 yX12_ifStatement yX12_ifStatement ∈ pWW := pws (List.mem_map.mpr ⟨_, lw_pin 127 rfl, rfl⟩) rfl
theorem cd_X12_whileStatement : Cond.code yX12_whileStatement cX12_whileStatement 5 (some .boolean) ∈ pWW := pw8 (List.mem_of_getElem? (i := 204) rfl) rfl
abbrev m_X12_whileStatement : MT := (yX12_whileStatement, cX12_whileStatement, 5, (some .boolean))
theorem ok_X12_whileStatement : pOk m_X12_whileStatement := ⟨⟨cd_X12_whileStatement, ini_12⟩, by decide +kernel, ⟨by decide +kernel, by decide +kernel⟩, Nat.le_of_ble_eq_true rfl⟩
theorem np_X12_whileStatement : (parseMethodDescriptor yX12_whileStatement.desc).map (fun d => d.parameters.length) = some 0 := by decide +kernel
theorem im_X12_whileStatement : Cond.instanceMethod yX12_whileStatement ∈ pWW := pw8 (List.mem_of_getElem? (i := 203) rfl) rfl
theorem se_X12_whileStatement : Cond.selects RX12 yX12_whileStatement yX12_whileStatement ∈ pWW := pws (List.mem_map.mpr ⟨_, lw_pin 116 rfl, rfl⟩) rfl
theorem cd_X12_routineBy : Cond.code yX12_routineBy cX12_routineBy 4 (some .int) ∈ pWW := pw8 (List.mem_of_getElem? (i := 172) rfl) rfl
abbrev m_X12_routineBy : MT := (yX12_routineBy, cX12_routineBy, 4, (some .int))
theorem ok_X12_routineBy : pOk m_X12_routineBy := ⟨⟨cd_X12_routineBy, ini_12⟩, by decide +kernel, ⟨by decide +kernel, by decide +kernel⟩, Nat.le_of_ble_eq_true rfl⟩
theorem np_X12_routineBy : (parseMethodDescriptor yX12_routineBy.desc).map (fun d => d.parameters.length) = some 1 := by decide +kernel
theorem im_X12_routineBy : Cond.instanceMethod yX12_routineBy ∈ pWW := pw8 (List.mem_of_getElem? (i := 171) rfl) rfl
theorem se_X12_routineBy : Cond.selects RX12 yX12_routineBy yX12_routineBy ∈ pWW := pws (List.mem_map.mpr ⟨_, lw_pin 108 rfl, rfl⟩) rfl
theorem cd_X12_calledMany : Cond.code yX12_calledMany cX12_calledMany 2 (some .int) ∈ pWW := pw9 (List.mem_of_getElem? (i := 20) rfl) rfl
abbrev m_X12_calledMany : MT := (yX12_calledMany, cX12_calledMany, 2, (some .int))
theorem ok_X12_calledMany : pOk m_X12_calledMany := ⟨⟨cd_X12_calledMany, ini_12⟩, by decide +kernel, ⟨by decide +kernel, by decide +kernel⟩, Nat.le_of_ble_eq_true rfl⟩
theorem np_X12_calledMany : (parseMethodDescriptor yX12_calledMany.desc).map (fun d => d.parameters.length) = some 1 := by decide +kernel
theorem im_X12_calledMany : Cond.instanceMethod yX12_calledMany ∈ pWW := pw9 (List.mem_of_getElem? (i := 19) rfl) rfl
theorem se_X12_calledMany : Cond.selects RX12 yX12_calledMany yX12_calledMany ∈ pWW := pws (List.mem_map.mpr ⟨_, lw_pin 130 rfl, rfl⟩) rfl
theorem cd_X12_oneRoutine : Cond.code yX12_oneRoutine cX12_oneRoutine 5 (some .boolean) ∈ pWW := pw8 (List.mem_of_getElem? (i := 151) rfl) rfl
abbrev m_X12_oneRoutine : MT := (yX12_oneRoutine, cX12_oneRoutine, 5, (some .boolean))
theorem ok_X12_oneRoutine : pOk m_X12_oneRoutine := ⟨⟨cd_X12_oneRoutine, ini_12⟩, by decide +kernel, ⟨by decide +kernel, by decide +kernel⟩, Nat.le_of_ble_eq_true rfl⟩
theorem np_X12_oneRoutine : (parseMethodDescriptor yX12_oneRoutine.desc).map (fun d => d.parameters.length) = some 0 := by decide +kernel
theorem im_X12_oneRoutine : Cond.instanceMethod yX12_oneRoutine ∈ pWW := pw8 (List.mem_of_getElem? (i := 150) rfl) rfl
theorem se_X12_oneRoutine : Cond.selects RX12 yX12_oneRoutine yX12_oneRoutine ∈ pWW := pws (List.mem_map.mpr ⟨_, lw_pin 104 rfl, rfl⟩) rfl
theorem cd_X12_goOver : Cond.code yX12_goOver cX12_goOver 3 (some .boolean) ∈ pWW := pw8 (List.mem_of_getElem? (i := 50) rfl) rfl
abbrev m_X12_goOver : MT := (yX12_goOver, cX12_goOver, 3, (some .boolean))
theorem ok_X12_goOver : pOk m_X12_goOver := ⟨⟨cd_X12_goOver, ini_12⟩, by decide +kernel, ⟨by decide +kernel, by decide +kernel⟩, Nat.le_of_ble_eq_true rfl⟩
theorem np_X12_goOver : (parseMethodDescriptor yX12_goOver.desc).map (fun d => d.parameters.length) = some 1 := by decide +kernel
theorem im_X12_goOver : Cond.instanceMethod yX12_goOver ∈ pWW := pw8 (List.mem_of_getElem? (i := 49) rfl) rfl
theorem se_X12_goOver : Cond.selects RX12 yX12_goOver yX12_goOver ∈ pWW := pws (List.mem_map.mpr ⟨_, lw_pin 101 rfl, rfl⟩) rfl
theorem cd_X12_feed : Cond.code yX12_feed cX12_feed 6 (some .int) ∈ pWW := pw8 (List.mem_of_getElem? (i := 31) rfl) rfl
abbrev m_X12_feed : MT := (yX12_feed, cX12_feed, 6, (some .int))
theorem ok_X12_feed : pOk m_X12_feed := ⟨⟨cd_X12_feed, ini_12⟩, by decide +kernel, ⟨by decide +kernel, by decide +kernel⟩, Nat.le_of_ble_eq_true rfl⟩
theorem np_X12_feed : (parseMethodDescriptor yX12_feed.desc).map (fun d => d.parameters.length) = some 5 := by decide +kernel
theorem im_X12_feed : Cond.instanceMethod yX12_feed ∈ pWW := pw8 (List.mem_of_getElem? (i := 29) rfl) rfl
theorem se_X12_feed : Cond.selects RX12 yX12_feed yX12_feed ∈ pWW := pw8 (List.mem_of_getElem? (i := 30) rfl) rfl
theorem cd_X12_four : Cond.code yX12_four cX12_four 3 none ∈ pWW := pw8 (List.mem_of_getElem? (i := 35) rfl) rfl
abbrev m_X12_four : MT := (yX12_four, cX12_four, 3, none)
theorem ok_X12_four : pOk m_X12_four := ⟨⟨cd_X12_four, ini_12⟩, by decide +kernel, ⟨by decide +kernel, by decide +kernel⟩, Nat.le_of_ble_eq_true rfl⟩
theorem np_X12_four : (parseMethodDescriptor yX12_four.desc).map (fun d => d.parameters.length) = some 1 := by decide +kernel
theorem im_X12_four : Cond.instanceMethod yX12_four ∈ pWW := pw8 (List.mem_of_getElem? (i := 34) rfl) rfl
theorem se_X12_four : Cond.selects RX12 yX12_four yX12_four ∈ pWW := pws (List.mem_map.mpr ⟨_, lw_pin 100 rfl, rfl⟩) rfl
theorem cd_X12_end : Cond.code yX12_end cX12_end 2 (some .int) ∈ pWW := pw8 (List.mem_of_getElem? (i := 39) rfl) rfl
abbrev m_X12_end : MT := (yX12_end, cX12_end, 2, (some .int))
theorem ok_X12_end : pOk m_X12_end := ⟨⟨cd_X12_end, ini_12⟩, by decide +kernel, ⟨by decide +kernel, by decide +kernel⟩, Nat.le_of_ble_eq_true rfl⟩
theorem np_X12_end : (parseMethodDescriptor yX12_end.desc).map (fun d => d.parameters.length) = some 1 := by decide +kernel
theorem im_X12_end : Cond.instanceMethod yX12_end ∈ pWW := pw8 (List.mem_of_getElem? (i := 37) rfl) rfl
theorem se_X12_end : Cond.selects RX12 yX12_end yX12_end ∈ pWW := pw8 (List.mem_of_getElem? (i := 38) rfl) rfl
theorem cd_X12_read : Cond.code yX12_read cX12_read 4 (some .int) ∈ pWW := pw8 (List.mem_of_getElem? (i := 46) rfl) rfl
abbrev m_X12_read : MT := (yX12_read, cX12_read, 4, (some .int))
theorem ok_X12_read : pOk m_X12_read := ⟨⟨cd_X12_read, ini_12⟩, by decide +kernel, ⟨by decide +kernel, by decide +kernel⟩, Nat.le_of_ble_eq_true rfl⟩
theorem np_X12_read : (parseMethodDescriptor yX12_read.desc).map (fun d => d.parameters.length) = some 0 := by decide +kernel
theorem im_X12_read : Cond.instanceMethod yX12_read ∈ pWW := pw8 (List.mem_of_getElem? (i := 44) rfl) rfl
theorem se_X12_read : Cond.selects RX12 yX12_read yX12_read ∈ pWW := pw8 (List.mem_of_getElem? (i := 45) rfl) rfl
theorem cd_X12_fault : Cond.code yX12_fault cX12_fault 2 (some .int) ∈ pWW := pw9 (List.mem_of_getElem? (i := 32) rfl) rfl
abbrev m_X12_fault : MT := (yX12_fault, cX12_fault, 2, (some .int))
theorem ok_X12_fault : pOk m_X12_fault := ⟨⟨cd_X12_fault, ini_12⟩, by decide +kernel, ⟨by decide +kernel, by decide +kernel⟩, Nat.le_of_ble_eq_true rfl⟩
theorem np_X12_fault : (parseMethodDescriptor yX12_fault.desc).map (fun d => d.parameters.length) = some 1 := by decide +kernel
theorem im_X12_fault : Cond.instanceMethod yX12_fault ∈ pWW := pw9 (List.mem_of_getElem? (i := 30) rfl) rfl
theorem se_X12_fault : Cond.selects RX12 yX12_fault yX12_fault ∈ pWW := pw9 (List.mem_of_getElem? (i := 31) rfl) rfl
theorem cd_X12_isRoutine : Cond.code yX12_isRoutine cX12_isRoutine 2 (some .boolean) ∈ pWW := pw9 (List.mem_of_getElem? (i := 40) rfl) rfl
abbrev m_X12_isRoutine : MT := (yX12_isRoutine, cX12_isRoutine, 2, (some .boolean))
theorem ok_X12_isRoutine : pOk m_X12_isRoutine := ⟨⟨cd_X12_isRoutine, ini_12⟩, by decide +kernel, ⟨by decide +kernel, by decide +kernel⟩, Nat.le_of_ble_eq_true rfl⟩
theorem np_X12_isRoutine : (parseMethodDescriptor yX12_isRoutine.desc).map (fun d => d.parameters.length) = some 1 := by decide +kernel
theorem im_X12_isRoutine : Cond.instanceMethod yX12_isRoutine ∈ pWW := pw9 (List.mem_of_getElem? (i := 39) rfl) rfl
theorem se_X12_isRoutine : Cond.selects RX12 yX12_isRoutine yX12_isRoutine ∈ pWW := pws (List.mem_map.mpr ⟨_, lw_pin 133 rfl, rfl⟩) rfl
theorem cd_X12_acts : Cond.code yX12_acts cX12_acts 4 (some .int) ∈ pWW := pw9 (List.mem_of_getElem? (i := 44) rfl) rfl
abbrev m_X12_acts : MT := (yX12_acts, cX12_acts, 4, (some .int))
theorem ok_X12_acts : pOk m_X12_acts := ⟨⟨cd_X12_acts, ini_12⟩, by decide +kernel, ⟨by decide +kernel, by decide +kernel⟩, Nat.le_of_ble_eq_true rfl⟩
theorem np_X12_acts : (parseMethodDescriptor yX12_acts.desc).map (fun d => d.parameters.length) = some 1 := by decide +kernel
theorem im_X12_acts : Cond.instanceMethod yX12_acts ∈ pWW := pw9 (List.mem_of_getElem? (i := 43) rfl) rfl
theorem se_X12_acts : Cond.selects RX12 yX12_acts yX12_acts ∈ pWW := pws (List.mem_map.mpr ⟨_, lw_pin 134 rfl, rfl⟩) rfl
theorem cd_X12_routine : Cond.code yX12_routine cX12_routine 3 (some .int) ∈ pWW := pw9 (List.mem_of_getElem? (i := 36) rfl) rfl
abbrev m_X12_routine : MT := (yX12_routine, cX12_routine, 3, (some .int))
theorem ok_X12_routine : pOk m_X12_routine := ⟨⟨cd_X12_routine, ini_12⟩, by decide +kernel, ⟨by decide +kernel, by decide +kernel⟩, Nat.le_of_ble_eq_true rfl⟩
theorem np_X12_routine : (parseMethodDescriptor yX12_routine.desc).map (fun d => d.parameters.length) = some 2 := by decide +kernel
theorem im_X12_routine : Cond.instanceMethod yX12_routine ∈ pWW := pw9 (List.mem_of_getElem? (i := 34) rfl) rfl
theorem se_X12_routine : Cond.selects RX12 yX12_routine yX12_routine ∈ pWW := pw9 (List.mem_of_getElem? (i := 35) rfl) rfl
theorem cd_X12_item : Cond.code yX12_item cX12_item 6 (some .int) ∈ pWW := pw9 (List.mem_of_getElem? (i := 65) rfl) rfl
abbrev m_X12_item : MT := (yX12_item, cX12_item, 6, (some .int))
theorem ok_X12_item : pOk m_X12_item := ⟨⟨cd_X12_item, ini_12⟩, by decide +kernel, ⟨by decide +kernel, by decide +kernel⟩, Nat.le_of_ble_eq_true rfl⟩
theorem np_X12_item : (parseMethodDescriptor yX12_item.desc).map (fun d => d.parameters.length) = some 3 := by decide +kernel
theorem im_X12_item : Cond.instanceMethod yX12_item ∈ pWW := pw9 (List.mem_of_getElem? (i := 63) rfl) rfl
theorem se_X12_item : Cond.selects RX12 yX12_item yX12_item ∈ pWW := pw9 (List.mem_of_getElem? (i := 64) rfl) rfl
theorem cd_X12_frame : Cond.code yX12_frame cX12_frame 5 (some .int) ∈ pWW := pw9 (List.mem_of_getElem? (i := 69) rfl) rfl
abbrev m_X12_frame : MT := (yX12_frame, cX12_frame, 5, (some .int))
theorem ok_X12_frame : pOk m_X12_frame := ⟨⟨cd_X12_frame, ini_12⟩, by decide +kernel, ⟨by decide +kernel, by decide +kernel⟩, Nat.le_of_ble_eq_true rfl⟩
theorem np_X12_frame : (parseMethodDescriptor yX12_frame.desc).map (fun d => d.parameters.length) = some 3 := by decide +kernel
theorem im_X12_frame : Cond.instanceMethod yX12_frame ∈ pWW := pw9 (List.mem_of_getElem? (i := 67) rfl) rfl
theorem se_X12_frame : Cond.selects RX12 yX12_frame yX12_frame ∈ pWW := pw9 (List.mem_of_getElem? (i := 68) rfl) rfl
theorem cd_X12_findLabels : Cond.code yX12_findLabels cX12_findLabels 3 none ∈ pWW := pw9 (List.mem_of_getElem? (i := 81) rfl) rfl
abbrev m_X12_findLabels : MT := (yX12_findLabels, cX12_findLabels, 3, none)
theorem ok_X12_findLabels : pOk m_X12_findLabels := ⟨⟨cd_X12_findLabels, ini_12⟩, by decide +kernel, ⟨by decide +kernel, by decide +kernel⟩, Nat.le_of_ble_eq_true rfl⟩
theorem np_X12_findLabels : (parseMethodDescriptor yX12_findLabels.desc).map (fun d => d.parameters.length) = some 1 := by decide +kernel
theorem im_X12_findLabels : Cond.instanceMethod yX12_findLabels ∈ pWW := pw9 (List.mem_of_getElem? (i := 80) rfl) rfl
theorem se_X12_findLabels : Cond.selects RX12 yX12_findLabels yX12_findLabels ∈ pWW := pws (List.mem_map.mpr ⟨_, lw_pin 138 rfl, rfl⟩) rfl
theorem cd_X12_goesOn : Cond.code yX12_goesOn cX12_goesOn 5 (some .int) ∈ pWW := pw9 (List.mem_of_getElem? (i := 97) rfl) rfl
abbrev m_X12_goesOn : MT := (yX12_goesOn, cX12_goesOn, 5, (some .int))
theorem ok_X12_goesOn : pOk m_X12_goesOn := ⟨⟨cd_X12_goesOn, ini_12⟩, by decide +kernel, ⟨by decide +kernel, by decide +kernel⟩, Nat.le_of_ble_eq_true rfl⟩
theorem np_X12_goesOn : (parseMethodDescriptor yX12_goesOn.desc).map (fun d => d.parameters.length) = some 3 := by decide +kernel
theorem im_X12_goesOn : Cond.instanceMethod yX12_goesOn ∈ pWW := pw9 (List.mem_of_getElem? (i := 96) rfl) rfl
theorem se_X12_goesOn : Cond.selects RX12 yX12_goesOn yX12_goesOn ∈ pWW := pws (List.mem_map.mpr ⟨_, lw_pin 142 rfl, rfl⟩) rfl
theorem cd_X12_findReached : Cond.code yX12_findReached cX12_findReached 6 none ∈ pWW := pw9 (List.mem_of_getElem? (i := 128) rfl) rfl
abbrev m_X12_findReached : MT := (yX12_findReached, cX12_findReached, 6, none)
theorem ok_X12_findReached : pOk m_X12_findReached := ⟨⟨cd_X12_findReached, ini_12⟩, by decide +kernel, ⟨by decide +kernel, by decide +kernel⟩, Nat.le_of_ble_eq_true rfl⟩
theorem np_X12_findReached : (parseMethodDescriptor yX12_findReached.desc).map (fun d => d.parameters.length) = some 1 := by decide +kernel
theorem im_X12_findReached : Cond.instanceMethod yX12_findReached ∈ pWW := pw9 (List.mem_of_getElem? (i := 127) rfl) rfl
theorem se_X12_findReached : Cond.selects RX12 yX12_findReached yX12_findReached ∈ pWW := pws (List.mem_map.mpr ⟨_, lw_pin 148 rfl, rfl⟩) rfl
theorem cd_X12_setNow : Cond.code yX12_setNow cX12_setNow 7 none ∈ pWW := pw9 (List.mem_of_getElem? (i := 85) rfl) rfl
abbrev m_X12_setNow : MT := (yX12_setNow, cX12_setNow, 7, none)
theorem ok_X12_setNow : pOk m_X12_setNow := ⟨⟨cd_X12_setNow, ini_12⟩, by decide +kernel, ⟨by decide +kernel, by decide +kernel⟩, Nat.le_of_ble_eq_true rfl⟩
theorem np_X12_setNow : (parseMethodDescriptor yX12_setNow.desc).map (fun d => d.parameters.length) = some 6 := by decide +kernel
theorem im_X12_setNow : Cond.instanceMethod yX12_setNow ∈ pWW := pw9 (List.mem_of_getElem? (i := 84) rfl) rfl
theorem se_X12_setNow : Cond.selects RX12 yX12_setNow yX12_setNow ∈ pWW := pws (List.mem_map.mpr ⟨_, lw_pin 139 rfl, rfl⟩) rfl
theorem cd_X12_behindItem : Cond.code yX12_behindItem cX12_behindItem 5 none ∈ pWW := pw9 (List.mem_of_getElem? (i := 93) rfl) rfl
abbrev m_X12_behindItem : MT := (yX12_behindItem, cX12_behindItem, 5, none)
theorem ok_X12_behindItem : pOk m_X12_behindItem := ⟨⟨cd_X12_behindItem, ini_12⟩, by decide +kernel, ⟨by decide +kernel, by decide +kernel⟩, Nat.le_of_ble_eq_true rfl⟩
theorem np_X12_behindItem : (parseMethodDescriptor yX12_behindItem.desc).map (fun d => d.parameters.length) = some 2 := by decide +kernel
theorem im_X12_behindItem : Cond.instanceMethod yX12_behindItem ∈ pWW := pw9 (List.mem_of_getElem? (i := 92) rfl) rfl
theorem se_X12_behindItem : Cond.selects RX12 yX12_behindItem yX12_behindItem ∈ pWW := pws (List.mem_map.mpr ⟨_, lw_pin 141 rfl, rfl⟩) rfl
theorem cd_X12_comes : Cond.code yX12_comes cX12_comes 8 (some .boolean) ∈ pWW := pw9 (List.mem_of_getElem? (i := 89) rfl) rfl
abbrev m_X12_comes : MT := (yX12_comes, cX12_comes, 8, (some .boolean))
theorem ok_X12_comes : pOk m_X12_comes := ⟨⟨cd_X12_comes, ini_12⟩, by decide +kernel, ⟨by decide +kernel, by decide +kernel⟩, Nat.le_of_ble_eq_true rfl⟩
theorem np_X12_comes : (parseMethodDescriptor yX12_comes.desc).map (fun d => d.parameters.length) = some 2 := by decide +kernel
theorem im_X12_comes : Cond.instanceMethod yX12_comes ∈ pWW := pw9 (List.mem_of_getElem? (i := 88) rfl) rfl
theorem se_X12_comes : Cond.selects RX12 yX12_comes yX12_comes ∈ pWW := pws (List.mem_map.mpr ⟨_, lw_pin 140 rfl, rfl⟩) rfl
theorem cd_X12_findStates : Cond.code yX12_findStates cX12_findStates 6 none ∈ pWW := pw9 (List.mem_of_getElem? (i := 77) rfl) rfl
abbrev m_X12_findStates : MT := (yX12_findStates, cX12_findStates, 6, none)
theorem ok_X12_findStates : pOk m_X12_findStates := ⟨⟨cd_X12_findStates, ini_12⟩, by decide +kernel, ⟨by decide +kernel, by decide +kernel⟩, Nat.le_of_ble_eq_true rfl⟩
theorem np_X12_findStates : (parseMethodDescriptor yX12_findStates.desc).map (fun d => d.parameters.length) = some 1 := by decide +kernel
theorem im_X12_findStates : Cond.instanceMethod yX12_findStates ∈ pWW := pw9 (List.mem_of_getElem? (i := 76) rfl) rfl
theorem se_X12_findStates : Cond.selects RX12 yX12_findStates yX12_findStates ∈ pWW := pws (List.mem_map.mpr ⟨_, lw_pin 137 rfl, rfl⟩) rfl
theorem cd_X12_told : Cond.code yX12_told cX12_told 7 (some .int) ∈ pWW := pw9 (List.mem_of_getElem? (i := 73) rfl) rfl
abbrev m_X12_told : MT := (yX12_told, cX12_told, 7, (some .int))
theorem ok_X12_told : pOk m_X12_told := ⟨⟨cd_X12_told, ini_12⟩, by decide +kernel, ⟨by decide +kernel, by decide +kernel⟩, Nat.le_of_ble_eq_true rfl⟩
theorem np_X12_told : (parseMethodDescriptor yX12_told.desc).map (fun d => d.parameters.length) = some 5 := by decide +kernel
theorem im_X12_told : Cond.instanceMethod yX12_told ∈ pWW := pw9 (List.mem_of_getElem? (i := 71) rfl) rfl
theorem se_X12_told : Cond.selects RX12 yX12_told yX12_told ∈ pWW := pw9 (List.mem_of_getElem? (i := 72) rfl) rfl
theorem cd_X12_findLives : Cond.code yX12_findLives cX12_findLives 8 none ∈ pWW := pw9 (List.mem_of_getElem? (i := 132) rfl) rfl
abbrev m_X12_findLives : MT := (yX12_findLives, cX12_findLives, 8, none)
theorem ok_X12_findLives : pOk m_X12_findLives := ⟨⟨cd_X12_findLives, ini_12⟩, by decide +kernel, ⟨by decide +kernel, by decide +kernel⟩, Nat.le_of_ble_eq_true rfl⟩
theorem np_X12_findLives : (parseMethodDescriptor yX12_findLives.desc).map (fun d => d.parameters.length) = some 1 := by decide +kernel
theorem im_X12_findLives : Cond.instanceMethod yX12_findLives ∈ pWW := pw9 (List.mem_of_getElem? (i := 131) rfl) rfl
theorem se_X12_findLives : Cond.selects RX12 yX12_findLives yX12_findLives ∈ pWW := pws (List.mem_map.mpr ⟨_, lw_pin 149 rfl, rfl⟩) rfl
theorem cd_X12_livesBehind : Cond.code yX12_livesBehind cX12_livesBehind 6 (some .boolean) ∈ pWW := pw9 (List.mem_of_getElem? (i := 136) rfl) rfl
abbrev m_X12_livesBehind : MT := (yX12_livesBehind, cX12_livesBehind, 6, (some .boolean))
theorem ok_X12_livesBehind : pOk m_X12_livesBehind := ⟨⟨cd_X12_livesBehind, ini_12⟩, by decide +kernel, ⟨by decide +kernel, by decide +kernel⟩, Nat.le_of_ble_eq_true rfl⟩
theorem np_X12_livesBehind : (parseMethodDescriptor yX12_livesBehind.desc).map (fun d => d.parameters.length) = some 3 := by decide +kernel
theorem im_X12_livesBehind : Cond.instanceMethod yX12_livesBehind ∈ pWW := pw9 (List.mem_of_getElem? (i := 135) rfl) rfl
theorem se_X12_livesBehind : Cond.selects RX12 yX12_livesBehind yX12_livesBehind ∈ pWW := pws (List.mem_map.mpr ⟨_, lw_pin 150 rfl, rfl⟩) rfl
theorem cd_X12_takeOut : Cond.code yX12_takeOut cX12_takeOut 4 none ∈ pWW := pw9 (List.mem_of_getElem? (i := 152) rfl) rfl
abbrev m_X12_takeOut : MT := (yX12_takeOut, cX12_takeOut, 4, none)
theorem ok_X12_takeOut : pOk m_X12_takeOut := ⟨⟨cd_X12_takeOut, ini_12⟩, by decide +kernel, ⟨by decide +kernel, by decide +kernel⟩, Nat.le_of_ble_eq_true rfl⟩
theorem np_X12_takeOut : (parseMethodDescriptor yX12_takeOut.desc).map (fun d => d.parameters.length) = some 2 := by decide +kernel
theorem im_X12_takeOut : Cond.instanceMethod yX12_takeOut ∈ pWW := pw9 (List.mem_of_getElem? (i := 151) rfl) rfl
theorem se_X12_takeOut : Cond.selects RX12 yX12_takeOut yX12_takeOut ∈ pWW := pws (List.mem_map.mpr ⟨_, lw_pin 154 rfl, rfl⟩) rfl
theorem cd_X12_pass : Cond.code yX12_pass cX12_pass 3 (some .int) ∈ pWW := pw9 (List.mem_of_getElem? (i := 101) rfl) rfl
abbrev m_X12_pass : MT := (yX12_pass, cX12_pass, 3, (some .int))
theorem ok_X12_pass : pOk m_X12_pass := ⟨⟨cd_X12_pass, ini_12⟩, by decide +kernel, ⟨by decide +kernel, by decide +kernel⟩, Nat.le_of_ble_eq_true rfl⟩
theorem np_X12_pass : (parseMethodDescriptor yX12_pass.desc).map (fun d => d.parameters.length) = some 2 := by decide +kernel
theorem im_X12_pass : Cond.instanceMethod yX12_pass ∈ pWW := pw9 (List.mem_of_getElem? (i := 99) rfl) rfl
theorem se_X12_pass : Cond.selects RX12 yX12_pass yX12_pass ∈ pWW := pw9 (List.mem_of_getElem? (i := 100) rfl) rfl
theorem cd_X12_worked : Cond.code yX12_worked cX12_worked 3 (some .int) ∈ pWW := pw9 (List.mem_of_getElem? (i := 116) rfl) rfl
abbrev m_X12_worked : MT := (yX12_worked, cX12_worked, 3, (some .int))
theorem ok_X12_worked : pOk m_X12_worked := ⟨⟨cd_X12_worked, ini_12⟩, by decide +kernel, ⟨by decide +kernel, by decide +kernel⟩, Nat.le_of_ble_eq_true rfl⟩
theorem np_X12_worked : (parseMethodDescriptor yX12_worked.desc).map (fun d => d.parameters.length) = some 3 := by decide +kernel
theorem stt_X12_worked : Cond.static yX12_worked ∈ pWW := pw9 (List.mem_of_getElem? (i := 115) rfl) rfl
theorem cd_X12_fold : Cond.code yX12_fold cX12_fold 9 (some .int) ∈ pWW := pw9 (List.mem_of_getElem? (i := 105) rfl) rfl
abbrev m_X12_fold : MT := (yX12_fold, cX12_fold, 9, (some .int))
theorem ok_X12_fold : pOk m_X12_fold := ⟨⟨cd_X12_fold, ini_12⟩, by decide +kernel, ⟨by decide +kernel, by decide +kernel⟩, Nat.le_of_ble_eq_true rfl⟩
theorem np_X12_fold : (parseMethodDescriptor yX12_fold.desc).map (fun d => d.parameters.length) = some 1 := by decide +kernel
theorem im_X12_fold : Cond.instanceMethod yX12_fold ∈ pWW := pw9 (List.mem_of_getElem? (i := 104) rfl) rfl
theorem se_X12_fold : Cond.selects RX12 yX12_fold yX12_fold ∈ pWW := pws (List.mem_map.mpr ⟨_, lw_pin 143 rfl, rfl⟩) rfl
theorem cd_X12_forgetAll : Cond.code yX12_forgetAll cX12_forgetAll 2 none ∈ pWW := pw9 (List.mem_of_getElem? (i := 109) rfl) rfl
abbrev m_X12_forgetAll : MT := (yX12_forgetAll, cX12_forgetAll, 2, none)
theorem ok_X12_forgetAll : pOk m_X12_forgetAll := ⟨⟨cd_X12_forgetAll, ini_12⟩, by decide +kernel, ⟨by decide +kernel, by decide +kernel⟩, Nat.le_of_ble_eq_true rfl⟩
theorem np_X12_forgetAll : (parseMethodDescriptor yX12_forgetAll.desc).map (fun d => d.parameters.length) = some 0 := by decide +kernel
theorem im_X12_forgetAll : Cond.instanceMethod yX12_forgetAll ∈ pWW := pw9 (List.mem_of_getElem? (i := 108) rfl) rfl
theorem se_X12_forgetAll : Cond.selects RX12 yX12_forgetAll yX12_forgetAll ∈ pWW := pws (List.mem_map.mpr ⟨_, lw_pin 144 rfl, rfl⟩) rfl
theorem cd_X12_putsIn : Cond.code yX12_putsIn cX12_putsIn 5 (some .boolean) ∈ pWW := pw9 (List.mem_of_getElem? (i := 113) rfl) rfl
abbrev m_X12_putsIn : MT := (yX12_putsIn, cX12_putsIn, 5, (some .boolean))
theorem ok_X12_putsIn : pOk m_X12_putsIn := ⟨⟨cd_X12_putsIn, ini_12⟩, by decide +kernel, ⟨by decide +kernel, by decide +kernel⟩, Nat.le_of_ble_eq_true rfl⟩
theorem np_X12_putsIn : (parseMethodDescriptor yX12_putsIn.desc).map (fun d => d.parameters.length) = some 1 := by decide +kernel
theorem im_X12_putsIn : Cond.instanceMethod yX12_putsIn ∈ pWW := pw9 (List.mem_of_getElem? (i := 112) rfl) rfl
theorem se_X12_putsIn : Cond.selects RX12 yX12_putsIn yX12_putsIn ∈ pWW := pws (List.mem_map.mpr ⟨_, lw_pin 145 rfl, rfl⟩) rfl
theorem cd_X12_learn : Cond.code yX12_learn cX12_learn 4 none ∈ pWW := pw9 (List.mem_of_getElem? (i := 120) rfl) rfl
abbrev m_X12_learn : MT := (yX12_learn, cX12_learn, 4, none)
theorem ok_X12_learn : pOk m_X12_learn := ⟨⟨cd_X12_learn, ini_12⟩, by decide +kernel, ⟨by decide +kernel, by decide +kernel⟩, Nat.le_of_ble_eq_true rfl⟩
theorem np_X12_learn : (parseMethodDescriptor yX12_learn.desc).map (fun d => d.parameters.length) = some 1 := by decide +kernel
theorem im_X12_learn : Cond.instanceMethod yX12_learn ∈ pWW := pw9 (List.mem_of_getElem? (i := 119) rfl) rfl
theorem se_X12_learn : Cond.selects RX12 yX12_learn yX12_learn ∈ pWW := pws (List.mem_map.mpr ⟨_, lw_pin 146 rfl, rfl⟩) rfl
theorem cd_X12_dropAll : Cond.code yX12_dropAll cX12_dropAll 7 (some .int) ∈ pWW := pw9 (List.mem_of_getElem? (i := 124) rfl) rfl
abbrev m_X12_dropAll : MT := (yX12_dropAll, cX12_dropAll, 7, (some .int))
theorem ok_X12_dropAll : pOk m_X12_dropAll := ⟨⟨cd_X12_dropAll, ini_12⟩, by decide +kernel, ⟨by decide +kernel, by decide +kernel⟩, Nat.le_of_ble_eq_true rfl⟩
theorem np_X12_dropAll : (parseMethodDescriptor yX12_dropAll.desc).map (fun d => d.parameters.length) = some 1 := by decide +kernel
theorem im_X12_dropAll : Cond.instanceMethod yX12_dropAll ∈ pWW := pw9 (List.mem_of_getElem? (i := 123) rfl) rfl
theorem se_X12_dropAll : Cond.selects RX12 yX12_dropAll yX12_dropAll ∈ pWW := pws (List.mem_map.mpr ⟨_, lw_pin 147 rfl, rfl⟩) rfl
theorem cd_X12_rebind : Cond.code yX12_rebind cX12_rebind 9 none ∈ pWW := pw9 (List.mem_of_getElem? (i := 148) rfl) rfl
abbrev m_X12_rebind : MT := (yX12_rebind, cX12_rebind, 9, none)
theorem ok_X12_rebind : pOk m_X12_rebind := ⟨⟨cd_X12_rebind, ini_12⟩, by decide +kernel, ⟨by decide +kernel, by decide +kernel⟩, Nat.le_of_ble_eq_true rfl⟩
theorem np_X12_rebind : (parseMethodDescriptor yX12_rebind.desc).map (fun d => d.parameters.length) = some 2 := by decide +kernel
theorem im_X12_rebind : Cond.instanceMethod yX12_rebind ∈ pWW := pw9 (List.mem_of_getElem? (i := 147) rfl) rfl
theorem se_X12_rebind : Cond.selects RX12 yX12_rebind yX12_rebind ∈ pWW := pws (List.mem_map.mpr ⟨_, lw_pin 153 rfl, rfl⟩) rfl
theorem cd_X12_isName_ : Cond.code yX12_isName_ cX12_isName_ 5 (some .boolean) ∈ pWW := pw9 (List.mem_of_getElem? (i := 164) rfl) rfl
abbrev m_X12_isName_ : MT := (yX12_isName_, cX12_isName_, 5, (some .boolean))
theorem ok_X12_isName_ : pOk m_X12_isName_ := ⟨⟨cd_X12_isName_, ini_12⟩, by decide +kernel, ⟨by decide +kernel, by decide +kernel⟩, Nat.le_of_ble_eq_true rfl⟩
theorem np_X12_isName_ : (parseMethodDescriptor yX12_isName_.desc).map (fun d => d.parameters.length) = some 2 := by decide +kernel
theorem im_X12_isName_ : Cond.instanceMethod yX12_isName_ ∈ pWW := pw9 (List.mem_of_getElem? (i := 163) rfl) rfl
theorem se_X12_isName_ : Cond.selects RX12 yX12_isName_ yX12_isName_ ∈ pWW := pws (List.mem_map.mpr ⟨_, lw_pin 157 rfl, rfl⟩) rfl
theorem cd_X12_written : Cond.code yX12_written cX12_written 7 (some .int) ∈ pWW := pw9 (List.mem_of_getElem? (i := 168) rfl) rfl
abbrev m_X12_written : MT := (yX12_written, cX12_written, 7, (some .int))
theorem ok_X12_written : pOk m_X12_written := ⟨⟨cd_X12_written, ini_12⟩, by decide +kernel, ⟨by decide +kernel, by decide +kernel⟩, Nat.le_of_ble_eq_true rfl⟩
theorem np_X12_written : (parseMethodDescriptor yX12_written.desc).map (fun d => d.parameters.length) = some 4 := by decide +kernel
theorem im_X12_written : Cond.instanceMethod yX12_written ∈ pWW := pw9 (List.mem_of_getElem? (i := 167) rfl) rfl
theorem se_X12_written : Cond.selects RX12 yX12_written yX12_written ∈ pWW := pws (List.mem_map.mpr ⟨_, lw_pin 158 rfl, rfl⟩) rfl
theorem cd_X12_mayMove : Cond.code yX12_mayMove cX12_mayMove 7 (some .boolean) ∈ pWW := pw9 (List.mem_of_getElem? (i := 160) rfl) rfl
abbrev m_X12_mayMove : MT := (yX12_mayMove, cX12_mayMove, 7, (some .boolean))
theorem ok_X12_mayMove : pOk m_X12_mayMove := ⟨⟨cd_X12_mayMove, ini_12⟩, by decide +kernel, ⟨by decide +kernel, by decide +kernel⟩, Nat.le_of_ble_eq_true rfl⟩
theorem np_X12_mayMove : (parseMethodDescriptor yX12_mayMove.desc).map (fun d => d.parameters.length) = some 4 := by decide +kernel
theorem im_X12_mayMove : Cond.instanceMethod yX12_mayMove ∈ pWW := pw9 (List.mem_of_getElem? (i := 159) rfl) rfl
theorem se_X12_mayMove : Cond.selects RX12 yX12_mayMove yX12_mayMove ∈ pWW := pws (List.mem_map.mpr ⟨_, lw_pin 156 rfl, rfl⟩) rfl
theorem cd_X12_moveAll : Cond.code yX12_moveAll cX12_moveAll 8 (some .int) ∈ pWW := pw9 (List.mem_of_getElem? (i := 156) rfl) rfl
abbrev m_X12_moveAll : MT := (yX12_moveAll, cX12_moveAll, 8, (some .int))
theorem ok_X12_moveAll : pOk m_X12_moveAll := ⟨⟨cd_X12_moveAll, ini_12⟩, by decide +kernel, ⟨by decide +kernel, by decide +kernel⟩, Nat.le_of_ble_eq_true rfl⟩
theorem np_X12_moveAll : (parseMethodDescriptor yX12_moveAll.desc).map (fun d => d.parameters.length) = some 1 := by decide +kernel
theorem im_X12_moveAll : Cond.instanceMethod yX12_moveAll ∈ pWW := pw9 (List.mem_of_getElem? (i := 155) rfl) rfl
theorem se_X12_moveAll : Cond.selects RX12 yX12_moveAll yX12_moveAll ∈ pWW := pws (List.mem_map.mpr ⟨_, lw_pin 155 rfl, rfl⟩) rfl
theorem cd_X12_isAlike : Cond.code yX12_isAlike cX12_isAlike 4 (some .boolean) ∈ pWW := pw9 (List.mem_of_getElem? (i := 176) rfl) rfl
abbrev m_X12_isAlike : MT := (yX12_isAlike, cX12_isAlike, 4, (some .boolean))
theorem ok_X12_isAlike : pOk m_X12_isAlike := ⟨⟨cd_X12_isAlike, ini_12⟩, by decide +kernel, ⟨by decide +kernel, by decide +kernel⟩, Nat.le_of_ble_eq_true rfl⟩
theorem np_X12_isAlike : (parseMethodDescriptor yX12_isAlike.desc).map (fun d => d.parameters.length) = some 2 := by decide +kernel
theorem im_X12_isAlike : Cond.instanceMethod yX12_isAlike ∈ pWW := pw9 (List.mem_of_getElem? (i := 175) rfl) rfl
theorem se_X12_isAlike : Cond.selects RX12 yX12_isAlike yX12_isAlike ∈ pWW := pws (List.mem_map.mpr ⟨_, lw_pin 160 rfl, rfl⟩) rfl
theorem cd_X12_alike : Cond.code yX12_alike cX12_alike 7 (some .int) ∈ pWW := pw9 (List.mem_of_getElem? (i := 172) rfl) rfl
abbrev m_X12_alike : MT := (yX12_alike, cX12_alike, 7, (some .int))
theorem ok_X12_alike : pOk m_X12_alike := ⟨⟨cd_X12_alike, ini_12⟩, by decide +kernel, ⟨by decide +kernel, by decide +kernel⟩, Nat.le_of_ble_eq_true rfl⟩
theorem np_X12_alike : (parseMethodDescriptor yX12_alike.desc).map (fun d => d.parameters.length) = some 1 := by decide +kernel
theorem im_X12_alike : Cond.instanceMethod yX12_alike ∈ pWW := pw9 (List.mem_of_getElem? (i := 171) rfl) rfl
theorem se_X12_alike : Cond.selects RX12 yX12_alike yX12_alike ∈ pWW := pws (List.mem_map.mpr ⟨_, lw_pin 159 rfl, rfl⟩) rfl
theorem cd_X12_stands : Cond.code yX12_stands cX12_stands 7 (some .boolean) ∈ pWW := pw9 (List.mem_of_getElem? (i := 180) rfl) rfl
abbrev m_X12_stands : MT := (yX12_stands, cX12_stands, 7, (some .boolean))
theorem ok_X12_stands : pOk m_X12_stands := ⟨⟨cd_X12_stands, ini_12⟩, by decide +kernel, ⟨by decide +kernel, by decide +kernel⟩, Nat.le_of_ble_eq_true rfl⟩
theorem np_X12_stands : (parseMethodDescriptor yX12_stands.desc).map (fun d => d.parameters.length) = some 3 := by decide +kernel
theorem im_X12_stands : Cond.instanceMethod yX12_stands ∈ pWW := pw9 (List.mem_of_getElem? (i := 179) rfl) rfl
theorem se_X12_stands : Cond.selects RX12 yX12_stands yX12_stands ∈ pWW := pws (List.mem_map.mpr ⟨_, lw_pin 161 rfl, rfl⟩) rfl
theorem cd_X12_hasCall : Cond.code yX12_hasCall cX12_hasCall 3 (some .boolean) ∈ pWW := pw9 (List.mem_of_getElem? (i := 188) rfl) rfl
abbrev m_X12_hasCall : MT := (yX12_hasCall, cX12_hasCall, 3, (some .boolean))
theorem ok_X12_hasCall : pOk m_X12_hasCall := ⟨⟨cd_X12_hasCall, ini_12⟩, by decide +kernel, ⟨by decide +kernel, by decide +kernel⟩, Nat.le_of_ble_eq_true rfl⟩
theorem np_X12_hasCall : (parseMethodDescriptor yX12_hasCall.desc).map (fun d => d.parameters.length) = some 1 := by decide +kernel
theorem im_X12_hasCall : Cond.instanceMethod yX12_hasCall ∈ pWW := pw9 (List.mem_of_getElem? (i := 187) rfl) rfl
theorem se_X12_hasCall : Cond.selects RX12 yX12_hasCall yX12_hasCall ∈ pWW := pws (List.mem_map.mpr ⟨_, lw_pin 163 rfl, rfl⟩) rfl
theorem cd_X12_isParam : Cond.code yX12_isParam cX12_isParam 4 (some .boolean) ∈ pWW := pw9 (List.mem_of_getElem? (i := 192) rfl) rfl
abbrev m_X12_isParam : MT := (yX12_isParam, cX12_isParam, 4, (some .boolean))
theorem ok_X12_isParam : pOk m_X12_isParam := ⟨⟨cd_X12_isParam, ini_12⟩, by decide +kernel, ⟨by decide +kernel, by decide +kernel⟩, Nat.le_of_ble_eq_true rfl⟩
theorem np_X12_isParam : (parseMethodDescriptor yX12_isParam.desc).map (fun d => d.parameters.length) = some 2 := by decide +kernel
theorem im_X12_isParam : Cond.instanceMethod yX12_isParam ∈ pWW := pw9 (List.mem_of_getElem? (i := 191) rfl) rfl
theorem se_X12_isParam : Cond.selects RX12 yX12_isParam yX12_isParam ∈ pWW := pws (List.mem_map.mpr ⟨_, lw_pin 164 rfl, rfl⟩) rfl
theorem cd_X12_melt : Cond.code yX12_melt cX12_melt 8 (some .int) ∈ pWW := pw9 (List.mem_of_getElem? (i := 184) rfl) rfl
abbrev m_X12_melt : MT := (yX12_melt, cX12_melt, 8, (some .int))
theorem ok_X12_melt : pOk m_X12_melt := ⟨⟨cd_X12_melt, ini_12⟩, by decide +kernel, ⟨by decide +kernel, by decide +kernel⟩, Nat.le_of_ble_eq_true rfl⟩
theorem np_X12_melt : (parseMethodDescriptor yX12_melt.desc).map (fun d => d.parameters.length) = some 1 := by decide +kernel
theorem im_X12_melt : Cond.instanceMethod yX12_melt ∈ pWW := pw9 (List.mem_of_getElem? (i := 183) rfl) rfl
theorem se_X12_melt : Cond.selects RX12 yX12_melt yX12_melt ∈ pWW := pws (List.mem_map.mpr ⟨_, lw_pin 162 rfl, rfl⟩) rfl
theorem cd_X12_add : Cond.code yX12_add cX12_add 6 none ∈ pWW := pw9 (List.mem_of_getElem? (i := 204) rfl) rfl
abbrev m_X12_add : MT := (yX12_add, cX12_add, 6, none)
theorem ok_X12_add : pOk m_X12_add := ⟨⟨cd_X12_add, ini_12⟩, by decide +kernel, ⟨by decide +kernel, by decide +kernel⟩, Nat.le_of_ble_eq_true rfl⟩
theorem np_X12_add : (parseMethodDescriptor yX12_add.desc).map (fun d => d.parameters.length) = some 5 := by decide +kernel
theorem im_X12_add : Cond.instanceMethod yX12_add ∈ pWW := pw9 (List.mem_of_getElem? (i := 203) rfl) rfl
theorem se_X12_add : Cond.selects RX12 yX12_add yX12_add ∈ pWW := pws (List.mem_map.mpr ⟨_, lw_pin 167 rfl, rfl⟩) rfl
theorem cd_X12_meltOne : Cond.code yX12_meltOne cX12_meltOne 15 (some .int) ∈ pWW := pw9 (List.mem_of_getElem? (i := 196) rfl) rfl
abbrev m_X12_meltOne : MT := (yX12_meltOne, cX12_meltOne, 15, (some .int))
theorem ok_X12_meltOne : pOk m_X12_meltOne := ⟨⟨cd_X12_meltOne, ini_12⟩, by decide +kernel, ⟨by decide +kernel, by decide +kernel⟩, Nat.le_of_ble_eq_true rfl⟩
theorem np_X12_meltOne : (parseMethodDescriptor yX12_meltOne.desc).map (fun d => d.parameters.length) = some 3 := by decide +kernel
theorem im_X12_meltOne : Cond.instanceMethod yX12_meltOne ∈ pWW := pw9 (List.mem_of_getElem? (i := 195) rfl) rfl
theorem se_X12_meltOne : Cond.selects RX12 yX12_meltOne yX12_meltOne ∈ pWW := pws (List.mem_map.mpr ⟨_, lw_pin 165 rfl, rfl⟩) rfl
theorem cd_X12_meltItem : Cond.code yX12_meltItem cX12_meltItem 9 none ∈ pWW := pw9 (List.mem_of_getElem? (i := 208) rfl) rfl
abbrev m_X12_meltItem : MT := (yX12_meltItem, cX12_meltItem, 9, none)
theorem ok_X12_meltItem : pOk m_X12_meltItem := ⟨⟨cd_X12_meltItem, ini_12⟩, by decide +kernel, ⟨by decide +kernel, by decide +kernel⟩, Nat.le_of_ble_eq_true rfl⟩
theorem np_X12_meltItem : (parseMethodDescriptor yX12_meltItem.desc).map (fun d => d.parameters.length) = some 6 := by decide +kernel
theorem im_X12_meltItem : Cond.instanceMethod yX12_meltItem ∈ pWW := pw9 (List.mem_of_getElem? (i := 207) rfl) rfl
theorem se_X12_meltItem : Cond.selects RX12 yX12_meltItem yX12_meltItem ∈ pWW := pws (List.mem_map.mpr ⟨_, lw_pin 168 rfl, rfl⟩) rfl
theorem cd_X12_atOdds : Cond.code yX12_atOdds cX12_atOdds 3 none ∈ pWW := pw9 (List.mem_of_getElem? (i := 220) rfl) rfl
abbrev m_X12_atOdds : MT := (yX12_atOdds, cX12_atOdds, 3, none)
theorem ok_X12_atOdds : pOk m_X12_atOdds := ⟨⟨cd_X12_atOdds, ini_12⟩, by decide +kernel, ⟨by decide +kernel, by decide +kernel⟩, Nat.le_of_ble_eq_true rfl⟩
theorem np_X12_atOdds : (parseMethodDescriptor yX12_atOdds.desc).map (fun d => d.parameters.length) = some 2 := by decide +kernel
theorem im_X12_atOdds : Cond.instanceMethod yX12_atOdds ∈ pWW := pw9 (List.mem_of_getElem? (i := 219) rfl) rfl
theorem se_X12_atOdds : Cond.selects RX12 yX12_atOdds yX12_atOdds ∈ pWW := pws (List.mem_map.mpr ⟨_, lw_pin 171 rfl, rfl⟩) rfl
theorem cd_X12_isAtBegin : Cond.code yX12_isAtBegin cX12_isAtBegin 3 (some .boolean) ∈ pWW := pw9 (List.mem_of_getElem? (i := 216) rfl) rfl
abbrev m_X12_isAtBegin : MT := (yX12_isAtBegin, cX12_isAtBegin, 3, (some .boolean))
theorem ok_X12_isAtBegin : pOk m_X12_isAtBegin := ⟨⟨cd_X12_isAtBegin, ini_12⟩, by decide +kernel, ⟨by decide +kernel, by decide +kernel⟩, Nat.le_of_ble_eq_true rfl⟩
theorem np_X12_isAtBegin : (parseMethodDescriptor yX12_isAtBegin.desc).map (fun d => d.parameters.length) = some 2 := by decide +kernel
theorem im_X12_isAtBegin : Cond.instanceMethod yX12_isAtBegin ∈ pWW := pw9 (List.mem_of_getElem? (i := 215) rfl) rfl
theorem se_X12_isAtBegin : Cond.selects RX12 yX12_isAtBegin yX12_isAtBegin ∈ pWW := pws (List.mem_map.mpr ⟨_, lw_pin 170 rfl, rfl⟩) rfl
theorem cd_X12_share : Cond.code yX12_share cX12_share 5 (some .int) ∈ pWW := pw9 (List.mem_of_getElem? (i := 212) rfl) rfl
abbrev m_X12_share : MT := (yX12_share, cX12_share, 5, (some .int))
theorem ok_X12_share : pOk m_X12_share := ⟨⟨cd_X12_share, ini_12⟩, by decide +kernel, ⟨by decide +kernel, by decide +kernel⟩, Nat.le_of_ble_eq_true rfl⟩
theorem np_X12_share : (parseMethodDescriptor yX12_share.desc).map (fun d => d.parameters.length) = some 1 := by decide +kernel
theorem im_X12_share : Cond.instanceMethod yX12_share ∈ pWW := pw9 (List.mem_of_getElem? (i := 211) rfl) rfl
theorem se_X12_share : Cond.selects RX12 yX12_share yX12_share ∈ pWW := pws (List.mem_map.mpr ⟨_, lw_pin 169 rfl, rfl⟩) rfl
theorem cd_X12_unbind : Cond.code yX12_unbind cX12_unbind 7 none ∈ pWW := pw9 (List.mem_of_getElem? (i := 224) rfl) rfl
abbrev m_X12_unbind : MT := (yX12_unbind, cX12_unbind, 7, none)
theorem ok_X12_unbind : pOk m_X12_unbind := ⟨⟨cd_X12_unbind, ini_12⟩, by decide +kernel, ⟨by decide +kernel, by decide +kernel⟩, Nat.le_of_ble_eq_true rfl⟩
theorem np_X12_unbind : (parseMethodDescriptor yX12_unbind.desc).map (fun d => d.parameters.length) = some 1 := by decide +kernel
theorem im_X12_unbind : Cond.instanceMethod yX12_unbind ∈ pWW := pw9 (List.mem_of_getElem? (i := 223) rfl) rfl
theorem se_X12_unbind : Cond.selects RX12 yX12_unbind yX12_unbind ∈ pWW := pws (List.mem_map.mpr ⟨_, lw_pin 172 rfl, rfl⟩) rfl
theorem cd_X12_comesLast : Cond.code yX12_comesLast cX12_comesLast 6 (some .boolean) ∈ pWW := pw9 (List.mem_of_getElem? (i := 228) rfl) rfl
abbrev m_X12_comesLast : MT := (yX12_comesLast, cX12_comesLast, 6, (some .boolean))
theorem ok_X12_comesLast : pOk m_X12_comesLast := ⟨⟨cd_X12_comesLast, ini_12⟩, by decide +kernel, ⟨by decide +kernel, by decide +kernel⟩, Nat.le_of_ble_eq_true rfl⟩
theorem np_X12_comesLast : (parseMethodDescriptor yX12_comesLast.desc).map (fun d => d.parameters.length) = some 1 := by decide +kernel
theorem im_X12_comesLast : Cond.instanceMethod yX12_comesLast ∈ pWW := pw9 (List.mem_of_getElem? (i := 227) rfl) rfl
theorem se_X12_comesLast : Cond.selects RX12 yX12_comesLast yX12_comesLast ∈ pWW := pws (List.mem_map.mpr ⟨_, lw_pin 173 rfl, rfl⟩) rfl
theorem cd_X12_renumber : Cond.code yX12_renumber cX12_renumber 5 none ∈ pWW := pw9 (List.mem_of_getElem? (i := 232) rfl) rfl
abbrev m_X12_renumber : MT := (yX12_renumber, cX12_renumber, 5, none)
theorem ok_X12_renumber : pOk m_X12_renumber := ⟨⟨cd_X12_renumber, ini_12⟩, by decide +kernel, ⟨by decide +kernel, by decide +kernel⟩, Nat.le_of_ble_eq_true rfl⟩
theorem np_X12_renumber : (parseMethodDescriptor yX12_renumber.desc).map (fun d => d.parameters.length) = some 1 := by decide +kernel
theorem im_X12_renumber : Cond.instanceMethod yX12_renumber ∈ pWW := pw9 (List.mem_of_getElem? (i := 231) rfl) rfl
theorem se_X12_renumber : Cond.selects RX12 yX12_renumber yX12_renumber ∈ pWW := pws (List.mem_map.mpr ⟨_, lw_pin 174 rfl, rfl⟩) rfl
theorem cd_X12_bank : Cond.code yX12_bank cX12_bank 2 (some .int) ∈ pWW := pw10 (List.mem_of_getElem? (i := 24) rfl) rfl
abbrev m_X12_bank : MT := (yX12_bank, cX12_bank, 2, (some .int))
theorem ok_X12_bank : pOk m_X12_bank := ⟨⟨cd_X12_bank, ini_12⟩, by decide +kernel, ⟨by decide +kernel, by decide +kernel⟩, Nat.le_of_ble_eq_true rfl⟩
theorem np_X12_bank : (parseMethodDescriptor yX12_bank.desc).map (fun d => d.parameters.length) = some 1 := by decide +kernel
theorem im_X12_bank : Cond.instanceMethod yX12_bank ∈ pWW := pw10 (List.mem_of_getElem? (i := 23) rfl) rfl
theorem se_X12_bank : Cond.selects RX12 yX12_bank yX12_bank ∈ pWW := pws (List.mem_map.mpr ⟨_, lw_pin 180 rfl, rfl⟩) rfl
theorem cd_X12_enterCall : Cond.code yX12_enterCall cX12_enterCall 5 none ∈ pWW := pw10 (List.mem_of_getElem? (i := 4) rfl) rfl
abbrev m_X12_enterCall : MT := (yX12_enterCall, cX12_enterCall, 5, none)
theorem ok_X12_enterCall : pOk m_X12_enterCall := ⟨⟨cd_X12_enterCall, ini_12⟩, by decide +kernel, ⟨by decide +kernel, by decide +kernel⟩, Nat.le_of_ble_eq_true rfl⟩
theorem np_X12_enterCall : (parseMethodDescriptor yX12_enterCall.desc).map (fun d => d.parameters.length) = some 2 := by decide +kernel
theorem im_X12_enterCall : Cond.instanceMethod yX12_enterCall ∈ pWW := pw10 (List.mem_of_getElem? (i := 3) rfl) rfl
theorem se_X12_enterCall : Cond.selects RX12 yX12_enterCall yX12_enterCall ∈ pWW := pws (List.mem_map.mpr ⟨_, lw_pin 176 rfl, rfl⟩) rfl
theorem cd_X12_startMachine : Cond.code yX12_startMachine cX12_startMachine 8 none ∈ pWW := pw10 (List.mem_of_getElem? (i := 0) rfl) rfl
abbrev m_X12_startMachine : MT := (yX12_startMachine, cX12_startMachine, 8, none)
theorem ok_X12_startMachine : pOk m_X12_startMachine := ⟨⟨cd_X12_startMachine, ini_12⟩, by decide +kernel, ⟨by decide +kernel, by decide +kernel⟩, Nat.le_of_ble_eq_true rfl⟩
theorem np_X12_startMachine : (parseMethodDescriptor yX12_startMachine.desc).map (fun d => d.parameters.length) = some 6 := by decide +kernel
theorem im_X12_startMachine : Cond.instanceMethod yX12_startMachine ∈ pWW := pw9 (List.mem_of_getElem? (i := 239) rfl) rfl
theorem se_X12_startMachine : Cond.selects RX12 yX12_startMachine yX12_startMachine ∈ pWW := pws (List.mem_map.mpr ⟨_, lw_pin 175 rfl, rfl⟩) rfl
theorem cd_X12_paramAt : Cond.code yX12_paramAt cX12_paramAt 4 (some .int) ∈ pWW := pw10 (List.mem_of_getElem? (i := 8) rfl) rfl
abbrev m_X12_paramAt : MT := (yX12_paramAt, cX12_paramAt, 4, (some .int))
theorem ok_X12_paramAt : pOk m_X12_paramAt := ⟨⟨cd_X12_paramAt, ini_12⟩, by decide +kernel, ⟨by decide +kernel, by decide +kernel⟩, Nat.le_of_ble_eq_true rfl⟩
theorem np_X12_paramAt : (parseMethodDescriptor yX12_paramAt.desc).map (fun d => d.parameters.length) = some 3 := by decide +kernel
theorem im_X12_paramAt : Cond.instanceMethod yX12_paramAt ∈ pWW := pw10 (List.mem_of_getElem? (i := 7) rfl) rfl
theorem se_X12_paramAt : Cond.selects RX12 yX12_paramAt yX12_paramAt ∈ pWW := pws (List.mem_map.mpr ⟨_, lw_pin 177 rfl, rfl⟩) rfl
theorem cd_X12_depth : Cond.code yX12_depth cX12_depth 5 (some .int) ∈ pWW := pw10 (List.mem_of_getElem? (i := 16) rfl) rfl
abbrev m_X12_depth : MT := (yX12_depth, cX12_depth, 5, (some .int))
theorem ok_X12_depth : pOk m_X12_depth := ⟨⟨cd_X12_depth, ini_12⟩, by decide +kernel, ⟨by decide +kernel, by decide +kernel⟩, Nat.le_of_ble_eq_true rfl⟩
theorem np_X12_depth : (parseMethodDescriptor yX12_depth.desc).map (fun d => d.parameters.length) = some 1 := by decide +kernel
theorem im_X12_depth : Cond.instanceMethod yX12_depth ∈ pWW := pw10 (List.mem_of_getElem? (i := 15) rfl) rfl
theorem se_X12_depth : Cond.selects RX12 yX12_depth yX12_depth ∈ pWW := pws (List.mem_map.mpr ⟨_, lw_pin 178 rfl, rfl⟩) rfl
theorem cd_X12_worth : Cond.code yX12_worth cX12_worth 4 (some .int) ∈ pWW := pw10 (List.mem_of_getElem? (i := 28) rfl) rfl
abbrev m_X12_worth : MT := (yX12_worth, cX12_worth, 4, (some .int))
theorem ok_X12_worth : pOk m_X12_worth := ⟨⟨cd_X12_worth, ini_12⟩, by decide +kernel, ⟨by decide +kernel, by decide +kernel⟩, Nat.le_of_ble_eq_true rfl⟩
theorem np_X12_worth : (parseMethodDescriptor yX12_worth.desc).map (fun d => d.parameters.length) = some 3 := by decide +kernel
theorem im_X12_worth : Cond.instanceMethod yX12_worth ∈ pWW := pw10 (List.mem_of_getElem? (i := 27) rfl) rfl
theorem se_X12_worth : Cond.selects RX12 yX12_worth yX12_worth ∈ pWW := pws (List.mem_map.mpr ⟨_, lw_pin 181 rfl, rfl⟩) rfl
theorem cd_X12_step : Cond.code yX12_step cX12_step 9 (some .int) ∈ pWW := pw10 (List.mem_of_getElem? (i := 20) rfl) rfl
abbrev m_X12_step : MT := (yX12_step, cX12_step, 9, (some .int))
theorem ok_X12_step : pOk m_X12_step := ⟨⟨cd_X12_step, ini_12⟩, by decide +kernel, ⟨by decide +kernel, by decide +kernel⟩, Nat.le_of_ble_eq_true rfl⟩
theorem np_X12_step : (parseMethodDescriptor yX12_step.desc).map (fun d => d.parameters.length) = some 1 := by decide +kernel
theorem im_X12_step : Cond.instanceMethod yX12_step ∈ pWW := pw10 (List.mem_of_getElem? (i := 19) rfl) rfl
theorem se_X12_step : Cond.selects RX12 yX12_step yX12_step ∈ pWW := pws (List.mem_map.mpr ⟨_, lw_pin 179 rfl, rfl⟩) rfl
theorem cd_X12_labelIn : Cond.code yX12_labelIn cX12_labelIn 4 (some .int) ∈ pWW := pw10 (List.mem_of_getElem? (i := 36) rfl) rfl
abbrev m_X12_labelIn : MT := (yX12_labelIn, cX12_labelIn, 4, (some .int))
theorem ok_X12_labelIn : pOk m_X12_labelIn := ⟨⟨cd_X12_labelIn, ini_12⟩, by decide +kernel, ⟨by decide +kernel, by decide +kernel⟩, Nat.le_of_ble_eq_true rfl⟩
theorem np_X12_labelIn : (parseMethodDescriptor yX12_labelIn.desc).map (fun d => d.parameters.length) = some 2 := by decide +kernel
theorem im_X12_labelIn : Cond.instanceMethod yX12_labelIn ∈ pWW := pw10 (List.mem_of_getElem? (i := 35) rfl) rfl
theorem se_X12_labelIn : Cond.selects RX12 yX12_labelIn yX12_labelIn ∈ pWW := pws (List.mem_map.mpr ⟨_, lw_pin 183 rfl, rfl⟩) rfl
theorem cd_X12_returns : Cond.code yX12_returns cX12_returns 6 (some .int) ∈ pWW := pw10 (List.mem_of_getElem? (i := 32) rfl) rfl
abbrev m_X12_returns : MT := (yX12_returns, cX12_returns, 6, (some .int))
theorem ok_X12_returns : pOk m_X12_returns := ⟨⟨cd_X12_returns, ini_12⟩, by decide +kernel, ⟨by decide +kernel, by decide +kernel⟩, Nat.le_of_ble_eq_true rfl⟩
theorem np_X12_returns : (parseMethodDescriptor yX12_returns.desc).map (fun d => d.parameters.length) = some 3 := by decide +kernel
theorem im_X12_returns : Cond.instanceMethod yX12_returns ∈ pWW := pw10 (List.mem_of_getElem? (i := 31) rfl) rfl
theorem se_X12_returns : Cond.selects RX12 yX12_returns yX12_returns ∈ pWW := pws (List.mem_map.mpr ⟨_, lw_pin 182 rfl, rfl⟩) rfl
theorem cd_X12_start : Cond.code yX12_start cX12_start 6 (some .boolean) ∈ pWW := pw9 (List.mem_of_getElem? (i := 236) rfl) rfl
abbrev m_X12_start : MT := (yX12_start, cX12_start, 6, (some .boolean))
theorem ok_X12_start : pOk m_X12_start := ⟨⟨cd_X12_start, ini_12⟩, by decide +kernel, ⟨by decide +kernel, by decide +kernel⟩, Nat.le_of_ble_eq_true rfl⟩
theorem np_X12_start : (parseMethodDescriptor yX12_start.desc).map (fun d => d.parameters.length) = some 5 := by decide +kernel
theorem im_X12_start : Cond.instanceMethod yX12_start ∈ pWW := pw9 (List.mem_of_getElem? (i := 234) rfl) rfl
theorem se_X12_start : Cond.selects RX12 yX12_start yX12_start ∈ pWW := pw9 (List.mem_of_getElem? (i := 235) rfl) rfl
theorem cd_X12_go : Cond.code yX12_go cX12_go 8 (some .int) ∈ pWW := pw10 (List.mem_of_getElem? (i := 12) rfl) rfl
abbrev m_X12_go : MT := (yX12_go, cX12_go, 8, (some .int))
theorem ok_X12_go : pOk m_X12_go := ⟨⟨cd_X12_go, ini_12⟩, by decide +kernel, ⟨by decide +kernel, by decide +kernel⟩, Nat.le_of_ble_eq_true rfl⟩
theorem np_X12_go : (parseMethodDescriptor yX12_go.desc).map (fun d => d.parameters.length) = some 2 := by decide +kernel
theorem im_X12_go : Cond.instanceMethod yX12_go ∈ pWW := pw10 (List.mem_of_getElem? (i := 10) rfl) rfl
theorem se_X12_go : Cond.selects RX12 yX12_go yX12_go ∈ pWW := pw10 (List.mem_of_getElem? (i := 11) rfl) rfl
theorem cd_X12_isFrame : Cond.code yX12_isFrame cX12_isFrame 6 (some .boolean) ∈ pWW := pw10 (List.mem_of_getElem? (i := 48) rfl) rfl
abbrev m_X12_isFrame : MT := (yX12_isFrame, cX12_isFrame, 6, (some .boolean))
theorem ok_X12_isFrame : pOk m_X12_isFrame := ⟨⟨cd_X12_isFrame, ini_12⟩, by decide +kernel, ⟨by decide +kernel, by decide +kernel⟩, Nat.le_of_ble_eq_true rfl⟩
theorem np_X12_isFrame : (parseMethodDescriptor yX12_isFrame.desc).map (fun d => d.parameters.length) = some 2 := by decide +kernel
theorem im_X12_isFrame : Cond.instanceMethod yX12_isFrame ∈ pWW := pw10 (List.mem_of_getElem? (i := 47) rfl) rfl
theorem se_X12_isFrame : Cond.selects RX12 yX12_isFrame yX12_isFrame ∈ pWW := pws (List.mem_map.mpr ⟨_, lw_pin 185 rfl, rfl⟩) rfl
theorem cd_X12_isStack : Cond.code yX12_isStack cX12_isStack 2 (some .boolean) ∈ pWW := pw10 (List.mem_of_getElem? (i := 44) rfl) rfl
abbrev m_X12_isStack : MT := (yX12_isStack, cX12_isStack, 2, (some .boolean))
theorem ok_X12_isStack : pOk m_X12_isStack := ⟨⟨cd_X12_isStack, ini_12⟩, by decide +kernel, ⟨by decide +kernel, by decide +kernel⟩, Nat.le_of_ble_eq_true rfl⟩
theorem np_X12_isStack : (parseMethodDescriptor yX12_isStack.desc).map (fun d => d.parameters.length) = some 1 := by decide +kernel
theorem im_X12_isStack : Cond.instanceMethod yX12_isStack ∈ pWW := pw10 (List.mem_of_getElem? (i := 43) rfl) rfl
theorem se_X12_isStack : Cond.selects RX12 yX12_isStack yX12_isStack ∈ pWW := pws (List.mem_map.mpr ⟨_, lw_pin 184 rfl, rfl⟩) rfl
theorem cd_X12_routineIn : Cond.code yX12_routineIn cX12_routineIn 2 (some .int) ∈ pWW := pw10 (List.mem_of_getElem? (i := 52) rfl) rfl
abbrev m_X12_routineIn : MT := (yX12_routineIn, cX12_routineIn, 2, (some .int))
theorem ok_X12_routineIn : pOk m_X12_routineIn := ⟨⟨cd_X12_routineIn, ini_12⟩, by decide +kernel, ⟨by decide +kernel, by decide +kernel⟩, Nat.le_of_ble_eq_true rfl⟩
theorem np_X12_routineIn : (parseMethodDescriptor yX12_routineIn.desc).map (fun d => d.parameters.length) = some 1 := by decide +kernel
theorem im_X12_routineIn : Cond.instanceMethod yX12_routineIn ∈ pWW := pw10 (List.mem_of_getElem? (i := 51) rfl) rfl
theorem se_X12_routineIn : Cond.selects RX12 yX12_routineIn yX12_routineIn ∈ pWW := pws (List.mem_map.mpr ⟨_, lw_pin 186 rfl, rfl⟩) rfl
theorem cd_X12_stack : Cond.code yX12_stack cX12_stack 4 (some .int) ∈ pWW := pw10 (List.mem_of_getElem? (i := 40) rfl) rfl
abbrev m_X12_stack : MT := (yX12_stack, cX12_stack, 4, (some .int))
theorem ok_X12_stack : pOk m_X12_stack := ⟨⟨cd_X12_stack, ini_12⟩, by decide +kernel, ⟨by decide +kernel, by decide +kernel⟩, Nat.le_of_ble_eq_true rfl⟩
theorem np_X12_stack : (parseMethodDescriptor yX12_stack.desc).map (fun d => d.parameters.length) = some 2 := by decide +kernel
theorem im_X12_stack : Cond.instanceMethod yX12_stack ∈ pWW := pw10 (List.mem_of_getElem? (i := 38) rfl) rfl
theorem se_X12_stack : Cond.selects RX12 yX12_stack yX12_stack ∈ pWW := pw10 (List.mem_of_getElem? (i := 39) rfl) rfl
theorem cd_X12_stateAt : Cond.code yX12_stateAt cX12_stateAt 2 (some .int) ∈ pWW := pw10 (List.mem_of_getElem? (i := 60) rfl) rfl
abbrev m_X12_stateAt : MT := (yX12_stateAt, cX12_stateAt, 2, (some .int))
theorem ok_X12_stateAt : pOk m_X12_stateAt := ⟨⟨cd_X12_stateAt, ini_12⟩, by decide +kernel, ⟨by decide +kernel, by decide +kernel⟩, Nat.le_of_ble_eq_true rfl⟩
theorem np_X12_stateAt : (parseMethodDescriptor yX12_stateAt.desc).map (fun d => d.parameters.length) = some 1 := by decide +kernel
theorem im_X12_stateAt : Cond.instanceMethod yX12_stateAt ∈ pWW := pw10 (List.mem_of_getElem? (i := 59) rfl) rfl
theorem se_X12_stateAt : Cond.selects RX12 yX12_stateAt yX12_stateAt ∈ pWW := pws (List.mem_map.mpr ⟨_, lw_pin 187 rfl, rfl⟩) rfl
theorem cd_X12_stateWorth : Cond.code yX12_stateWorth cX12_stateWorth 3 (some .int) ∈ pWW := pw10 (List.mem_of_getElem? (i := 68) rfl) rfl
abbrev m_X12_stateWorth : MT := (yX12_stateWorth, cX12_stateWorth, 3, (some .int))
theorem ok_X12_stateWorth : pOk m_X12_stateWorth := ⟨⟨cd_X12_stateWorth, ini_12⟩, by decide +kernel, ⟨by decide +kernel, by decide +kernel⟩, Nat.le_of_ble_eq_true rfl⟩
theorem np_X12_stateWorth : (parseMethodDescriptor yX12_stateWorth.desc).map (fun d => d.parameters.length) = some 1 := by decide +kernel
theorem im_X12_stateWorth : Cond.instanceMethod yX12_stateWorth ∈ pWW := pw10 (List.mem_of_getElem? (i := 67) rfl) rfl
theorem se_X12_stateWorth : Cond.selects RX12 yX12_stateWorth yX12_stateWorth ∈ pWW := pws (List.mem_map.mpr ⟨_, lw_pin 188 rfl, rfl⟩) rfl
theorem cd_X12_known : Cond.code yX12_known cX12_known 4 (some .int) ∈ pWW := pw10 (List.mem_of_getElem? (i := 56) rfl) rfl
abbrev m_X12_known : MT := (yX12_known, cX12_known, 4, (some .int))
theorem ok_X12_known : pOk m_X12_known := ⟨⟨cd_X12_known, ini_12⟩, by decide +kernel, ⟨by decide +kernel, by decide +kernel⟩, Nat.le_of_ble_eq_true rfl⟩
theorem np_X12_known : (parseMethodDescriptor yX12_known.desc).map (fun d => d.parameters.length) = some 2 := by decide +kernel
theorem im_X12_known : Cond.instanceMethod yX12_known ∈ pWW := pw10 (List.mem_of_getElem? (i := 54) rfl) rfl
theorem se_X12_known : Cond.selects RX12 yX12_known yX12_known ∈ pWW := pw10 (List.mem_of_getElem? (i := 55) rfl) rfl
theorem cd_X12_value : Cond.code yX12_value cX12_value 4 (some .int) ∈ pWW := pw10 (List.mem_of_getElem? (i := 64) rfl) rfl
abbrev m_X12_value : MT := (yX12_value, cX12_value, 4, (some .int))
theorem ok_X12_value : pOk m_X12_value := ⟨⟨cd_X12_value, ini_12⟩, by decide +kernel, ⟨by decide +kernel, by decide +kernel⟩, Nat.le_of_ble_eq_true rfl⟩
theorem np_X12_value : (parseMethodDescriptor yX12_value.desc).map (fun d => d.parameters.length) = some 2 := by decide +kernel
theorem im_X12_value : Cond.instanceMethod yX12_value ∈ pWW := pw10 (List.mem_of_getElem? (i := 62) rfl) rfl
theorem se_X12_value : Cond.selects RX12 yX12_value yX12_value ∈ pWW := pw10 (List.mem_of_getElem? (i := 63) rfl) rfl
theorem cd_X12_run : Cond.code yX12_run cX12_run 2 (some .int) ∈ pWW := pw10 (List.mem_of_getElem? (i := 72) rfl) rfl
abbrev m_X12_run : MT := (yX12_run, cX12_run, 2, (some .int))
theorem ok_X12_run : pOk m_X12_run := ⟨⟨cd_X12_run, ini_12⟩, by decide +kernel, ⟨by decide +kernel, by decide +kernel⟩, Nat.le_of_ble_eq_true rfl⟩
theorem np_X12_run : (parseMethodDescriptor yX12_run.desc).map (fun d => d.parameters.length) = some 1 := by decide +kernel
theorem im_X12_run : Cond.instanceMethod yX12_run ∈ pWW := pw10 (List.mem_of_getElem? (i := 70) rfl) rfl
theorem se_X12_run : Cond.selects RX12 yX12_run yX12_run ∈ pWW := pw10 (List.mem_of_getElem? (i := 71) rfl) rfl
theorem cd_X12_printed : Cond.code yX12_printed cX12_printed 2 (some .int) ∈ pWW := pw10 (List.mem_of_getElem? (i := 76) rfl) rfl
abbrev m_X12_printed : MT := (yX12_printed, cX12_printed, 2, (some .int))
theorem ok_X12_printed : pOk m_X12_printed := ⟨⟨cd_X12_printed, ini_12⟩, by decide +kernel, ⟨by decide +kernel, by decide +kernel⟩, Nat.le_of_ble_eq_true rfl⟩
theorem np_X12_printed : (parseMethodDescriptor yX12_printed.desc).map (fun d => d.parameters.length) = some 1 := by decide +kernel
theorem im_X12_printed : Cond.instanceMethod yX12_printed ∈ pWW := pw10 (List.mem_of_getElem? (i := 74) rfl) rfl
theorem se_X12_printed : Cond.selects RX12 yX12_printed yX12_printed ∈ pWW := pw10 (List.mem_of_getElem? (i := 75) rfl) rfl
theorem cd_X12_arePrintsAlike : Cond.code yX12_arePrintsAlike cX12_arePrintsAlike 3 (some .boolean) ∈ pWW := pw10 (List.mem_of_getElem? (i := 84) rfl) rfl
abbrev m_X12_arePrintsAlike : MT := (yX12_arePrintsAlike, cX12_arePrintsAlike, 3, (some .boolean))
theorem ok_X12_arePrintsAlike : pOk m_X12_arePrintsAlike := ⟨⟨cd_X12_arePrintsAlike, ini_12⟩, by decide +kernel, ⟨by decide +kernel, by decide +kernel⟩, Nat.le_of_ble_eq_true rfl⟩
theorem np_X12_arePrintsAlike : (parseMethodDescriptor yX12_arePrintsAlike.desc).map (fun d => d.parameters.length) = some 0 := by decide +kernel
theorem im_X12_arePrintsAlike : Cond.instanceMethod yX12_arePrintsAlike ∈ pWW := pw10 (List.mem_of_getElem? (i := 83) rfl) rfl
theorem se_X12_arePrintsAlike : Cond.selects RX12 yX12_arePrintsAlike yX12_arePrintsAlike ∈ pWW := pws (List.mem_map.mpr ⟨_, lw_pin 189 rfl, rfl⟩) rfl
theorem cd_X12_areAlike : Cond.code yX12_areAlike cX12_areAlike 11 (some .boolean) ∈ pWW := pw10 (List.mem_of_getElem? (i := 88) rfl) rfl
abbrev m_X12_areAlike : MT := (yX12_areAlike, cX12_areAlike, 11, (some .boolean))
theorem ok_X12_areAlike : pOk m_X12_areAlike := ⟨⟨cd_X12_areAlike, ini_12⟩, by decide +kernel, ⟨by decide +kernel, by decide +kernel⟩, Nat.le_of_ble_eq_true rfl⟩
theorem np_X12_areAlike : (parseMethodDescriptor yX12_areAlike.desc).map (fun d => d.parameters.length) = some 0 := by decide +kernel
theorem im_X12_areAlike : Cond.instanceMethod yX12_areAlike ∈ pWW := pw10 (List.mem_of_getElem? (i := 87) rfl) rfl
theorem se_X12_areAlike : Cond.selects RX12 yX12_areAlike yX12_areAlike ∈ pWW := pws (List.mem_map.mpr ⟨_, lw_pin 190 rfl, rfl⟩) rfl
theorem cd_X12_beside : Cond.code yX12_beside cX12_beside 12 (some .int) ∈ pWW := pw10 (List.mem_of_getElem? (i := 80) rfl) rfl
abbrev m_X12_beside : MT := (yX12_beside, cX12_beside, 12, (some .int))
theorem ok_X12_beside : pOk m_X12_beside := ⟨⟨cd_X12_beside, ini_12⟩, by decide +kernel, ⟨by decide +kernel, by decide +kernel⟩, Nat.le_of_ble_eq_true rfl⟩
theorem np_X12_beside : (parseMethodDescriptor yX12_beside.desc).map (fun d => d.parameters.length) = some 6 := by decide +kernel
theorem im_X12_beside : Cond.instanceMethod yX12_beside ∈ pWW := pw10 (List.mem_of_getElem? (i := 78) rfl) rfl
theorem se_X12_beside : Cond.selects RX12 yX12_beside yX12_beside ∈ pWW := pw10 (List.mem_of_getElem? (i := 79) rfl) rfl
theorem cd_X12_compared : Cond.code yX12_compared cX12_compared 2 (some .int) ∈ pWW := pw10 (List.mem_of_getElem? (i := 92) rfl) rfl
abbrev m_X12_compared : MT := (yX12_compared, cX12_compared, 2, (some .int))
theorem ok_X12_compared : pOk m_X12_compared := ⟨⟨cd_X12_compared, ini_12⟩, by decide +kernel, ⟨by decide +kernel, by decide +kernel⟩, Nat.le_of_ble_eq_true rfl⟩
theorem np_X12_compared : (parseMethodDescriptor yX12_compared.desc).map (fun d => d.parameters.length) = some 1 := by decide +kernel
theorem im_X12_compared : Cond.instanceMethod yX12_compared ∈ pWW := pw10 (List.mem_of_getElem? (i := 90) rfl) rfl
theorem se_X12_compared : Cond.selects RX12 yX12_compared yX12_compared ∈ pWW := pw10 (List.mem_of_getElem? (i := 91) rfl) rfl
theorem fl12_226 : Cond.fieldLink RX12 226 (TX12 22).1 (TX12 22).2.1 (TX12 22).2.2.1 ∈ pWW := pw7 (List.mem_of_getElem? (i := 29) rfl) rfl
end
