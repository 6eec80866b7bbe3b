theorem cd_X9_isSign : Cond.code yX9_isSign cX9_isSign 2 (some .boolean) ∈ pWW := pw3 (List.mem_of_getElem? (i := 47) rfl) rfl
abbrev m_X9_isSign : MT := (yX9_isSign, cX9_isSign, 2, (some .boolean))
theorem ok_X9_isSign : pOk m_X9_isSign := ⟨⟨cd_X9_isSign, ini_9⟩, by decide +kernel, ⟨by decide +kernel, by decide +kernel⟩, Nat.le_of_ble_eq_true rfl⟩
theorem np_X9_isSign : (parseMethodDescriptor yX9_isSign.desc).map (fun d => d.parameters.length) = some 1 := by decide +kernel
theorem stt_X9_isSign : Cond.static yX9_isSign ∈ pWW := pw3 (List.mem_of_getElem? (i := 46) rfl) rfl
theorem fl9_69 : Cond.fieldLink RX9 69 "LineKeeper$Tokens" "SIGNS" "[C" ∈ pWW := pw3 (List.mem_of_getElem? (i := 48) rfl) rfl
theorem dX9_isSign_0 : decode cX9_isSign 0 = .ok (.iconst 0, 1) := by decide +kernel
theorem dX9_isSign_1 : decode cX9_isSign 1 = .ok (.istore_n 1, 1) := by decide +kernel
theorem dX9_isSign_2 : decode cX9_isSign 2 = .ok (.iload_n 1, 1) := by decide +kernel
theorem dX9_isSign_3 : decode cX9_isSign 3 = .ok (.getstatic 69, 3) := by decide +kernel
theorem dX9_isSign_6 : decode cX9_isSign 6 = .ok (.arraylength, 1) := by decide +kernel
theorem dX9_isSign_7 : decode cX9_isSign 7 = .ok (.if_icmp .ge 20, 3) := by decide +kernel
theorem dX9_isSign_10 : decode cX9_isSign 10 = .ok (.getstatic 69, 3) := by decide +kernel
theorem dX9_isSign_13 : decode cX9_isSign 13 = .ok (.iload_n 1, 1) := by decide +kernel
theorem dX9_isSign_14 : decode cX9_isSign 14 = .ok (.caload, 1) := by decide +kernel
theorem dX9_isSign_15 : decode cX9_isSign 15 = .ok (.iload_n 0, 1) := by decide +kernel
theorem dX9_isSign_16 : decode cX9_isSign 16 = .ok (.if_icmp .ne 5, 3) := by decide +kernel
theorem dX9_isSign_21 : decode cX9_isSign 21 = .ok (.iinc 1 1, 3) := by decide +kernel
theorem dX9_isSign_24 : decode cX9_isSign 24 = .ok (.goto (-22), 3) := by decide +kernel
set_option maxRecDepth 20000 in
theorem l_X9_isSign_2 (d : Nat) {T : CT} {σ : MS} {c0 : Int} {post : Option Value → CT → MS → Prop} (r_c0 : -2147483648 ≤ c0 ∧ c0 ≤ 2147483647) (hw : WT T σ) (hx_19 : ∀ (i1 : Int) , (0 ≤ i1 ∧ i1 ≤ 2147483647) → Tn (d + 1) m_X9_isSign 19 T σ [(0, .int (iI c0)), (1, .int (iI i1))] [] post) (hx_27 : ∀ (i1 : Int) , (0 ≤ i1 ∧ i1 ≤ 2147483647) → Tn (d + 1) m_X9_isSign 27 T σ [(0, .int (iI c0)), (1, .int (iI i1))] [] post) : ∀ (n : Nat) (i1 : Int) , (0 ≤ i1 ∧ i1 ≤ 2147483647) → (2147483700 - i1).toNat = n → Tn (d + 1) m_X9_isSign 2 T σ [(0, .int (iI c0)), (1, .int (iI i1))] [] post := by
  intro n
  induction n using Nat.strongRecOn with
  | _ n ih =>
    intro i1 r_i1 hm
    refine tn_iload_n dX9_isSign_2 rfl 1 rfl ?_
    refine tn_stLen st_sg dX9_isSign_3 fl9_69 dX9_isSign_6 ?_
    show Tn _ _ 7 T σ [(0, .int (iI c0)), (1, .int (iI i1))] (.int (iI 11) :: [.int (iI i1)]) _
    refine tn_icmp_ge (tgt := 27) dX9_isSign_7 (by decide) ⟨by omega, by omega⟩ ⟨by decide, by decide⟩ (fun h1 => ?_) (fun h1 => ?_)
    · exact tn_sub [0, 1] rfl (hx_27 (i1) (by omega))
    · refine tn_stChr (z := i1) st_sg dX9_isSign_10 fl9_69 dX9_isSign_13 rfl (q := 1) rfl dX9_isSign_14 (by omega) (by omega) (by decide) (fun v2 g3 => ?_)
      have g3r : -2147483648 ≤ v2 ∧ v2 ≤ 2147483647 := g3
      clear g3
      show Tn _ _ 15 T σ [(0, .int (iI c0)), (1, .int (iI i1))] [.int (iI v2)] _
      refine tn_iload_n dX9_isSign_15 rfl 0 rfl ?_
      refine tn_icmp_ne (tgt := 21) dX9_isSign_16 (by decide) ⟨by omega, by omega⟩ ⟨by omega, by omega⟩ (fun h4 => ?_) (fun h4 => ?_)
      · refine tn_iinc (q0 := 1) (L' := [(1, .int (iI (i1 + 1))), (0, .int (iI c0))]) dX9_isSign_21 rfl (by decide) rfl ?_
        refine tn_goto (tgt := 2) dX9_isSign_24 (by decide) ?_
        exact tn_sub [1, 0] rfl (ih _ (by omega) (i1 + 1) (by omega) rfl)
      · exact tn_sub [0, 1] rfl (hx_19 (i1) (by omega))
theorem dX9_isSign_19 : decode cX9_isSign 19 = .ok (.iconst 1, 1) := by decide +kernel
theorem dX9_isSign_20 : decode cX9_isSign 20 = .ok (.ireturn, 1) := by decide +kernel
theorem dX9_isSign_27 : decode cX9_isSign 27 = .ok (.iconst 0, 1) := by decide +kernel
theorem dX9_isSign_28 : decode cX9_isSign 28 = .ok (.ireturn, 1) := by decide +kernel
set_option maxRecDepth 20000 in
theorem k_X9_isSign (d : Nat) {T : CT} {σ : MS} {p1 : Int} (h_p1 : -2147483648 ≤ p1 ∧ p1 ≤ 2147483647) (hw : WT T σ) : Tn (d + 1) m_X9_isSign 0 T σ [(0, .int (iI p1))] [] (fun ro T2 σ2 => ∃ v : Int, ro = some (.int (iI v)) ∧ T = T2 ∧ σ = σ2 ∧ (v = 0 ∨ v = 1)) := by
  refine tn_iconst dX9_isSign_0 ?_
  refine tn_istore_n (L' := [(1, .int (iI 0)), (0, .int (iI p1))]) dX9_isSign_1 rfl (by decide) rfl ?_
  refine tn_sub [1, 0] rfl (l_X9_isSign_2 (d) (T := T) (σ := σ) (c0 := p1) (by omega) hw (fun i11 r7 => ?_) (fun i18 r14 => ?_) _ (0) (by omega) rfl)
  · show Tn _ _ 19 T σ [(0, .int (iI p1)), (1, .int (iI i11))] [] _
    refine tn_iconst dX9_isSign_19 ?_
    exact tn_zret (v := 1) rfl (by decide) dX9_isSign_20 ⟨_, rfl, rfl, rfl, by omega⟩
  · show Tn _ _ 27 T σ [(0, .int (iI p1)), (1, .int (iI i18))] [] _
    refine tn_iconst dX9_isSign_27 ?_
    exact tn_zret (v := 0) rfl (by decide) dX9_isSign_28 ⟨_, rfl, rfl, rfl, by omega⟩
