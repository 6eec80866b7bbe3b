theorem cd_X9_wordKind : Cond.code yX9_wordKind cX9_wordKind 2 (some .int) ∈ pWW := pw3 (List.mem_of_getElem? (i := 42) rfl) rfl
theorem ini_9 : Cond.initialized RX9 ∈ pWW := pw1 (List.mem_of_getElem? (i := 3) rfl) rfl
abbrev m_X9_wordKind : MT := (yX9_wordKind, cX9_wordKind, 2, (some .int))
theorem ok_X9_wordKind : pOk m_X9_wordKind := ⟨⟨cd_X9_wordKind, ini_9⟩, by decide +kernel, ⟨by decide +kernel, by decide +kernel⟩, Nat.le_of_ble_eq_true rfl⟩
theorem np_X9_wordKind : (parseMethodDescriptor yX9_wordKind.desc).map (fun d => d.parameters.length) = some 0 := by decide +kernel
theorem im_X9_wordKind : Cond.instanceMethod yX9_wordKind ∈ pWW := pw3 (List.mem_of_getElem? (i := 41) rfl) rfl
theorem se_X9_wordKind : Cond.selects RX9 yX9_wordKind yX9_wordKind ∈ pWW := pws (List.mem_map.mpr ⟨_, lw_pin 2 rfl, rfl⟩) rfl
theorem fl9_66 : Cond.fieldLink RX9 66 "LineKeeper$Tokens" "WORD_KEYS" "[I" ∈ pWW := pw3 (List.mem_of_getElem? (i := 43) rfl) rfl
theorem fl9_55 : Cond.fieldLink RX9 55 (TX9 5).1 (TX9 5).2.1 (TX9 5).2.2.1 ∈ pWW := pw1 (List.mem_of_getElem? (i := 50) rfl) rfl
theorem dX9_wordKind_0 : decode cX9_wordKind 0 = .ok (.iconst 0, 1) := by decide +kernel
theorem dX9_wordKind_1 : decode cX9_wordKind 1 = .ok (.istore_n 1, 1) := by decide +kernel
theorem dX9_wordKind_2 : decode cX9_wordKind 2 = .ok (.iload_n 1, 1) := by decide +kernel
theorem dX9_wordKind_3 : decode cX9_wordKind 3 = .ok (.getstatic 66, 3) := by decide +kernel
theorem dX9_wordKind_6 : decode cX9_wordKind 6 = .ok (.arraylength, 1) := by decide +kernel
theorem dX9_wordKind_7 : decode cX9_wordKind 7 = .ok (.if_icmp .ge 27, 3) := by decide +kernel
theorem dX9_wordKind_10 : decode cX9_wordKind 10 = .ok (.getstatic 66, 3) := by decide +kernel
theorem dX9_wordKind_13 : decode cX9_wordKind 13 = .ok (.iload_n 1, 1) := by decide +kernel
theorem dX9_wordKind_14 : decode cX9_wordKind 14 = .ok (.iaload, 1) := by decide +kernel
theorem dX9_wordKind_15 : decode cX9_wordKind 15 = .ok (.aload_n 0, 1) := by decide +kernel
theorem dX9_wordKind_16 : decode cX9_wordKind 16 = .ok (.getfield 55, 3) := by decide +kernel
theorem dX9_wordKind_19 : decode cX9_wordKind 19 = .ok (.if_icmp .ne 9, 3) := by decide +kernel
theorem dX9_wordKind_28 : decode cX9_wordKind 28 = .ok (.iinc 1 1, 3) := by decide +kernel
theorem dX9_wordKind_31 : decode cX9_wordKind 31 = .ok (.goto (-29), 3) := by decide +kernel
set_option maxRecDepth 20000 in
theorem l_X9_wordKind_2 (d : Nat) {T : CT} {σ : MS} {a : Nat} {post : Option Value → CT → MS → Prop} (h_a : OB T a 9) (hw : WT T σ) (hx_22 : ∀ (i1 : Int) , (0 ≤ i1 ∧ i1 ≤ 2147483647) → Tn (d + 1) m_X9_wordKind 22 T σ [(0, .ref a), (1, .int (iI i1))] [] post) (hx_34 : ∀ (i1 : Int) , (0 ≤ i1 ∧ i1 ≤ 2147483647) → Tn (d + 1) m_X9_wordKind 34 T σ [(0, .ref a), (1, .int (iI i1))] [] post) : ∀ (n : Nat) (i1 : Int) , (0 ≤ i1 ∧ i1 ≤ 2147483647) → (2147483700 - i1).toNat = n → Tn (d + 1) m_X9_wordKind 2 T σ [(0, .ref a), (1, .int (iI i1))] [] post := by
  intro n
  induction n using Nat.strongRecOn with
  | _ n ih =>
    intro i1 r_i1 hm
    refine tn_iload_n dX9_wordKind_2 rfl 1 rfl ?_
    refine tn_stLen st_wk dX9_wordKind_3 fl9_66 dX9_wordKind_6 ?_
    show Tn _ _ 7 T σ [(0, .ref a), (1, .int (iI i1))] (.int (iI 5) :: [.int (iI i1)]) _
    refine tn_icmp_ge (tgt := 34) dX9_wordKind_7 (by decide) ⟨by omega, by omega⟩ ⟨by decide, by decide⟩ (fun h1 => ?_) (fun h1 => ?_)
    · exact tn_sub [0, 1] rfl (hx_34 (i1) (by omega))
    · refine tn_stInt (z := i1) st_wk dX9_wordKind_10 fl9_66 (Or.inl ⟨_, rfl, rfl, dX9_wordKind_13⟩) (q := 1) rfl dX9_wordKind_14 (by omega) (by omega) (by decide) (fun v2 g3 => ?_)
      have g3r : -2147483648 ≤ v2 ∧ v2 ≤ 2147483647 := g3.1
      clear g3
      show Tn _ _ 15 T σ [(0, .ref a), (1, .int (iI i1))] [.int (iI v2)] _
      refine tn_aload_n dX9_wordKind_15 rfl 0 rfl ?_
      refine tn_getI (ci := 9) (i := 5) (n := 86) (t := σ.2.1 86 a) dX9_wordKind_16 rfl lay_9 (by decide) fl9_55 h_a rfl rfl (rfl) ?_
      have g4 : ((-2147483648 : Int) ≤ σ.2.1 86 a ∧ σ.2.1 86 a ≤ 2147483647) := wf_86 hw h_a
      refine tn_icmp_ne (tgt := 28) dX9_wordKind_19 (by decide) ⟨by omega, by omega⟩ ⟨by omega, by omega⟩ (fun h5 => ?_) (fun h5 => ?_)
      · refine tn_iinc (q0 := 1) (L' := [(1, .int (iI (i1 + 1))), (0, .ref a)]) dX9_wordKind_28 rfl (by decide) rfl ?_
        refine tn_goto (tgt := 2) dX9_wordKind_31 (by decide) ?_
        exact tn_sub [1, 0] rfl (ih _ (by omega) (i1 + 1) (by omega) rfl)
      · exact tn_sub [0, 1] rfl (hx_22 (i1) (by omega))
theorem dX9_wordKind_22 : decode cX9_wordKind 22 = .ok (.sipush 258, 3) := by decide +kernel
theorem dX9_wordKind_25 : decode cX9_wordKind 25 = .ok (.iload_n 1, 1) := by decide +kernel
theorem dX9_wordKind_26 : decode cX9_wordKind 26 = .ok (.iadd, 1) := by decide +kernel
theorem dX9_wordKind_27 : decode cX9_wordKind 27 = .ok (.ireturn, 1) := by decide +kernel
theorem dX9_wordKind_34 : decode cX9_wordKind 34 = .ok (.sipush 256, 3) := by decide +kernel
theorem dX9_wordKind_37 : decode cX9_wordKind 37 = .ok (.ireturn, 1) := by decide +kernel
set_option maxRecDepth 20000 in
theorem k_X9_wordKind (d : Nat) {T : CT} {σ : MS} {a : Nat} (ha : OB T a 9) (hw : WT T σ) : Tn (d + 1) m_X9_wordKind 0 T σ [(0, .ref a)] [] (fun ro T2 σ2 => ∃ v : Int, ro = some (.int (iI v)) ∧ T = T2 ∧ σ = σ2 ∧ (-2147483648 ≤ v ∧ v ≤ 2147483647)) := by
  refine tn_iconst dX9_wordKind_0 ?_
  refine tn_istore_n (L' := [(1, .int (iI 0)), (0, .ref a)]) dX9_wordKind_1 rfl (by decide) rfl ?_
  refine tn_sub [1, 0] rfl (l_X9_wordKind_2 (d) (T := T) (σ := σ) (a := a) ha hw (fun i11 r7 => ?_) (fun i18 r14 => ?_) _ (0) (by omega) rfl)
  · show Tn _ _ 22 T σ [(0, .ref a), (1, .int (iI i11))] [] _
    refine tn_sipush dX9_wordKind_22 (by decide) ?_
    refine tn_iload_n dX9_wordKind_25 rfl 1 rfl ?_
    refine tn_iadd dX9_wordKind_26 ?_
    refine tn_any (fun z15 g16 => ?_)
    have g16r : -2147483648 ≤ z15 ∧ z15 ≤ 2147483647 := g16
    exact tn_iret rfl dX9_wordKind_27 ⟨_, rfl, rfl, rfl, by omega⟩
  · show Tn _ _ 34 T σ [(0, .ref a), (1, .int (iI i18))] [] _
    refine tn_sipush dX9_wordKind_34 (by decide) ?_
    exact tn_iret rfl dX9_wordKind_37 ⟨_, rfl, rfl, rfl, by omega⟩
