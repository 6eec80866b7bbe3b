theorem cd_X4_rowsNeeded : Cond.code yX4_rowsNeeded cX4_rowsNeeded 3 (some .int) ∈ pWW := pw5 (List.mem_of_getElem? (i := 154) rfl) rfl
abbrev m_X4_rowsNeeded : MT := (yX4_rowsNeeded, cX4_rowsNeeded, 3, (some .int))
theorem ok_X4_rowsNeeded : pOk m_X4_rowsNeeded := ⟨⟨cd_X4_rowsNeeded, ini_4⟩, by decide +kernel, ⟨by decide +kernel, by decide +kernel⟩, Nat.le_of_ble_eq_true rfl⟩
theorem np_X4_rowsNeeded : (parseMethodDescriptor yX4_rowsNeeded.desc).map (fun d => d.parameters.length) = some 0 := by decide +kernel
theorem im_X4_rowsNeeded : Cond.instanceMethod yX4_rowsNeeded ∈ pWW := pw5 (List.mem_of_getElem? (i := 153) rfl) rfl
theorem se_X4_rowsNeeded : Cond.selects RX4 yX4_rowsNeeded yX4_rowsNeeded ∈ pWW := pws (List.mem_map.mpr ⟨_, lw_pin 66 rfl, rfl⟩) rfl
theorem fl4_105 : Cond.fieldLink RX4 105 (TX1 2).1 (TX1 2).2.1 (TX1 2).2.2.1 ∈ pWW := pw1 (List.mem_of_getElem? (i := 88) rfl) rfl
theorem dX4_rowsNeeded_0 : decode cX4_rowsNeeded 0 = .ok (.iconst 3, 1) := by decide +kernel
theorem dX4_rowsNeeded_1 : decode cX4_rowsNeeded 1 = .ok (.aload_n 0, 1) := by decide +kernel
theorem dX4_rowsNeeded_2 : decode cX4_rowsNeeded 2 = .ok (.getfield 33, 3) := by decide +kernel
theorem dX4_rowsNeeded_5 : decode cX4_rowsNeeded 5 = .ok (.getfield 23, 3) := by decide +kernel
theorem dX4_rowsNeeded_8 : decode cX4_rowsNeeded 8 = .ok (.iadd, 1) := by decide +kernel
theorem dX4_rowsNeeded_9 : decode cX4_rowsNeeded 9 = .ok (.aload_n 0, 1) := by decide +kernel
theorem dX4_rowsNeeded_10 : decode cX4_rowsNeeded 10 = .ok (.getfield 33, 3) := by decide +kernel
theorem dX4_rowsNeeded_13 : decode cX4_rowsNeeded 13 = .ok (.getfield 105, 3) := by decide +kernel
theorem dX4_rowsNeeded_16 : decode cX4_rowsNeeded 16 = .ok (.iadd, 1) := by decide +kernel
theorem dX4_rowsNeeded_17 : decode cX4_rowsNeeded 17 = .ok (.aload_n 0, 1) := by decide +kernel
theorem dX4_rowsNeeded_18 : decode cX4_rowsNeeded 18 = .ok (.getfield 33, 3) := by decide +kernel
theorem dX4_rowsNeeded_21 : decode cX4_rowsNeeded 21 = .ok (.getfield 108, 3) := by decide +kernel
theorem dX4_rowsNeeded_24 : decode cX4_rowsNeeded 24 = .ok (.iadd, 1) := by decide +kernel
theorem dX4_rowsNeeded_25 : decode cX4_rowsNeeded 25 = .ok (.istore_n 1, 1) := by decide +kernel
theorem dX4_rowsNeeded_26 : decode cX4_rowsNeeded 26 = .ok (.iconst 0, 1) := by decide +kernel
theorem dX4_rowsNeeded_27 : decode cX4_rowsNeeded 27 = .ok (.istore_n 2, 1) := by decide +kernel
theorem dX4_rowsNeeded_28 : decode cX4_rowsNeeded 28 = .ok (.iload_n 2, 1) := by decide +kernel
theorem dX4_rowsNeeded_29 : decode cX4_rowsNeeded 29 = .ok (.aload_n 0, 1) := by decide +kernel
theorem dX4_rowsNeeded_30 : decode cX4_rowsNeeded 30 = .ok (.getfield 33, 3) := by decide +kernel
theorem dX4_rowsNeeded_33 : decode cX4_rowsNeeded 33 = .ok (.getfield 23, 3) := by decide +kernel
theorem dX4_rowsNeeded_36 : decode cX4_rowsNeeded 36 = .ok (.if_icmp .ge 31, 3) := by decide +kernel
theorem dX4_rowsNeeded_39 : decode cX4_rowsNeeded 39 = .ok (.iload_n 1, 1) := by decide +kernel
theorem dX4_rowsNeeded_40 : decode cX4_rowsNeeded 40 = .ok (.aload_n 0, 1) := by decide +kernel
theorem dX4_rowsNeeded_41 : decode cX4_rowsNeeded 41 = .ok (.getfield 33, 3) := by decide +kernel
theorem dX4_rowsNeeded_44 : decode cX4_rowsNeeded 44 = .ok (.iload_n 2, 1) := by decide +kernel
theorem dX4_rowsNeeded_45 : decode cX4_rowsNeeded 45 = .ok (.iconst 0, 1) := by decide +kernel
theorem dX4_rowsNeeded_46 : decode cX4_rowsNeeded 46 = .ok (.invokevirtual 29, 3) := by decide +kernel
theorem dX4_rowsNeeded_49 : decode cX4_rowsNeeded 49 = .ok (.bipush 7, 2) := by decide +kernel
theorem dX4_rowsNeeded_51 : decode cX4_rowsNeeded 51 = .ok (.if_icmp .ne 7, 3) := by decide +kernel
theorem dX4_rowsNeeded_58 : decode cX4_rowsNeeded 58 = .ok (.iconst 0, 1) := by decide +kernel
theorem dX4_rowsNeeded_59 : decode cX4_rowsNeeded 59 = .ok (.iadd, 1) := by decide +kernel
theorem dX4_rowsNeeded_60 : decode cX4_rowsNeeded 60 = .ok (.istore_n 1, 1) := by decide +kernel
theorem dX4_rowsNeeded_61 : decode cX4_rowsNeeded 61 = .ok (.iinc 2 1, 3) := by decide +kernel
theorem dX4_rowsNeeded_64 : decode cX4_rowsNeeded 64 = .ok (.goto (-36), 3) := by decide +kernel
theorem dX4_rowsNeeded_54 : decode cX4_rowsNeeded 54 = .ok (.iconst 1, 1) := by decide +kernel
theorem dX4_rowsNeeded_55 : decode cX4_rowsNeeded 55 = .ok (.goto 4, 3) := by decide +kernel
set_option maxRecDepth 20000 in
theorem l_X4_rowsNeeded_28 (d : Nat) {T : CT} {σ : MS} {a : Nat} {post : Option Value → CT → MS → Prop} (h_a : OB T a 4) (hw : WT T σ) (hg : 0 ≤ σ.2.1 26 a) (hx_67 : ∀ (i1 : Int) (i2 : Int) , (0 ≤ i1 ∧ i1 ≤ 419) → (0 ≤ i2 ∧ i2 ≤ 200) → (i1 ≤ 219 + i2) → Tn (d + 4) m_X4_rowsNeeded 67 T σ [(0, .ref a), (1, .int (iI i1)), (2, .int (iI i2))] [] post) : ∀ (n : Nat) (i1 : Int) (i2 : Int) , (0 ≤ i1 ∧ i1 ≤ 419) → (0 ≤ i2 ∧ i2 ≤ 200) → (i1 ≤ 219 + i2) → (2147483700 - i2).toNat = n → Tn (d + 4) m_X4_rowsNeeded 28 T σ [(0, .ref a), (1, .int (iI i1)), (2, .int (iI i2))] [] post := by
  intro n
  induction n using Nat.strongRecOn with
  | _ n ih =>
    intro i1 i2 r_i1 r_i2 h0 hm
    refine tn_iload_n dX4_rowsNeeded_28 rfl 2 rfl ?_
    refine tn_aload_n dX4_rowsNeeded_29 rfl 0 rfl ?_
    have nn8 : 0 ≤ σ.2.1 26 a := (by omega)
    obtain ⟨x5, hx6, hk7⟩ := (wf_26 hw h_a).resolve_left (by omega)
    have hk7o : OB T x5 1 := ⟨by omega, by rw [hk7]; rfl, by omega⟩
    refine tn_getR (ci := 4) (i := 3) (n := 26) (x := x5) dX4_rowsNeeded_30 rfl lay_4 (by decide) fl4_33 h_a rfl rfl (hx6) ?_
    refine tn_getI (ci := 1) (i := 1) (n := 6) (t := σ.2.1 6 x5) dX4_rowsNeeded_33 rfl lay_1 (by decide) fl4_23 hk7o rfl rfl (rfl) ?_
    have g9 : ((0 : Int) ≤ σ.2.1 6 x5 ∧ σ.2.1 6 x5 ≤ 5000) ∧ ((T x5).1 = 50 → σ.2.1 6 x5 ≤ 200) := wf_6 hw hk7o
    have g9x := g9.2
    replace g9 := g9.1
    have g9x := g9x hk7
    refine tn_icmp_ge (tgt := 67) dX4_rowsNeeded_36 (by decide) ⟨by omega, by omega⟩ ⟨by omega, by omega⟩ (fun h10 => ?_) (fun h10 => ?_)
    · exact tn_sub [0, 1, 2] rfl (hx_67 (i1) (i2) (by omega) (by omega) (by omega))
    · refine tn_iload_n dX4_rowsNeeded_39 rfl 1 rfl ?_
      refine tn_aload_n dX4_rowsNeeded_40 rfl 0 rfl ?_
      refine tn_getR (ci := 4) (i := 3) (n := 26) (x := x5) dX4_rowsNeeded_41 rfl lay_4 (by decide) fl4_33 h_a rfl rfl (hx6) ?_
      refine tn_iload_n dX4_rowsNeeded_44 rfl 2 rfl ?_
      refine tn_iconst dX4_rowsNeeded_45 ?_
      refine tn_callV (M := m_X4_rowsNeeded) (pc := 46) (ix := 29) (ci := 1) (M' := m_X1_get) (As := [.int (iI i2), .int (iI 0)]) (rest := [.int (iI i1)]) dX4_rowsNeeded_46 ok_X1_get im_X1_get se_X1_get ml4_29 np_X1_get rfl rfl hk7o rfl (Nat.le_of_ble_eq_true rfl) (Nat.le_of_ble_eq_true rfl) rfl (k_X1_get (d + 2) (T := T) (σ := σ) (a := x5) (k := i2) (c := 0) hk7o (by omega) (by decide) hw (by omega)) (fun r11 T13 σ12 gt14 hp => ?_)
      obtain ⟨v16, rfl, rfl, rfl, f15⟩ := hp
      clear gt14
      show Tn _ _ 49 T σ [(0, .ref a), (1, .int (iI i1)), (2, .int (iI i2))] [.int (iI v16), .int (iI i1)] _
      refine tn_bipush dX4_rowsNeeded_49 (by decide) ?_
      refine tn_icmp_ne (tgt := 58) dX4_rowsNeeded_51 (by decide) ⟨by omega, by omega⟩ ⟨by decide, by decide⟩ (fun h17 => ?_) (fun h17 => ?_)
      · refine tn_iconst dX4_rowsNeeded_58 ?_
        refine tn_iadd dX4_rowsNeeded_59 ?_
        refine tn_istore_n (L' := [(1, .int (iI (i1 + 0))), (0, .ref a), (2, .int (iI i2))]) dX4_rowsNeeded_60 rfl (by decide) rfl ?_
        refine tn_iinc (q0 := 2) (L' := [(2, .int (iI (i2 + 1))), (1, .int (iI (i1 + 0))), (0, .ref a)]) dX4_rowsNeeded_61 rfl (by decide) rfl ?_
        refine tn_goto (tgt := 28) dX4_rowsNeeded_64 (by decide) ?_
        exact tn_sub [2, 1, 0] rfl (ih _ (by omega) (i1 + 0) (i2 + 1) (by omega) (by omega) (by omega) rfl)
      · refine tn_iconst dX4_rowsNeeded_54 ?_
        refine tn_goto (tgt := 59) dX4_rowsNeeded_55 (by decide) ?_
        refine tn_iadd dX4_rowsNeeded_59 ?_
        refine tn_istore_n (L' := [(1, .int (iI (i1 + 1))), (0, .ref a), (2, .int (iI i2))]) dX4_rowsNeeded_60 rfl (by decide) rfl ?_
        refine tn_iinc (q0 := 2) (L' := [(2, .int (iI (i2 + 1))), (1, .int (iI (i1 + 1))), (0, .ref a)]) dX4_rowsNeeded_61 rfl (by decide) rfl ?_
        refine tn_goto (tgt := 28) dX4_rowsNeeded_64 (by decide) ?_
        exact tn_sub [2, 1, 0] rfl (ih _ (by omega) (i1 + 1) (i2 + 1) (by omega) (by omega) (by omega) rfl)
theorem ml4_111 : Cond.methodLink RX4 111 yX4_needsNought ∈ pWW := pw5 (List.mem_of_getElem? (i := 155) rfl) rfl
theorem dX4_rowsNeeded_67 : decode cX4_rowsNeeded 67 = .ok (.iconst 0, 1) := by decide +kernel
theorem dX4_rowsNeeded_68 : decode cX4_rowsNeeded 68 = .ok (.istore_n 2, 1) := by decide +kernel
theorem dX4_rowsNeeded_69 : decode cX4_rowsNeeded 69 = .ok (.iload_n 2, 1) := by decide +kernel
theorem dX4_rowsNeeded_70 : decode cX4_rowsNeeded 70 = .ok (.sipush 192, 3) := by decide +kernel
theorem dX4_rowsNeeded_73 : decode cX4_rowsNeeded 73 = .ok (.if_icmp .ge 25, 3) := by decide +kernel
theorem dX4_rowsNeeded_76 : decode cX4_rowsNeeded 76 = .ok (.iload_n 1, 1) := by decide +kernel
theorem dX4_rowsNeeded_77 : decode cX4_rowsNeeded 77 = .ok (.aload_n 0, 1) := by decide +kernel
theorem dX4_rowsNeeded_78 : decode cX4_rowsNeeded 78 = .ok (.iload_n 2, 1) := by decide +kernel
theorem dX4_rowsNeeded_79 : decode cX4_rowsNeeded 79 = .ok (.invokevirtual 111, 3) := by decide +kernel
theorem dX4_rowsNeeded_82 : decode cX4_rowsNeeded 82 = .ok (.ifCond .eq 7, 3) := by decide +kernel
theorem dX4_rowsNeeded_89 : decode cX4_rowsNeeded 89 = .ok (.iconst 0, 1) := by decide +kernel
theorem dX4_rowsNeeded_90 : decode cX4_rowsNeeded 90 = .ok (.iadd, 1) := by decide +kernel
theorem dX4_rowsNeeded_91 : decode cX4_rowsNeeded 91 = .ok (.istore_n 1, 1) := by decide +kernel
theorem dX4_rowsNeeded_92 : decode cX4_rowsNeeded 92 = .ok (.iinc 2 1, 3) := by decide +kernel
theorem dX4_rowsNeeded_95 : decode cX4_rowsNeeded 95 = .ok (.goto (-26), 3) := by decide +kernel
theorem dX4_rowsNeeded_85 : decode cX4_rowsNeeded 85 = .ok (.iconst 1, 1) := by decide +kernel
theorem dX4_rowsNeeded_86 : decode cX4_rowsNeeded 86 = .ok (.goto 4, 3) := by decide +kernel
set_option maxRecDepth 20000 in
theorem l_X4_rowsNeeded_69 (d : Nat) {T : CT} {σ : MS} {a : Nat} {post : Option Value → CT → MS → Prop} (h_a : OB T a 4) (hw : WT T σ) (hg : 0 ≤ σ.2.1 26 a) (hx_98 : ∀ (i1 : Int) (i2 : Int) , (0 ≤ i1 ∧ i1 ≤ 611) → (0 ≤ i2 ∧ i2 ≤ 192) → (i1 ≤ 419 + i2) → Tn (d + 4) m_X4_rowsNeeded 98 T σ [(0, .ref a), (1, .int (iI i1)), (2, .int (iI i2))] [] post) : ∀ (n : Nat) (i1 : Int) (i2 : Int) , (0 ≤ i1 ∧ i1 ≤ 611) → (0 ≤ i2 ∧ i2 ≤ 192) → (i1 ≤ 419 + i2) → (2147483700 - i2).toNat = n → Tn (d + 4) m_X4_rowsNeeded 69 T σ [(0, .ref a), (1, .int (iI i1)), (2, .int (iI i2))] [] post := by
  intro n
  induction n using Nat.strongRecOn with
  | _ n ih =>
    intro i1 i2 r_i1 r_i2 h0 hm
    refine tn_iload_n dX4_rowsNeeded_69 rfl 2 rfl ?_
    refine tn_sipush dX4_rowsNeeded_70 (by decide) ?_
    refine tn_icmp_ge (tgt := 98) dX4_rowsNeeded_73 (by decide) ⟨by omega, by omega⟩ ⟨by decide, by decide⟩ (fun h1 => ?_) (fun h1 => ?_)
    · exact tn_sub [0, 1, 2] rfl (hx_98 (i1) (i2) (by omega) (by omega) (by omega))
    · refine tn_iload_n dX4_rowsNeeded_76 rfl 1 rfl ?_
      refine tn_aload_n dX4_rowsNeeded_77 rfl 0 rfl ?_
      refine tn_iload_n dX4_rowsNeeded_78 rfl 2 rfl ?_
      refine tn_callV (M := m_X4_rowsNeeded) (pc := 79) (ix := 111) (ci := 4) (M' := m_X4_needsNought) (As := [.int (iI i2)]) (rest := [.int (iI i1)]) dX4_rowsNeeded_79 ok_X4_needsNought im_X4_needsNought se_X4_needsNought ml4_111 np_X4_needsNought rfl rfl h_a rfl (Nat.le_of_ble_eq_true rfl) (Nat.le_of_ble_eq_true rfl) rfl (k_X4_needsNought (d) (T := T) (σ := σ) (a := a) (p1 := i2) h_a (by omega) hw (by omega)) (fun r2 T4 σ3 gt5 hp => ?_)
      obtain ⟨v7, rfl, rfl, rfl, f6⟩ := hp
      clear gt5
      show Tn _ _ 82 T σ [(0, .ref a), (1, .int (iI i1)), (2, .int (iI i2))] [.int (iI v7), .int (iI i1)] _
      refine tn_if_eq (tgt := 89) dX4_rowsNeeded_82 (by decide) ⟨by omega, by omega⟩ (fun h8 => ?_) (fun h8 => ?_)
      · refine tn_iconst dX4_rowsNeeded_89 ?_
        refine tn_iadd dX4_rowsNeeded_90 ?_
        refine tn_istore_n (L' := [(1, .int (iI (i1 + 0))), (0, .ref a), (2, .int (iI i2))]) dX4_rowsNeeded_91 rfl (by decide) rfl ?_
        refine tn_iinc (q0 := 2) (L' := [(2, .int (iI (i2 + 1))), (1, .int (iI (i1 + 0))), (0, .ref a)]) dX4_rowsNeeded_92 rfl (by decide) rfl ?_
        refine tn_goto (tgt := 69) dX4_rowsNeeded_95 (by decide) ?_
        exact tn_sub [2, 1, 0] rfl (ih _ (by omega) (i1 + 0) (i2 + 1) (by omega) (by omega) (by omega) rfl)
      · refine tn_iconst dX4_rowsNeeded_85 ?_
        refine tn_goto (tgt := 90) dX4_rowsNeeded_86 (by decide) ?_
        refine tn_iadd dX4_rowsNeeded_90 ?_
        refine tn_istore_n (L' := [(1, .int (iI (i1 + 1))), (0, .ref a), (2, .int (iI i2))]) dX4_rowsNeeded_91 rfl (by decide) rfl ?_
        refine tn_iinc (q0 := 2) (L' := [(2, .int (iI (i2 + 1))), (1, .int (iI (i1 + 1))), (0, .ref a)]) dX4_rowsNeeded_92 rfl (by decide) rfl ?_
        refine tn_goto (tgt := 69) dX4_rowsNeeded_95 (by decide) ?_
        exact tn_sub [2, 1, 0] rfl (ih _ (by omega) (i1 + 1) (i2 + 1) (by omega) (by omega) (by omega) rfl)
theorem dX4_rowsNeeded_98 : decode cX4_rowsNeeded 98 = .ok (.iload_n 1, 1) := by decide +kernel
theorem dX4_rowsNeeded_99 : decode cX4_rowsNeeded 99 = .ok (.ireturn, 1) := by decide +kernel
set_option maxRecDepth 20000 in
theorem k_X4_rowsNeeded (d : Nat) {T : CT} {σ : MS} {a : Nat} (ha : OB T a 4) (hw : WT T σ) (hg : 0 ≤ σ.2.1 26 a) : Tn (d + 4) m_X4_rowsNeeded 0 T σ [(0, .ref a)] [] (fun ro T2 σ2 => ∃ v : Int, ro = some (.int (iI v)) ∧ T = T2 ∧ σ = σ2 ∧ (0 ≤ v ∧ v ≤ 1000)) := by
  refine tn_iconst dX4_rowsNeeded_0 ?_
  refine tn_aload_n dX4_rowsNeeded_1 rfl 0 rfl ?_
  have nn8 : 0 ≤ σ.2.1 26 a := (by omega)
  obtain ⟨x5, hx6, hk7⟩ := (wf_26 hw ha).resolve_left (by omega)
  have hk7o : OB T x5 1 := ⟨by omega, by rw [hk7]; rfl, by omega⟩
  refine tn_getR (ci := 4) (i := 3) (n := 26) (x := x5) dX4_rowsNeeded_2 rfl lay_4 (by decide) fl4_33 ha rfl rfl (hx6) ?_
  refine tn_getI (ci := 1) (i := 1) (n := 6) (t := σ.2.1 6 x5) dX4_rowsNeeded_5 rfl lay_1 (by decide) fl4_23 hk7o rfl rfl (rfl) ?_
  have g9 : ((0 : Int) ≤ σ.2.1 6 x5 ∧ σ.2.1 6 x5 ≤ 5000) ∧ ((T x5).1 = 50 → σ.2.1 6 x5 ≤ 200) := wf_6 hw hk7o
  have g9x := g9.2
  replace g9 := g9.1
  have g9x := g9x hk7
  refine tn_iadd dX4_rowsNeeded_8 ?_
  refine tn_aload_n dX4_rowsNeeded_9 rfl 0 rfl ?_
  refine tn_getR (ci := 4) (i := 3) (n := 26) (x := x5) dX4_rowsNeeded_10 rfl lay_4 (by decide) fl4_33 ha rfl rfl (hx6) ?_
  refine tn_getI (ci := 1) (i := 2) (n := 7) (t := σ.2.1 7 x5) dX4_rowsNeeded_13 rfl lay_1 (by decide) fl4_105 hk7o rfl rfl (rfl) ?_
  have g10 : ((0 : Int) ≤ σ.2.1 7 x5 ∧ σ.2.1 7 x5 ≤ 12) := wf_7 hw hk7o
  refine tn_iadd dX4_rowsNeeded_16 ?_
  refine tn_aload_n dX4_rowsNeeded_17 rfl 0 rfl ?_
  refine tn_getR (ci := 4) (i := 3) (n := 26) (x := x5) dX4_rowsNeeded_18 rfl lay_4 (by decide) fl4_33 ha rfl rfl (hx6) ?_
  refine tn_getI (ci := 1) (i := 3) (n := 8) (t := σ.2.1 8 x5) dX4_rowsNeeded_21 rfl lay_1 (by decide) fl4_108 hk7o rfl rfl (rfl) ?_
  have g11 : ((0 : Int) ≤ σ.2.1 8 x5 ∧ σ.2.1 8 x5 ≤ 4) := wf_8 hw hk7o
  refine tn_iadd dX4_rowsNeeded_24 ?_
  refine tn_istore_n (L' := [(1, .int (iI (((3 + (σ.2.1 6 x5)) + (σ.2.1 7 x5)) + (σ.2.1 8 x5)))), (0, .ref a)]) dX4_rowsNeeded_25 rfl (by decide) rfl ?_
  refine tn_iconst dX4_rowsNeeded_26 ?_
  refine tn_istore_n (L' := [(2, .int (iI 0)), (1, .int (iI (((3 + (σ.2.1 6 x5)) + (σ.2.1 7 x5)) + (σ.2.1 8 x5)))), (0, .ref a)]) dX4_rowsNeeded_27 rfl (by decide) rfl ?_
  refine tn_sub [2, 1, 0] rfl (l_X4_rowsNeeded_28 (d) (T := T) (σ := σ) (a := a) ha hw (by omega) (fun i112 i213 r19 r20 f21 => ?_) _ (((3 + (σ.2.1 6 x5)) + (σ.2.1 7 x5)) + (σ.2.1 8 x5)) (0) (by omega) (by omega) (by omega) rfl)
  show Tn _ _ 67 T σ [(0, .ref a), (1, .int (iI i112)), (2, .int (iI i213))] [] _
  refine tn_iconst dX4_rowsNeeded_67 ?_
  refine tn_istore_n (L' := [(2, .int (iI 0)), (0, .ref a), (1, .int (iI i112))]) dX4_rowsNeeded_68 rfl (by decide) rfl ?_
  refine tn_sub [1, 2, 0] rfl (l_X4_rowsNeeded_69 (d) (T := T) (σ := σ) (a := a) ha hw (by omega) (fun i122 i223 r29 r30 f31 => ?_) _ (i112) (0) (by omega) (by omega) (by omega) rfl)
  show Tn _ _ 98 T σ [(0, .ref a), (1, .int (iI i122)), (2, .int (iI i223))] [] _
  refine tn_iload_n dX4_rowsNeeded_98 rfl 1 rfl ?_
  exact tn_iret rfl dX4_rowsNeeded_99 ⟨_, rfl, rfl, rfl, by omega⟩
