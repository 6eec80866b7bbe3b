theorem cd_X7_find : Cond.code yX7_find cX7_find 5 (some .boolean) ∈ pWW := pw6 (List.mem_of_getElem? (i := 104) rfl) rfl
abbrev m_X7_find : MT := (yX7_find, cX7_find, 5, (some .boolean))
theorem ok_X7_find : pOk m_X7_find := ⟨⟨cd_X7_find, ini_7⟩, by decide +kernel, ⟨by decide +kernel, by decide +kernel⟩, Nat.le_of_ble_eq_true rfl⟩
theorem np_X7_find : (parseMethodDescriptor yX7_find.desc).map (fun d => d.parameters.length) = some 1 := by decide +kernel
theorem im_X7_find : Cond.instanceMethod yX7_find ∈ pWW := pw6 (List.mem_of_getElem? (i := 102) rfl) rfl
theorem se_X7_find : Cond.selects RX7 yX7_find yX7_find ∈ pWW := pw6 (List.mem_of_getElem? (i := 103) rfl) rfl
theorem dX7_find_0 : decode cX7_find 0 = .ok (.iload_n 1, 1) := by decide +kernel
theorem dX7_find_1 : decode cX7_find 1 = .ok (.ifCond .lt 27, 3) := by decide +kernel
theorem dX7_find_28 : decode cX7_find 28 = .ok (.iconst 0, 1) := by decide +kernel
theorem dX7_find_29 : decode cX7_find 29 = .ok (.ireturn, 1) := by decide +kernel
theorem dX7_find_4 : decode cX7_find 4 = .ok (.iload_n 1, 1) := by decide +kernel
theorem dX7_find_5 : decode cX7_find 5 = .ok (.aload_n 0, 1) := by decide +kernel
theorem dX7_find_6 : decode cX7_find 6 = .ok (.getfield 38, 3) := by decide +kernel
theorem dX7_find_9 : decode cX7_find 9 = .ok (.if_icmp .ge 19, 3) := by decide +kernel
theorem dX7_find_12 : decode cX7_find 12 = .ok (.aload_n 0, 1) := by decide +kernel
theorem dX7_find_13 : decode cX7_find 13 = .ok (.getfield 34, 3) := by decide +kernel
theorem dX7_find_16 : decode cX7_find 16 = .ok (.iconst 1, 1) := by decide +kernel
theorem dX7_find_17 : decode cX7_find 17 = .ok (.if_icmp .eq 13, 3) := by decide +kernel
theorem dX7_find_30 : decode cX7_find 30 = .ok (.iload_n 1, 1) := by decide +kernel
theorem dX7_find_31 : decode cX7_find 31 = .ok (.istore_n 2, 1) := by decide +kernel
theorem dX7_find_32 : decode cX7_find 32 = .ok (.aload_n 0, 1) := by decide +kernel
theorem dX7_find_33 : decode cX7_find 33 = .ok (.getfield 65, 3) := by decide +kernel
theorem dX7_find_36 : decode cX7_find 36 = .ok (.istore_n 3, 1) := by decide +kernel
theorem dX7_find_37 : decode cX7_find 37 = .ok (.iload_n 3, 1) := by decide +kernel
theorem dX7_find_38 : decode cX7_find 38 = .ok (.ifCond .lt 62, 3) := by decide +kernel
theorem dX7_find_41 : decode cX7_find 41 = .ok (.aload_n 0, 1) := by decide +kernel
theorem dX7_find_42 : decode cX7_find 42 = .ok (.iload_n 3, 1) := by decide +kernel
theorem dX7_find_43 : decode cX7_find 43 = .ok (.invokevirtual 140, 3) := by decide +kernel
theorem dX7_find_46 : decode cX7_find 46 = .ok (.istore 4, 2) := by decide +kernel
theorem dX7_find_48 : decode cX7_find 48 = .ok (.iload_n 2, 1) := by decide +kernel
theorem dX7_find_49 : decode cX7_find 49 = .ok (.iload 4, 2) := by decide +kernel
theorem dX7_find_51 : decode cX7_find 51 = .ok (.if_icmp .ge 38, 3) := by decide +kernel
theorem dX7_find_89 : decode cX7_find 89 = .ok (.iload_n 2, 1) := by decide +kernel
theorem dX7_find_90 : decode cX7_find 90 = .ok (.iload 4, 2) := by decide +kernel
theorem dX7_find_92 : decode cX7_find 92 = .ok (.isub, 1) := by decide +kernel
theorem dX7_find_93 : decode cX7_find 93 = .ok (.istore_n 2, 1) := by decide +kernel
theorem dX7_find_94 : decode cX7_find 94 = .ok (.iinc 3 (-1), 3) := by decide +kernel
theorem dX7_find_97 : decode cX7_find 97 = .ok (.goto (-60), 3) := by decide +kernel
set_option maxRecDepth 20000 in
theorem l_X7_find_37 (d : Nat) {T : CT} {σ : MS} {a : Nat} {post : Option Value → CT → MS → Prop} (h_a : OB T a 7) (hw : WT T σ) (hx_54 : ∀ (i2 : Int) (i3 : Int) , (-2147483648 ≤ i2 ∧ i2 ≤ 2147483647) → (-1 ≤ i3 ∧ i3 ≤ 11184800) → Tn (d + 4) m_X7_find 54 T σ [(0, .ref a), (2, .int (iI i2)), (3, .int (iI i3))] [] post) (hx_100 : ∀ (i2 : Int) (i3 : Int) , (-2147483648 ≤ i2 ∧ i2 ≤ 2147483647) → (-1 ≤ i3 ∧ i3 ≤ 11184800) → Tn (d + 4) m_X7_find 100 T σ [(0, .ref a), (2, .int (iI i2)), (3, .int (iI i3))] [] post) : ∀ (n : Nat) (i2 : Int) (i3 : Int) , (-2147483648 ≤ i2 ∧ i2 ≤ 2147483647) → (-1 ≤ i3 ∧ i3 ≤ 11184800) → (i3 + 20).toNat = n → Tn (d + 4) m_X7_find 37 T σ [(0, .ref a), (2, .int (iI i2)), (3, .int (iI i3))] [] post := by
  intro n
  induction n using Nat.strongRecOn with
  | _ n ih =>
    intro i2 i3 r_i2 r_i3 hm
    refine tn_iload_n dX7_find_37 rfl 2 rfl ?_
    refine tn_if_lt (tgt := 100) dX7_find_38 (by decide) ⟨by omega, by omega⟩ (fun h1 => ?_) (fun h1 => ?_)
    · exact tn_sub [0, 1, 2] rfl (hx_100 (i2) (i3) (by omega) (by omega))
    · refine tn_aload_n dX7_find_41 rfl 0 rfl ?_
      refine tn_iload_n dX7_find_42 rfl 2 rfl ?_
      refine tn_callV (M := m_X7_find) (pc := 43) (ix := 140) (ci := 7) (M' := m_X7_chainOf) (As := [.int (iI i3)]) (rest := []) dX7_find_43 ok_X7_chainOf im_X7_chainOf se_X7_chainOf ml7_140 np_X7_chainOf rfl rfl h_a rfl (Nat.le_of_ble_eq_true rfl) (Nat.le_of_ble_eq_true rfl) rfl (k_X7_chainOf (d + 1) (T := T) (σ := σ) (a := a) (p1 := i3) h_a (by omega) hw ) (fun r2 T4 σ3 gt5 hp => ?_)
      obtain ⟨v7, rfl, rfl, rfl, f6⟩ := hp
      clear gt5
      show Tn _ _ 46 T σ [(0, .ref a), (2, .int (iI i2)), (3, .int (iI i3))] [.int (iI v7)] _
      refine tn_istore (L' := [(4, .int (iI v7)), (0, .ref a), (2, .int (iI i2)), (3, .int (iI i3))]) dX7_find_46 (by decide) rfl ?_
      refine tn_iload_n dX7_find_48 rfl 2 rfl ?_
      refine tn_iload dX7_find_49 0 rfl ?_
      refine tn_icmp_ge (tgt := 89) dX7_find_51 (by decide) ⟨by omega, by omega⟩ ⟨by omega, by omega⟩ (fun h8 => ?_) (fun h8 => ?_)
      · refine tn_iload_n dX7_find_89 rfl 2 rfl ?_
        refine tn_iload dX7_find_90 0 rfl ?_
        refine tn_isub dX7_find_92 ?_
        refine tn_any (fun z9 g10 => ?_)
        have g10r : -2147483648 ≤ z9 ∧ z9 ≤ 2147483647 := g10
        refine tn_istore_n (L' := [(2, .int (iI z9)), (4, .int (iI v7)), (0, .ref a), (3, .int (iI i3))]) dX7_find_93 rfl (by decide) rfl ?_
        refine tn_iinc (q0 := 3) (L' := [(3, .int (iI (i3 + (-1)))), (2, .int (iI z9)), (4, .int (iI v7)), (0, .ref a)]) dX7_find_94 rfl (by decide) rfl ?_
        refine tn_goto (tgt := 37) dX7_find_97 (by decide) ?_
        exact tn_sub [3, 1, 0] rfl (ih _ (by omega) (z9) (i3 + (-1)) (by omega) (by omega) rfl)
      · exact tn_sub [1, 2, 3] rfl (hx_54 (i2) (i3) (by omega) (by omega))
theorem ml7_149 : Cond.methodLink RX7 149 yX7_climb ∈ pWW := pw6 (List.mem_of_getElem? (i := 105) rfl) rfl
theorem dX7_find_54 : decode cX7_find 54 = .ok (.aload_n 0, 1) := by decide +kernel
theorem dX7_find_55 : decode cX7_find 55 = .ok (.iload_n 3, 1) := by decide +kernel
theorem dX7_find_56 : decode cX7_find 56 = .ok (.putfield 143, 3) := by decide +kernel
theorem dX7_find_59 : decode cX7_find 59 = .ok (.aload_n 0, 1) := by decide +kernel
theorem dX7_find_60 : decode cX7_find 60 = .ok (.aload_n 0, 1) := by decide +kernel
theorem dX7_find_61 : decode cX7_find 61 = .ok (.getfield 18, 3) := by decide +kernel
theorem dX7_find_64 : decode cX7_find 64 = .ok (.iload_n 3, 1) := by decide +kernel
theorem dX7_find_65 : decode cX7_find 65 = .ok (.invokestatic 91, 3) := by decide +kernel
theorem dX7_find_68 : decode cX7_find 68 = .ok (.putfield 146, 3) := by decide +kernel
theorem dX7_find_71 : decode cX7_find 71 = .ok (.aload_n 0, 1) := by decide +kernel
theorem dX7_find_72 : decode cX7_find 72 = .ok (.iload_n 2, 1) := by decide +kernel
theorem dX7_find_73 : decode cX7_find 73 = .ok (.invokevirtual 149, 3) := by decide +kernel
theorem dX7_find_76 : decode cX7_find 76 = .ok (.aload_n 0, 1) := by decide +kernel
theorem dX7_find_77 : decode cX7_find 77 = .ok (.invokevirtual 152, 3) := by decide +kernel
theorem dX7_find_80 : decode cX7_find 80 = .ok (.ifnull 7, 3) := by decide +kernel
theorem dX7_find_87 : decode cX7_find 87 = .ok (.iconst 0, 1) := by decide +kernel
theorem dX7_find_88 : decode cX7_find 88 = .ok (.ireturn, 1) := by decide +kernel
theorem dX7_find_83 : decode cX7_find 83 = .ok (.iconst 1, 1) := by decide +kernel
theorem dX7_find_84 : decode cX7_find 84 = .ok (.goto 4, 3) := by decide +kernel
theorem dX7_find_100 : decode cX7_find 100 = .ok (.iconst 0, 1) := by decide +kernel
theorem dX7_find_101 : decode cX7_find 101 = .ok (.ireturn, 1) := by decide +kernel
theorem dX7_find_20 : decode cX7_find 20 = .ok (.aload_n 0, 1) := by decide +kernel
theorem dX7_find_21 : decode cX7_find 21 = .ok (.getfield 34, 3) := by decide +kernel
theorem dX7_find_24 : decode cX7_find 24 = .ok (.iconst 3, 1) := by decide +kernel
theorem dX7_find_25 : decode cX7_find 25 = .ok (.if_icmp .eq 5, 3) := by decide +kernel
set_option maxRecDepth 20000 in
theorem k_X7_find (d : Nat) {T : CT} {σ : MS} {a : Nat} {k : Int} (ha : OB T a 7) (h_k : -2147483648 ≤ k ∧ k ≤ 2147483647) (hw : WT T σ) : Tn (d + 4) m_X7_find 0 T σ [(0, .ref a), (1, .int (iI k))] [] (fun ro T2 σ2 => ∃ v : Int, ro = some (.int (iI v)) ∧ T = T2 ∧ WT T2 σ2 ∧ FrC T [70, 71] σ σ2 ∧ (v = 0 ∨ v = 1) ∧ (v = 1 → 0 ≤ FRV T σ2 a ∧ FRV T σ2 a ≤ 5)) := by
  refine tn_iload_n dX7_find_0 rfl 1 rfl ?_
  refine tn_if_lt (tgt := 28) dX7_find_1 (by decide) ⟨by omega, by omega⟩ (fun h1 => ?_) (fun h1 => ?_)
  · refine tn_iconst dX7_find_28 ?_
    exact tn_zret (v := 0) rfl (by decide) dX7_find_29 ⟨_, rfl, rfl, hw, FrC.rfl, by omega, fun q => absurd q (by decide)⟩
  · refine tn_iload_n dX7_find_4 rfl 1 rfl ?_
    refine tn_aload_n dX7_find_5 rfl 0 rfl ?_
    refine tn_getI (ci := 7) (i := 3) (n := 58) (t := σ.2.1 58 a) dX7_find_6 rfl lay_7 (by decide) fl7_38 ha rfl rfl (rfl) ?_
    have g2 : ((-2147483648 : Int) ≤ σ.2.1 58 a ∧ σ.2.1 58 a ≤ 2147483647) := wf_58 hw ha
    refine tn_icmp_ge (tgt := 28) dX7_find_9 (by decide) ⟨by omega, by omega⟩ ⟨by omega, by omega⟩ (fun h3 => ?_) (fun h3 => ?_)
    · refine tn_iconst dX7_find_28 ?_
      exact tn_zret (v := 0) rfl (by decide) dX7_find_29 ⟨_, rfl, rfl, hw, FrC.rfl, by omega, fun q => absurd q (by decide)⟩
    · refine tn_aload_n dX7_find_12 rfl 0 rfl ?_
      refine tn_getI (ci := 7) (i := 1) (n := 56) (t := σ.2.1 56 a) dX7_find_13 rfl lay_7 (by decide) fl7_34 ha rfl rfl (rfl) ?_
      have g4 : ((-2147483648 : Int) ≤ σ.2.1 56 a ∧ σ.2.1 56 a ≤ 2147483647) := wf_56 hw ha
      refine tn_iconst dX7_find_16 ?_
      refine tn_icmp_eq (tgt := 30) dX7_find_17 (by decide) ⟨by omega, by omega⟩ ⟨by decide, by decide⟩ (fun h5 => ?_) (fun h5 => ?_)
      · refine tn_iload_n dX7_find_30 rfl 1 rfl ?_
        refine tn_istore_n (L' := [(2, .int (iI k)), (0, .ref a), (1, .int (iI k))]) dX7_find_31 rfl (by decide) rfl ?_
        refine tn_aload_n dX7_find_32 rfl 1 rfl ?_
        refine tn_getI (ci := 7) (i := 2) (n := 57) (t := σ.2.1 57 a) dX7_find_33 rfl lay_7 (by decide) fl7_65 ha rfl rfl (rfl) ?_
        have g6 : ((0 : Int) ≤ σ.2.1 57 a ∧ σ.2.1 57 a ≤ 11184800) ∧ ((T a).1 = 57 → σ.2.1 57 a ≤ 8) := wf_57 hw ha
        have g6x := g6.2
        replace g6 := g6.1
        clear g6x
        refine tn_istore_n (L' := [(3, .int (iI (σ.2.1 57 a))), (2, .int (iI k)), (0, .ref a), (1, .int (iI k))]) dX7_find_36 rfl (by decide) rfl ?_
        refine tn_sub [2, 1, 0] rfl (l_X7_find_37 (d) (T := T) (σ := σ) (a := a) ha hw (fun i27 i38 r14 r15 => ?_) (fun i216 i317 r23 r24 => ?_) _ (k) (σ.2.1 57 a) (by omega) (by omega) rfl)
        · show Tn _ _ 54 T σ [(0, .ref a), (2, .int (iI i27)), (3, .int (iI i38))] [] _
          refine tn_aload_n dX7_find_54 rfl 0 rfl ?_
          refine tn_iload_n dX7_find_55 rfl 2 rfl ?_
          refine tn_putV (ci := 7) (i := 15) (n := 70) (r := false) (v := i38) tyX7 tyX7_ok nmX7 dX7_find_56 rfl lay_7 (by decide) fl7_143 rfl (tyX7_ok 15 (by decide)) rfl rfl rfl ha rfl rfl ?_
          refine tn_aload_n dX7_find_59 rfl 0 rfl ?_
          refine tn_aload_n dX7_find_60 rfl 0 rfl ?_
          obtain ⟨x25, hx26, hl28, hk27a, hk27b⟩ := wf_61 hw ha
          have hk27i : IA T x25 := by unfold IA; omega
          have hk27n : NH T x25 := by unfold NH HT; omega
          clear hk27a hk27b
          refine tn_getR (ci := 7) (i := 6) (n := 61) (x := x25) dX7_find_61 rfl lay_7 (by decide) fl7_18 ha rfl rfl (rc_o (by decide) (hx26)) ?_
          refine tn_iload_n dX7_find_64 rfl 2 rfl ?_
          refine tn_callSN (M := m_X7_find) (pc := 65) (ix := 91) (M' := m_X11_at) (As := [.ref x25, .int (iI i38)]) (rest := [.ref a]) dX7_find_65 ok_X11_at stt_X11_at nl7_91 np_X11_at rfl (Nat.le_of_ble_eq_true rfl) (Nat.le_of_ble_eq_true rfl) rfl (k_X11_at (d + 2) (T := T) (σ := (sA 70 a (i38) σ)) (x := x25) (i := i38) hk27i (by omega) (by omega) (hw.put (by decide) (by decide) (fo_70 (by omega))) ) (fun r29 T31 σ30 gt32 hp => ?_)
          obtain ⟨v36, rfl, rfl, rfl, f33, f34, f35⟩ := hp
          clear gt32
          clear f34 f35
          show Tn _ _ 68 T (sA 70 a (i38) σ) [(0, .ref a), (2, .int (iI i27)), (3, .int (iI i38))] [.int (iI v36), .ref a] _
          refine tn_putV (ci := 7) (i := 16) (n := 71) (r := false) (v := v36) tyX7 tyX7_ok nmX7 dX7_find_68 rfl lay_7 (by decide) fl7_146 rfl (tyX7_ok 16 (by decide)) rfl rfl rfl ha rfl rfl ?_
          refine tn_aload_n dX7_find_71 rfl 0 rfl ?_
          refine tn_iload_n dX7_find_72 rfl 1 rfl ?_
          refine tn_callV (M := m_X7_find) (pc := 73) (ix := 149) (ci := 7) (M' := m_X7_climb) (As := [.int (iI i27)]) (rest := []) dX7_find_73 ok_X7_climb im_X7_climb se_X7_climb ml7_149 np_X7_climb rfl rfl ha rfl (Nat.le_of_ble_eq_true rfl) (Nat.le_of_ble_eq_true rfl) rfl (k_X7_climb (d) (T := T) (σ := (sA 71 a (v36) (sA 70 a (i38) σ))) (a := a) (p1 := i27) ha (by omega) ((hw.put (by decide) (by decide) (fo_70 (by omega))).put (by decide) (by decide) (fo_71 (by omega))) ) (fun r37 T39 σ38 gt40 hp => ?_)
          obtain ⟨rfl, rfl, w42, F43⟩ := hp
          clear gt40
          show Tn _ _ 76 T σ38 [(0, .ref a), (2, .int (iI i27)), (3, .int (iI i38))] [] _
          refine tn_aload_n dX7_find_76 rfl 0 rfl ?_
          refine tn_callV (M := m_X7_find) (pc := 77) (ix := 152) (ci := 7) (M' := m_X7_foundCode) (As := []) (rest := []) dX7_find_77 ok_X7_foundCode im_X7_foundCode se_X7_foundCode ml7_152 np_X7_foundCode rfl rfl ha rfl (Nat.le_of_ble_eq_true rfl) (Nat.le_of_ble_eq_true rfl) rfl (k_X7_foundCode (d + 1) (T := T) (σ := σ38) (a := a) ha w42 ) (fun r44 T46 σ45 gt47 hp => ?_)
          obtain ⟨v49, rfl, rfl, rfl, rv50, f48⟩ := hp
          clear gt47
          rcases rv50 with rv50 | ⟨x51, rfl, hk52⟩
          · show Tn _ _ 80 T σ38 [(0, .ref a), (2, .int (iI i27)), (3, .int (iI i38))] (vl true v49 :: []) _
            rw [vl_null rv50]
            refine tn_ifnullN (tgt := 87) dX7_find_80 (by decide) ?_
            refine tn_iconst dX7_find_87 ?_
            exact tn_zret (v := 0) rfl (by decide) dX7_find_88 ⟨_, rfl, rfl, w42, (((FrC.rfl.put (by decide) (by decide)).put (by decide) (by decide)).trans (FrC.sub F43 (by decide))), by omega, fun q => absurd q (by decide)⟩
          · show Tn _ _ 80 T σ38 [(0, .ref a), (2, .int (iI i27)), (3, .int (iI i38))] (vl true (x51 : Int) :: []) _
            rw [vl_ref rfl]
            have hk52o : OB T x51 1 := hk52.1
            refine tn_ifnull dX7_find_80 ?_
            refine tn_iconst dX7_find_83 ?_
            refine tn_goto (tgt := 88) dX7_find_84 (by decide) ?_
            exact tn_zret (v := 1) rfl (by decide) dX7_find_88 ⟨_, rfl, rfl, w42, (((FrC.rfl.put (by decide) (by decide)).put (by decide) (by decide)).trans (FrC.sub F43 (by decide))), by omega, fun _ => by have q9 := f48; unfold CAT at q9; omega⟩
        · show Tn _ _ 100 T σ [(0, .ref a), (2, .int (iI i216)), (3, .int (iI i317))] [] _
          refine tn_iconst dX7_find_100 ?_
          exact tn_zret (v := 0) rfl (by decide) dX7_find_101 ⟨_, rfl, rfl, hw, FrC.rfl, by omega, fun q => absurd q (by decide)⟩
      · refine tn_aload_n dX7_find_20 rfl 0 rfl ?_
        refine tn_getI (ci := 7) (i := 1) (n := 56) (t := σ.2.1 56 a) dX7_find_21 rfl lay_7 (by decide) fl7_34 ha rfl rfl (rfl) ?_
        refine tn_iconst dX7_find_24 ?_
        refine tn_icmp_eq (tgt := 30) dX7_find_25 (by decide) ⟨by omega, by omega⟩ ⟨by decide, by decide⟩ (fun h53 => ?_) (fun h53 => ?_)
        · refine tn_iload_n dX7_find_30 rfl 1 rfl ?_
          refine tn_istore_n (L' := [(2, .int (iI k)), (0, .ref a), (1, .int (iI k))]) dX7_find_31 rfl (by decide) rfl ?_
          refine tn_aload_n dX7_find_32 rfl 1 rfl ?_
          refine tn_getI (ci := 7) (i := 2) (n := 57) (t := σ.2.1 57 a) dX7_find_33 rfl lay_7 (by decide) fl7_65 ha rfl rfl (rfl) ?_
          have g54 : ((0 : Int) ≤ σ.2.1 57 a ∧ σ.2.1 57 a ≤ 11184800) ∧ ((T a).1 = 57 → σ.2.1 57 a ≤ 8) := wf_57 hw ha
          have g54x := g54.2
          replace g54 := g54.1
          clear g54x
          refine tn_istore_n (L' := [(3, .int (iI (σ.2.1 57 a))), (2, .int (iI k)), (0, .ref a), (1, .int (iI k))]) dX7_find_36 rfl (by decide) rfl ?_
          refine tn_sub [2, 1, 0] rfl (l_X7_find_37 (d) (T := T) (σ := σ) (a := a) ha hw (fun i255 i356 r62 r63 => ?_) (fun i264 i365 r71 r72 => ?_) _ (k) (σ.2.1 57 a) (by omega) (by omega) rfl)
          · show Tn _ _ 54 T σ [(0, .ref a), (2, .int (iI i255)), (3, .int (iI i356))] [] _
            refine tn_aload_n dX7_find_54 rfl 0 rfl ?_
            refine tn_iload_n dX7_find_55 rfl 2 rfl ?_
            refine tn_putV (ci := 7) (i := 15) (n := 70) (r := false) (v := i356) tyX7 tyX7_ok nmX7 dX7_find_56 rfl lay_7 (by decide) fl7_143 rfl (tyX7_ok 15 (by decide)) rfl rfl rfl ha rfl rfl ?_
            refine tn_aload_n dX7_find_59 rfl 0 rfl ?_
            refine tn_aload_n dX7_find_60 rfl 0 rfl ?_
            obtain ⟨x73, hx74, hl76, hk75a, hk75b⟩ := wf_61 hw ha
            have hk75i : IA T x73 := by unfold IA; omega
            have hk75n : NH T x73 := by unfold NH HT; omega
            clear hk75a hk75b
            refine tn_getR (ci := 7) (i := 6) (n := 61) (x := x73) dX7_find_61 rfl lay_7 (by decide) fl7_18 ha rfl rfl (rc_o (by decide) (hx74)) ?_
            refine tn_iload_n dX7_find_64 rfl 2 rfl ?_
            refine tn_callSN (M := m_X7_find) (pc := 65) (ix := 91) (M' := m_X11_at) (As := [.ref x73, .int (iI i356)]) (rest := [.ref a]) dX7_find_65 ok_X11_at stt_X11_at nl7_91 np_X11_at rfl (Nat.le_of_ble_eq_true rfl) (Nat.le_of_ble_eq_true rfl) rfl (k_X11_at (d + 2) (T := T) (σ := (sA 70 a (i356) σ)) (x := x73) (i := i356) hk75i (by omega) (by omega) (hw.put (by decide) (by decide) (fo_70 (by omega))) ) (fun r77 T79 σ78 gt80 hp => ?_)
            obtain ⟨v84, rfl, rfl, rfl, f81, f82, f83⟩ := hp
            clear gt80
            clear f82 f83
            show Tn _ _ 68 T (sA 70 a (i356) σ) [(0, .ref a), (2, .int (iI i255)), (3, .int (iI i356))] [.int (iI v84), .ref a] _
            refine tn_putV (ci := 7) (i := 16) (n := 71) (r := false) (v := v84) tyX7 tyX7_ok nmX7 dX7_find_68 rfl lay_7 (by decide) fl7_146 rfl (tyX7_ok 16 (by decide)) rfl rfl rfl ha rfl rfl ?_
            refine tn_aload_n dX7_find_71 rfl 0 rfl ?_
            refine tn_iload_n dX7_find_72 rfl 1 rfl ?_
            refine tn_callV (M := m_X7_find) (pc := 73) (ix := 149) (ci := 7) (M' := m_X7_climb) (As := [.int (iI i255)]) (rest := []) dX7_find_73 ok_X7_climb im_X7_climb se_X7_climb ml7_149 np_X7_climb rfl rfl ha rfl (Nat.le_of_ble_eq_true rfl) (Nat.le_of_ble_eq_true rfl) rfl (k_X7_climb (d) (T := T) (σ := (sA 71 a (v84) (sA 70 a (i356) σ))) (a := a) (p1 := i255) ha (by omega) ((hw.put (by decide) (by decide) (fo_70 (by omega))).put (by decide) (by decide) (fo_71 (by omega))) ) (fun r85 T87 σ86 gt88 hp => ?_)
            obtain ⟨rfl, rfl, w90, F91⟩ := hp
            clear gt88
            show Tn _ _ 76 T σ86 [(0, .ref a), (2, .int (iI i255)), (3, .int (iI i356))] [] _
            refine tn_aload_n dX7_find_76 rfl 0 rfl ?_
            refine tn_callV (M := m_X7_find) (pc := 77) (ix := 152) (ci := 7) (M' := m_X7_foundCode) (As := []) (rest := []) dX7_find_77 ok_X7_foundCode im_X7_foundCode se_X7_foundCode ml7_152 np_X7_foundCode rfl rfl ha rfl (Nat.le_of_ble_eq_true rfl) (Nat.le_of_ble_eq_true rfl) rfl (k_X7_foundCode (d + 1) (T := T) (σ := σ86) (a := a) ha w90 ) (fun r92 T94 σ93 gt95 hp => ?_)
            obtain ⟨v97, rfl, rfl, rfl, rv98, f96⟩ := hp
            clear gt95
            rcases rv98 with rv98 | ⟨x99, rfl, hk100⟩
            · show Tn _ _ 80 T σ86 [(0, .ref a), (2, .int (iI i255)), (3, .int (iI i356))] (vl true v97 :: []) _
              rw [vl_null rv98]
              refine tn_ifnullN (tgt := 87) dX7_find_80 (by decide) ?_
              refine tn_iconst dX7_find_87 ?_
              exact tn_zret (v := 0) rfl (by decide) dX7_find_88 ⟨_, rfl, rfl, w90, (((FrC.rfl.put (by decide) (by decide)).put (by decide) (by decide)).trans (FrC.sub F91 (by decide))), by omega, fun q => absurd q (by decide)⟩
            · show Tn _ _ 80 T σ86 [(0, .ref a), (2, .int (iI i255)), (3, .int (iI i356))] (vl true (x99 : Int) :: []) _
              rw [vl_ref rfl]
              have hk100o : OB T x99 1 := hk100.1
              refine tn_ifnull dX7_find_80 ?_
              refine tn_iconst dX7_find_83 ?_
              refine tn_goto (tgt := 88) dX7_find_84 (by decide) ?_
              exact tn_zret (v := 1) rfl (by decide) dX7_find_88 ⟨_, rfl, rfl, w90, (((FrC.rfl.put (by decide) (by decide)).put (by decide) (by decide)).trans (FrC.sub F91 (by decide))), by omega, fun _ => by have q9 := f96; unfold CAT at q9; omega⟩
          · show Tn _ _ 100 T σ [(0, .ref a), (2, .int (iI i264)), (3, .int (iI i365))] [] _
            refine tn_iconst dX7_find_100 ?_
            exact tn_zret (v := 0) rfl (by decide) dX7_find_101 ⟨_, rfl, rfl, hw, FrC.rfl, by omega, fun q => absurd q (by decide)⟩
        · refine tn_iconst dX7_find_28 ?_
          exact tn_zret (v := 0) rfl (by decide) dX7_find_29 ⟨_, rfl, rfl, hw, FrC.rfl, by omega, fun q => absurd q (by decide)⟩
