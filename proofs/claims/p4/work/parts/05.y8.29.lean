theorem cd_X7_chainOf : Cond.code yX7_chainOf cX7_chainOf 5 (some .int) ∈ pWW := pw6 (List.mem_of_getElem? (i := 86) rfl) rfl
abbrev m_X7_chainOf : MT := (yX7_chainOf, cX7_chainOf, 5, (some .int))
theorem ok_X7_chainOf : pOk m_X7_chainOf := ⟨⟨cd_X7_chainOf, ini_7⟩, by decide +kernel, ⟨by decide +kernel, by decide +kernel⟩, Nat.le_of_ble_eq_true rfl⟩
theorem np_X7_chainOf : (parseMethodDescriptor yX7_chainOf.desc).map (fun d => d.parameters.length) = some 1 := by decide +kernel
theorem im_X7_chainOf : Cond.instanceMethod yX7_chainOf ∈ pWW := pw6 (List.mem_of_getElem? (i := 85) rfl) rfl
theorem se_X7_chainOf : Cond.selects RX7 yX7_chainOf yX7_chainOf ∈ pWW := pws (List.mem_map.mpr ⟨_, lw_pin 92 rfl, rfl⟩) rfl
theorem fl7_9 : Cond.fieldLink RX7 9 (TX7 4).1 (TX7 4).2.1 (TX7 4).2.2.1 ∈ pWW := pw2 (List.mem_of_getElem? (i := 141) rfl) rfl
theorem ml7_68 : Cond.methodLink RX7 68 yX7_codeAt ∈ pWW := pw6 (List.mem_of_getElem? (i := 37) rfl) rfl
theorem fl7_18 : Cond.fieldLink RX7 18 (TX7 6).1 (TX7 6).2.1 (TX7 6).2.2.1 ∈ pWW := pw2 (List.mem_of_getElem? (i := 143) rfl) rfl
theorem dX7_chainOf_0 : decode cX7_chainOf 0 = .ok (.aload_n 0, 1) := by decide +kernel
theorem dX7_chainOf_1 : decode cX7_chainOf 1 = .ok (.aload_n 0, 1) := by decide +kernel
theorem dX7_chainOf_2 : decode cX7_chainOf 2 = .ok (.getfield 9, 3) := by decide +kernel
theorem dX7_chainOf_5 : decode cX7_chainOf 5 = .ok (.iload_n 1, 1) := by decide +kernel
theorem dX7_chainOf_6 : decode cX7_chainOf 6 = .ok (.invokestatic 91, 3) := by decide +kernel
theorem dX7_chainOf_9 : decode cX7_chainOf 9 = .ok (.invokevirtual 68, 3) := by decide +kernel
theorem dX7_chainOf_12 : decode cX7_chainOf 12 = .ok (.astore_n 2, 1) := by decide +kernel
theorem dX7_chainOf_13 : decode cX7_chainOf 13 = .ok (.aload_n 0, 1) := by decide +kernel
theorem dX7_chainOf_14 : decode cX7_chainOf 14 = .ok (.getfield 18, 3) := by decide +kernel
theorem dX7_chainOf_17 : decode cX7_chainOf 17 = .ok (.iload_n 1, 1) := by decide +kernel
theorem dX7_chainOf_18 : decode cX7_chainOf 18 = .ok (.invokestatic 91, 3) := by decide +kernel
theorem dX7_chainOf_21 : decode cX7_chainOf 21 = .ok (.istore_n 3, 1) := by decide +kernel
theorem dX7_chainOf_22 : decode cX7_chainOf 22 = .ok (.iconst 1, 1) := by decide +kernel
theorem dX7_chainOf_23 : decode cX7_chainOf 23 = .ok (.istore 4, 2) := by decide +kernel
theorem dX7_chainOf_25 : decode cX7_chainOf 25 = .ok (.aload_n 2, 1) := by decide +kernel
theorem dX7_chainOf_26 : decode cX7_chainOf 26 = .ok (.ifnull 29, 3) := by decide +kernel
set_option maxRecDepth 20000 in
theorem l_X7_chainOf_25 (d : Nat) {T : CT} {σ : MS} {post : Option Value → CT → MS → Prop} (hw : WT T σ) (hx_55 : ∀ (i3 : Int) (i4 : Int) , (-2147483648 ≤ i3 ∧ i3 ≤ 2147483647) → (1 ≤ i4 ∧ i4 ≤ 2147483647) → Tn (d + 2) m_X7_chainOf 55 T σ [(2, .null), (3, .int (iI i3)), (4, .int (iI i4))] [] post) : ∀ (n : Nat) (i3 : Int) (i4 : Int) , (-2147483648 ≤ i3 ∧ i3 ≤ 2147483647) → (1 ≤ i4 ∧ i4 ≤ 2147483647) → (2147483700 - i4).toNat = n → Tn (d + 2) m_X7_chainOf 25 T σ [(2, .null), (3, .int (iI i3)), (4, .int (iI i4))] [] post := by
  intro n
  induction n using Nat.strongRecOn with
  | _ n ih =>
    intro i3 i4 r_i3 r_i4 hm
    refine tn_aload_nN dX7_chainOf_25 rfl 0 rfl ?_
    refine tn_ifnullN (tgt := 55) dX7_chainOf_26 (by decide) ?_
    exact tn_sub [0, 1, 2] rfl (hx_55 (i3) (i4) (by omega) (by omega))
theorem fl7_126 : Cond.fieldLink RX7 126 (TX1 7).1 (TX1 7).2.1 (TX1 7).2.2.1 ∈ pWW := pw1 (List.mem_of_getElem? (i := 114) rfl) rfl
theorem dX7_chainOf_55 : decode cX7_chainOf 55 = .ok (.iload 4, 2) := by decide +kernel
theorem dX7_chainOf_57 : decode cX7_chainOf 57 = .ok (.ireturn, 1) := by decide +kernel
theorem dX7_chainOf_29 : decode cX7_chainOf 29 = .ok (.iload_n 3, 1) := by decide +kernel
theorem dX7_chainOf_30 : decode cX7_chainOf 30 = .ok (.ifCond .le 25, 3) := by decide +kernel
theorem dX7_chainOf_33 : decode cX7_chainOf 33 = .ok (.iload 4, 2) := by decide +kernel
theorem dX7_chainOf_35 : decode cX7_chainOf 35 = .ok (.bipush 12, 2) := by decide +kernel
theorem dX7_chainOf_37 : decode cX7_chainOf 37 = .ok (.if_icmp .gt 18, 3) := by decide +kernel
theorem dX7_chainOf_40 : decode cX7_chainOf 40 = .ok (.aload_n 2, 1) := by decide +kernel
theorem dX7_chainOf_41 : decode cX7_chainOf 41 = .ok (.getfield 126, 3) := by decide +kernel
theorem dX7_chainOf_44 : decode cX7_chainOf 44 = .ok (.iload_n 3, 1) := by decide +kernel
theorem dX7_chainOf_45 : decode cX7_chainOf 45 = .ok (.invokestatic 91, 3) := by decide +kernel
theorem dX7_chainOf_48 : decode cX7_chainOf 48 = .ok (.istore_n 3, 1) := by decide +kernel
theorem dX7_chainOf_49 : decode cX7_chainOf 49 = .ok (.iinc 4 1, 3) := by decide +kernel
theorem dX7_chainOf_52 : decode cX7_chainOf 52 = .ok (.goto (-27), 3) := by decide +kernel
set_option maxRecDepth 20000 in
theorem l_X7_chainOf_25_1 (d : Nat) {T : CT} {σ : MS} {rx2 : Nat} {post : Option Value → CT → MS → Prop} (h_rx2 : OB T rx2 1) (hw : WT T σ) (hx_55 : ∀ (i3 : Int) (i4 : Int) , (-2147483648 ≤ i3 ∧ i3 ≤ 2147483647) → (1 ≤ i4 ∧ i4 ≤ 2147483647) → Tn (d + 2) m_X7_chainOf 55 T σ [(2, .ref rx2), (3, .int (iI i3)), (4, .int (iI i4))] [] post) : ∀ (n : Nat) (i3 : Int) (i4 : Int) , (-2147483648 ≤ i3 ∧ i3 ≤ 2147483647) → (1 ≤ i4 ∧ i4 ≤ 2147483647) → (2147483700 - i4).toNat = n → Tn (d + 2) m_X7_chainOf 25 T σ [(2, .ref rx2), (3, .int (iI i3)), (4, .int (iI i4))] [] post := by
  intro n
  induction n using Nat.strongRecOn with
  | _ n ih =>
    intro i3 i4 r_i3 r_i4 hm
    refine tn_aload_n dX7_chainOf_25 rfl 0 rfl ?_
    refine tn_ifnull dX7_chainOf_26 ?_
    refine tn_iload_n dX7_chainOf_29 rfl 1 rfl ?_
    refine tn_if_le (tgt := 55) dX7_chainOf_30 (by decide) ⟨by omega, by omega⟩ (fun h1 => ?_) (fun h1 => ?_)
    · exact tn_sub [0, 1, 2] rfl (hx_55 (i3) (i4) (by omega) (by omega))
    · refine tn_iload dX7_chainOf_33 2 rfl ?_
      refine tn_bipush dX7_chainOf_35 (by decide) ?_
      refine tn_icmp_gt (tgt := 55) dX7_chainOf_37 (by decide) ⟨by omega, by omega⟩ ⟨by decide, by decide⟩ (fun h2 => ?_) (fun h2 => ?_)
      · exact tn_sub [0, 1, 2] rfl (hx_55 (i3) (i4) (by omega) (by omega))
      · refine tn_aload_n dX7_chainOf_40 rfl 0 rfl ?_
        obtain ⟨x3, hx4, hk5, hl6⟩ : ∃ x : Nat, σ.2.1 12 rx2 = (x : Int) ∧ AR T x 1 12 12 := wf_12 hw h_rx2
        have hk5i : IA T x3 := by unfold IA; omega
        refine tn_getR (ci := 1) (i := 7) (n := 12) (x := x3) dX7_chainOf_41 rfl lay_1 (by decide) fl7_126 h_rx2 rfl rfl (hx4) ?_
        refine tn_iload_n dX7_chainOf_44 rfl 1 rfl ?_
        refine tn_callSN (M := m_X7_chainOf) (pc := 45) (ix := 91) (M' := m_X11_at) (As := [.ref x3, .int (iI i3)]) (rest := []) dX7_chainOf_45 ok_X11_at stt_X11_at nl7_91 np_X11_at rfl (Nat.le_of_ble_eq_true rfl) (Nat.le_of_ble_eq_true rfl) rfl (k_X11_at (d) (T := T) (σ := σ) (x := x3) (i := i3) hk5i (by omega) (by omega) hw ) (fun r7 T9 σ8 gt10 hp => ?_)
        obtain ⟨v14, rfl, rfl, rfl, f11, f12, f13⟩ := hp
        clear gt10
        clear f12 f13
        show Tn _ _ 48 T σ [(2, .ref rx2), (3, .int (iI i3)), (4, .int (iI i4))] [.int (iI v14)] _
        refine tn_istore_n (L' := [(3, .int (iI v14)), (2, .ref rx2), (4, .int (iI i4))]) dX7_chainOf_48 rfl (by decide) rfl ?_
        refine tn_iinc (q0 := 2) (L' := [(4, .int (iI (i4 + 1))), (3, .int (iI v14)), (2, .ref rx2)]) dX7_chainOf_49 rfl (by decide) rfl ?_
        refine tn_goto (tgt := 25) dX7_chainOf_52 (by decide) ?_
        exact tn_sub [2, 1, 0] rfl (ih _ (by omega) (v14) (i4 + 1) (by omega) (by omega) rfl)
set_option maxRecDepth 20000 in
theorem k_X7_chainOf (d : Nat) {T : CT} {σ : MS} {a : Nat} {p1 : Int} (ha : OB T a 7) (h_p1 : -2147483648 ≤ p1 ∧ p1 ≤ 2147483647) (hw : WT T σ) : Tn (d + 2) m_X7_chainOf 0 T σ [(0, .ref a), (1, .int (iI p1))] [] (fun ro T2 σ2 => ∃ v : Int, ro = some (.int (iI v)) ∧ T = T2 ∧ σ = σ2 ∧ (-2147483648 ≤ v ∧ v ≤ 2147483647)) := by
  refine tn_aload_n dX7_chainOf_0 rfl 0 rfl ?_
  refine tn_aload_n dX7_chainOf_1 rfl 0 rfl ?_
  obtain ⟨x1, hx2, hk3, hl4⟩ : ∃ x : Nat, σ.2.1 59 a = (x : Int) ∧ AR T x 15 9 9 := wf_59 hw ha
  have hk3i : IA T x1 := by unfold IA; omega
  refine tn_getR (ci := 7) (i := 4) (n := 59) (x := x1) dX7_chainOf_2 rfl lay_7 (by decide) fl7_9 ha rfl rfl (hx2) ?_
  refine tn_iload_n dX7_chainOf_5 rfl 1 rfl ?_
  refine tn_callSN (M := m_X7_chainOf) (pc := 6) (ix := 91) (M' := m_X11_at) (As := [.ref x1, .int (iI p1)]) (rest := [.ref a]) dX7_chainOf_6 ok_X11_at stt_X11_at nl7_91 np_X11_at rfl (Nat.le_of_ble_eq_true rfl) (Nat.le_of_ble_eq_true rfl) rfl (k_X11_at (d) (T := T) (σ := σ) (x := x1) (i := p1) hk3i (by omega) (by omega) hw ) (fun r5 T7 σ6 gt8 hp => ?_)
  obtain ⟨v12, rfl, rfl, rfl, f9, f10, f11⟩ := hp
  clear gt8
  clear f10 f11
  show Tn _ _ 9 T σ [(0, .ref a), (1, .int (iI p1))] [.int (iI v12), .ref a] _
  refine tn_callV (M := m_X7_chainOf) (pc := 9) (ix := 68) (ci := 7) (M' := m_X7_codeAt) (As := [.int (iI v12)]) (rest := []) dX7_chainOf_9 ok_X7_codeAt im_X7_codeAt se_X7_codeAt ml7_68 np_X7_codeAt rfl rfl ha rfl (Nat.le_of_ble_eq_true rfl) (Nat.le_of_ble_eq_true rfl) rfl (k_X7_codeAt (d) (T := T) (σ := σ) (a := a) (r := v12) ha (by omega) hw ) (fun r13 T15 σ14 gt16 hp => ?_)
  obtain ⟨v18, rfl, rfl, rfl, rv19, f17⟩ := hp
  clear gt16
  clear f17
  rcases rv19 with rv19 | ⟨x20, rfl, hk21⟩
  · show Tn _ _ 12 T σ [(0, .ref a), (1, .int (iI p1))] (vl true v18 :: []) _
    rw [vl_null rv19]
    refine tn_astore_nN (L' := [(2, .null), (0, .ref a), (1, .int (iI p1))]) dX7_chainOf_12 rfl (by decide) rfl ?_
    refine tn_aload_n dX7_chainOf_13 rfl 1 rfl ?_
    obtain ⟨x22, hx23, hl25, hk24a, hk24b⟩ := wf_61 hw ha
    have hk24i : IA T x22 := by unfold IA; omega
    have hk24n : NH T x22 := by unfold NH HT; omega
    clear hk24a hk24b
    refine tn_getR (ci := 7) (i := 6) (n := 61) (x := x22) dX7_chainOf_14 rfl lay_7 (by decide) fl7_18 ha rfl rfl (hx23) ?_
    refine tn_iload_n dX7_chainOf_17 rfl 2 rfl ?_
    refine tn_callSN (M := m_X7_chainOf) (pc := 18) (ix := 91) (M' := m_X11_at) (As := [.ref x22, .int (iI p1)]) (rest := []) dX7_chainOf_18 ok_X11_at stt_X11_at nl7_91 np_X11_at rfl (Nat.le_of_ble_eq_true rfl) (Nat.le_of_ble_eq_true rfl) rfl (k_X11_at (d) (T := T) (σ := σ) (x := x22) (i := p1) hk24i (by omega) (by omega) hw ) (fun r26 T28 σ27 gt29 hp => ?_)
    obtain ⟨v33, rfl, rfl, rfl, f30, f31, f32⟩ := hp
    clear gt29
    clear f31 f32
    show Tn _ _ 21 T σ [(2, .null), (0, .ref a), (1, .int (iI p1))] [.int (iI v33)] _
    refine tn_istore_n (L' := [(3, .int (iI v33)), (2, .null), (0, .ref a), (1, .int (iI p1))]) dX7_chainOf_21 rfl (by decide) rfl ?_
    refine tn_iconst dX7_chainOf_22 ?_
    refine tn_istore (L' := [(4, .int (iI 1)), (3, .int (iI v33)), (2, .null), (0, .ref a), (1, .int (iI p1))]) dX7_chainOf_23 (by decide) rfl ?_
    refine tn_sub [2, 1, 0] rfl (l_X7_chainOf_25 (d) (T := T) (σ := σ) hw (fun i334 i435 r41 r42 => ?_) _ (v33) (1) (by omega) (by omega) rfl)
    show Tn _ _ 55 T σ [(2, .null), (3, .int (iI i334)), (4, .int (iI i435))] [] _
    refine tn_iload dX7_chainOf_55 2 rfl ?_
    exact tn_iret rfl dX7_chainOf_57 ⟨_, rfl, rfl, rfl, by omega⟩
  · show Tn _ _ 12 T σ [(0, .ref a), (1, .int (iI p1))] (vl true (x20 : Int) :: []) _
    rw [vl_ref rfl]
    have hk21o : OB T x20 1 := hk21.1
    refine tn_astore_n (L' := [(2, .ref x20), (0, .ref a), (1, .int (iI p1))]) dX7_chainOf_12 rfl (by decide) rfl ?_
    refine tn_aload_n dX7_chainOf_13 rfl 1 rfl ?_
    obtain ⟨x43, hx44, hl46, hk45a, hk45b⟩ := wf_61 hw ha
    have hk45i : IA T x43 := by unfold IA; omega
    have hk45n : NH T x43 := by unfold NH HT; omega
    clear hk45a hk45b
    refine tn_getR (ci := 7) (i := 6) (n := 61) (x := x43) dX7_chainOf_14 rfl lay_7 (by decide) fl7_18 ha rfl rfl (hx44) ?_
    refine tn_iload_n dX7_chainOf_17 rfl 2 rfl ?_
    refine tn_callSN (M := m_X7_chainOf) (pc := 18) (ix := 91) (M' := m_X11_at) (As := [.ref x43, .int (iI p1)]) (rest := []) dX7_chainOf_18 ok_X11_at stt_X11_at nl7_91 np_X11_at rfl (Nat.le_of_ble_eq_true rfl) (Nat.le_of_ble_eq_true rfl) rfl (k_X11_at (d) (T := T) (σ := σ) (x := x43) (i := p1) hk45i (by omega) (by omega) hw ) (fun r47 T49 σ48 gt50 hp => ?_)
    obtain ⟨v54, rfl, rfl, rfl, f51, f52, f53⟩ := hp
    clear gt50
    clear f52 f53
    show Tn _ _ 21 T σ [(2, .ref x20), (0, .ref a), (1, .int (iI p1))] [.int (iI v54)] _
    refine tn_istore_n (L' := [(3, .int (iI v54)), (2, .ref x20), (0, .ref a), (1, .int (iI p1))]) dX7_chainOf_21 rfl (by decide) rfl ?_
    refine tn_iconst dX7_chainOf_22 ?_
    refine tn_istore (L' := [(4, .int (iI 1)), (3, .int (iI v54)), (2, .ref x20), (0, .ref a), (1, .int (iI p1))]) dX7_chainOf_23 (by decide) rfl ?_
    refine tn_sub [2, 1, 0] rfl (l_X7_chainOf_25_1 (d) (T := T) (σ := σ) (rx2 := x20) hk21o hw (fun i355 i456 r62 r63 => ?_) _ (v54) (1) (by omega) (by omega) rfl)
    show Tn _ _ 55 T σ [(2, .ref x20), (3, .int (iI i355)), (4, .int (iI i456))] [] _
    refine tn_iload dX7_chainOf_55 2 rfl ?_
    exact tn_iret rfl dX7_chainOf_57 ⟨_, rfl, rfl, rfl, by omega⟩
