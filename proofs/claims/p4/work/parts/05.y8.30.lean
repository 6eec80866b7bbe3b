set_option maxRecDepth 20000 in
theorem l_X7_chainOf_57_25 (d : Nat) {T : CT} {σ : MS} {post : Option Value → CT → MS → Prop} (hw : WT T σ) (hx_55 : ∀ (i3 : Int) (i4 : Int) , (0 ≤ i3 ∧ i3 ≤ 0) → (1 ≤ i4 ∧ i4 ≤ 1) → Tn (d + 2) m_X7_chainOf 55 T σ [(2, .null), (3, .int (iI i3)), (4, .int (iI i4))] [] post) : ∀ (n : Nat) (i3 : Int) (i4 : Int) , (0 ≤ i3 ∧ i3 ≤ 0) → (1 ≤ i4 ∧ i4 ≤ 1) → (2147483700 - i4).toNat = n → Tn (d + 2) m_X7_chainOf 25 T σ [(2, .null), (3, .int (iI i3)), (4, .int (iI i4))] [] post := by
  intro n
  induction n using Nat.strongRecOn with
  | _ n ih =>
    intro i3 i4 r_i3 r_i4 hm
    refine tn_aload_nN dX7_chainOf_25 rfl 0 rfl ?_
    refine tn_ifnullN (tgt := 55) dX7_chainOf_26 (by decide) ?_
    exact tn_sub [0, 1, 2] rfl (hx_55 (i3) (i4) (by omega) (by omega))
set_option maxRecDepth 20000 in
theorem l_X7_chainOf_57_25_1 (d : Nat) {T : CT} {σ : MS} {rx2 : Nat} {post : Option Value → CT → MS → Prop} (h_rx2 : OB T rx2 1) (hw : WT T σ) (hx_55 : ∀ (i3 : Int) (i4 : Int) , (0 ≤ i3 ∧ i3 ≤ 0) → (1 ≤ i4 ∧ i4 ≤ 1) → Tn (d + 2) m_X7_chainOf 55 T σ [(2, .ref rx2), (3, .int (iI i3)), (4, .int (iI i4))] [] post) : ∀ (n : Nat) (i3 : Int) (i4 : Int) , (0 ≤ i3 ∧ i3 ≤ 0) → (1 ≤ i4 ∧ i4 ≤ 1) → (2147483700 - i4).toNat = n → Tn (d + 2) m_X7_chainOf 25 T σ [(2, .ref rx2), (3, .int (iI i3)), (4, .int (iI i4))] [] post := by
  intro n
  induction n using Nat.strongRecOn with
  | _ n ih =>
    intro i3 i4 r_i3 r_i4 hm
    refine tn_aload_n dX7_chainOf_25 rfl 0 rfl ?_
    refine tn_ifnull dX7_chainOf_26 ?_
    refine tn_iload_n dX7_chainOf_29 rfl 1 rfl ?_
    refine tn_if_le (tgt := 55) dX7_chainOf_30 (by decide) ⟨by omega, by omega⟩ (fun h1 => ?_) (fun h1 => absurd h1 (by omega))
    exact tn_sub [0, 1, 2] rfl (hx_55 (i3) (i4) (by omega) (by omega))
set_option maxRecDepth 20000 in
theorem k_X7_chainOf_57 (d : Nat) {T : CT} {σ : MS} {a : Nat} {p1 : Int} (ha : OB T a 7) (hta : (T a).1 = 57) (h_p1 : -2147483648 ≤ p1 ∧ p1 ≤ 2147483647) (hw : WT T σ) : Tn (d + 2) m_X7_chainOf 0 T σ [(0, .ref a), (1, .int (iI p1))] [] (fun ro T2 σ2 => ∃ v : Int, ro = some (.int (iI v)) ∧ T = T2 ∧ σ = σ2 ∧ (1 ≤ v ∧ v ≤ 1) ∧ (v = 1)) := by
  refine tn_aload_n dX7_chainOf_0 rfl 0 rfl ?_
  refine tn_aload_n dX7_chainOf_1 rfl 0 rfl ?_
  obtain ⟨x1, hx2, hk3, hl4⟩ : ∃ x : Nat, σ.2.1 59 a = (x : Int) ∧ AR T x 15 9 9 := wf_59 hw ha
  have hk3i : IA T x1 := by unfold IA; omega
  refine tn_getR (ci := 7) (i := 4) (n := 59) (x := x1) dX7_chainOf_2 rfl lay_7 (by decide) fl7_9 ha rfl rfl (hx2) ?_
  refine tn_iload_n dX7_chainOf_5 rfl 1 rfl ?_
  refine tn_callSN (M := m_X7_chainOf) (pc := 6) (ix := 91) (M' := m_X11_at) (As := [.ref x1, .int (iI p1)]) (rest := [.ref a]) dX7_chainOf_6 ok_X11_at stt_X11_at nl7_91 np_X11_at rfl (Nat.le_of_ble_eq_true rfl) (Nat.le_of_ble_eq_true rfl) rfl (k_X11_at (d) (T := T) (σ := σ) (x := x1) (i := p1) hk3i (by omega) (by omega) hw ) (fun r5 T7 σ6 gt8 hp => ?_)
  obtain ⟨v12, rfl, rfl, rfl, f9, f10, f11⟩ := hp
  clear gt8
  clear f10 f11
  show Tn _ _ 9 T σ [(0, .ref a), (1, .int (iI p1))] [.int (iI v12), .ref a] _
  refine tn_callV (M := m_X7_chainOf) (pc := 9) (ix := 68) (ci := 7) (M' := m_X7_codeAt) (As := [.int (iI v12)]) (rest := []) dX7_chainOf_9 ok_X7_codeAt im_X7_codeAt se_X7_codeAt ml7_68 np_X7_codeAt rfl rfl ha rfl (Nat.le_of_ble_eq_true rfl) (Nat.le_of_ble_eq_true rfl) rfl (k_X7_codeAt (d) (T := T) (σ := σ) (a := a) (r := v12) ha (by omega) hw ) (fun r13 T15 σ14 gt16 hp => ?_)
  obtain ⟨v18, rfl, rfl, rfl, rv19, f17⟩ := hp
  clear gt16
  clear f17
  rcases rv19 with rv19 | ⟨x20, rfl, hk21⟩
  · show Tn _ _ 12 T σ [(0, .ref a), (1, .int (iI p1))] (vl true v18 :: []) _
    rw [vl_null rv19]
    refine tn_astore_nN (L' := [(2, .null), (0, .ref a), (1, .int (iI p1))]) dX7_chainOf_12 rfl (by decide) rfl ?_
    refine tn_aload_n dX7_chainOf_13 rfl 1 rfl ?_
    obtain ⟨x22, hx23, hl25, hk24a, hk24b⟩ := wf_61 hw ha
    have hk24 : (T x22).1 = 14 := hk24a (by omega)
    clear hk24a hk24b
    have hk24i : IA T x22 := by unfold IA; omega
    refine tn_getR (ci := 7) (i := 6) (n := 61) (x := x22) dX7_chainOf_14 rfl lay_7 (by decide) fl7_18 ha rfl rfl (hx23) ?_
    refine tn_iload_n dX7_chainOf_17 rfl 2 rfl ?_
    refine tn_callSN (M := m_X7_chainOf) (pc := 18) (ix := 91) (M' := m_X11_at) (As := [.ref x22, .int (iI p1)]) (rest := []) dX7_chainOf_18 ok_X11_at stt_X11_at nl7_91 np_X11_at rfl (Nat.le_of_ble_eq_true rfl) (Nat.le_of_ble_eq_true rfl) rfl (k_X11_at (d) (T := T) (σ := σ) (x := x22) (i := p1) hk24i (by omega) (by omega) hw ) (fun r26 T28 σ27 gt29 hp => ?_)
    obtain ⟨v33, rfl, rfl, rfl, f30, f31, f32⟩ := hp
    clear gt29
    have f31n := f31.2.2.2.2 hk24
    clear f31 f32
    show Tn _ _ 21 T σ [(2, .null), (0, .ref a), (1, .int (iI p1))] [.int (iI v33)] _
    refine tn_istore_n (L' := [(3, .int (iI v33)), (2, .null), (0, .ref a), (1, .int (iI p1))]) dX7_chainOf_21 rfl (by decide) rfl ?_
    refine tn_iconst dX7_chainOf_22 ?_
    refine tn_istore (L' := [(4, .int (iI 1)), (3, .int (iI v33)), (2, .null), (0, .ref a), (1, .int (iI p1))]) dX7_chainOf_23 (by decide) rfl ?_
    refine tn_sub [2, 1, 0] rfl (l_X7_chainOf_57_25 (d) (T := T) (σ := σ) hw (fun i334 i435 r41 r42 => ?_) _ (v33) (1) (by omega) (by omega) rfl)
    show Tn _ _ 55 T σ [(2, .null), (3, .int (iI i334)), (4, .int (iI i435))] [] _
    refine tn_iload dX7_chainOf_55 2 rfl ?_
    exact tn_iret rfl dX7_chainOf_57 ⟨_, rfl, rfl, rfl, by omega, by omega⟩
  · show Tn _ _ 12 T σ [(0, .ref a), (1, .int (iI p1))] (vl true (x20 : Int) :: []) _
    rw [vl_ref rfl]
    have hk21o : OB T x20 1 := hk21.1
    refine tn_astore_n (L' := [(2, .ref x20), (0, .ref a), (1, .int (iI p1))]) dX7_chainOf_12 rfl (by decide) rfl ?_
    refine tn_aload_n dX7_chainOf_13 rfl 1 rfl ?_
    obtain ⟨x43, hx44, hl46, hk45a, hk45b⟩ := wf_61 hw ha
    have hk45 : (T x43).1 = 14 := hk45a (by omega)
    clear hk45a hk45b
    have hk45i : IA T x43 := by unfold IA; omega
    refine tn_getR (ci := 7) (i := 6) (n := 61) (x := x43) dX7_chainOf_14 rfl lay_7 (by decide) fl7_18 ha rfl rfl (hx44) ?_
    refine tn_iload_n dX7_chainOf_17 rfl 2 rfl ?_
    refine tn_callSN (M := m_X7_chainOf) (pc := 18) (ix := 91) (M' := m_X11_at) (As := [.ref x43, .int (iI p1)]) (rest := []) dX7_chainOf_18 ok_X11_at stt_X11_at nl7_91 np_X11_at rfl (Nat.le_of_ble_eq_true rfl) (Nat.le_of_ble_eq_true rfl) rfl (k_X11_at (d) (T := T) (σ := σ) (x := x43) (i := p1) hk45i (by omega) (by omega) hw ) (fun r47 T49 σ48 gt50 hp => ?_)
    obtain ⟨v54, rfl, rfl, rfl, f51, f52, f53⟩ := hp
    clear gt50
    have f52n := f52.2.2.2.2 hk45
    clear f52 f53
    show Tn _ _ 21 T σ [(2, .ref x20), (0, .ref a), (1, .int (iI p1))] [.int (iI v54)] _
    refine tn_istore_n (L' := [(3, .int (iI v54)), (2, .ref x20), (0, .ref a), (1, .int (iI p1))]) dX7_chainOf_21 rfl (by decide) rfl ?_
    refine tn_iconst dX7_chainOf_22 ?_
    refine tn_istore (L' := [(4, .int (iI 1)), (3, .int (iI v54)), (2, .ref x20), (0, .ref a), (1, .int (iI p1))]) dX7_chainOf_23 (by decide) rfl ?_
    refine tn_sub [2, 1, 0] rfl (l_X7_chainOf_57_25_1 (d) (T := T) (σ := σ) (rx2 := x20) hk21o hw (fun i355 i456 r62 r63 => ?_) _ (v54) (1) (by omega) (by omega) rfl)
    show Tn _ _ 55 T σ [(2, .ref x20), (3, .int (iI i355)), (4, .int (iI i456))] [] _
    refine tn_iload dX7_chainOf_55 2 rfl ?_
    exact tn_iret rfl dX7_chainOf_57 ⟨_, rfl, rfl, rfl, by omega, by omega⟩
