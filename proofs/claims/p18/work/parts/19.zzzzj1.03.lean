section
set_option maxHeartbeats 1000000 in
set_option maxRecDepth 20000 in
theorem l_X7_chainOf_j57_25 (d : Nat) {T : CT} {σ : MS} {V0 : Int} {xa : Nat} {xc : Nat} {y : Nat} {post : Option Value → CT → MS → Prop} (hw : WT T σ) (hx_55 : ∀ (i3 : Int) (i4 : Int) , (0 ≤ i3 ∧ i3 ≤ 0) → (1 ≤ i4 ∧ i4 ≤ 1) → (i4 = 1) → Tn (d + 2) m_X7_chainOf 55 T σ [(2, .null), (3, .int (iI i3)), (4, .int (iI i4))] [] post) : ∀ (nq9 : Nat) (i3 : Int) (i4 : Int) , (0 ≤ i3 ∧ i3 ≤ 0) → (1 ≤ i4 ∧ i4 ≤ 1) → (i4 = 1) → (2147483700 - i4).toNat = nq9 → Tn (d + 2) m_X7_chainOf 25 T σ [(2, .null), (3, .int (iI i3)), (4, .int (iI i4))] [] post := by
  intro nq9
  induction nq9 using Nat.strongRecOn with
  | _ nq9 ih =>
    intro i3 i4 r_i3 r_i4 hL hm
    refine tn_aload_nN dX7_chainOf_25 rfl 0 rfl ?_
    refine tn_ifnullN (tgt := 55) dX7_chainOf_26 (by decide) ?_
    exact tn_sub [0, 1, 2] rfl (hx_55 (i3) (i4) (by omega) (by omega) hL)
set_option maxHeartbeats 1000000 in
set_option maxRecDepth 20000 in
theorem l_X7_chainOf_j57_25_1 (d : Nat) {T : CT} {σ : MS} {rx2 : Nat} {V0 : Int} {xa : Nat} {xc : Nat} {y : Nat} {post : Option Value → CT → MS → Prop} (h_rx2 : OB T rx2 1) (hw : WT T σ) (hx_55 : ∀ (i3 : Int) (i4 : Int) , (0 ≤ i3 ∧ i3 ≤ 0) → (1 ≤ i4 ∧ i4 ≤ 1) → (i4 = V0) → Tn (d + 2) m_X7_chainOf 55 T σ [(2, .ref rx2), (3, .int (iI i3)), (4, .int (iI i4))] [] post) : ∀ (nq9 : Nat) (i3 : Int) (i4 : Int) , (0 ≤ i3 ∧ i3 ≤ 0) → (1 ≤ i4 ∧ i4 ≤ 1) → (jL (fun f => jA T (adN σ 12 rx2) f σ) (13 - i4).toNat i3 i4 = V0 ∧ 1 ≤ i4) → (2147483700 - i4).toNat = nq9 → Tn (d + 2) m_X7_chainOf 25 T σ [(2, .ref rx2), (3, .int (iI i3)), (4, .int (iI i4))] [] post := by
  intro nq9
  induction nq9 using Nat.strongRecOn with
  | _ nq9 ih =>
    intro i3 i4 r_i3 r_i4 hL hm
    refine tn_aload_n dX7_chainOf_25 rfl 0 rfl ?_
    refine tn_ifnull dX7_chainOf_26 ?_
    refine tn_iload_n dX7_chainOf_29 rfl 1 rfl ?_
    refine tn_if_le (tgt := 55) dX7_chainOf_30 (by decide) ⟨by omega, by omega⟩ (fun h1 => ?_) (fun h1 => absurd h1 (by omega))
    exact tn_sub [0, 1, 2] rfl (hx_55 (i3) (i4) (by omega) (by omega) (jL_e hL.1 (by omega) hL.2))
set_option maxHeartbeats 1000000 in
set_option maxRecDepth 20000 in
theorem k_X7_chainOf_j57 (d : Nat) {T : CT} {σ : MS} {a : Nat} {p1 : Int} {xa : Nat} {xc : Nat} {y : Nat} (ha : OB T a 7) (hta : (T a).1 = 57) (h_p1 : -2147483648 ≤ p1 ∧ p1 ≤ 2147483647) (hw : WT T σ) (hxa : σ.2.1 59 a = (xa : Int)) (hxc : σ.2.1 61 a = (xc : Int)) (hy : σ.2.1 55 a = (y : Int)) : Tn (d + 2) m_X7_chainOf 0 T σ [(0, .ref a), (1, .int (iI p1))] [] (fun ro T2 σ2 => ∃ v : Int, ro = some (.int (iI v)) ∧ T = T2 ∧ σ = σ2 ∧ (-2147483648 ≤ v ∧ v ≤ 2147483647) ∧ (v = 1) ∧ (v = jCV T σ xa xc y p1)) := by
  refine tn_aload_n dX7_chainOf_0 rfl 0 rfl ?_
  refine tn_aload_n dX7_chainOf_1 rfl 0 rfl ?_
  obtain ⟨hk3, hl4⟩ : AR T xa 15 9 9 := ar_of (wf_59 hw ha) hxa
  have hk3i : IA T xa := by unfold IA; omega
  refine tn_getR (ci := 7) (i := 4) (n := 59) (x := xa) dX7_chainOf_2 rfl lay_7 (by decide) fl7_9 ha rfl rfl (hxa) ?_
  refine tn_iload_n dX7_chainOf_5 rfl 1 rfl ?_
  refine tn_callSN (M := m_X7_chainOf) (pc := 6) (ix := 91) (M' := m_X11_at) (As := [.ref xa, .int (iI p1)]) (rest := [.ref a]) dX7_chainOf_6 ok_X11_at stt_X11_at nl7_91 np_X11_at rfl (Nat.le_of_ble_eq_true rfl) (Nat.le_of_ble_eq_true rfl) rfl (k_X11_at_j (d) (T := T) (σ := σ) (x := xa) (i := p1) hk3i (by omega) (by omega) hw ) (fun r5 T7 σ6 gt8 hp => ?_)
  obtain ⟨v12, rfl, rfl, rfl, f9, f10, f11⟩ := hp
  clear gt8
  clear f10
  show Tn _ _ 9 T σ [(0, .ref a), (1, .int (iI p1))] [.int (iI v12), .ref a] _
  obtain ⟨hl16, hk15a, hk15b⟩ := ex_at (wf_55 hw ha) hy
  have hk15i : (T y).1 = 4 ∨ (T y).1 = 5 := by omega
  have hk15c : RROW T a y := ⟨hk15a, hk15b⟩
  clear hk15a hk15b
  refine tn_callV (M := m_X7_chainOf) (pc := 9) (ix := 68) (ci := 7) (M' := m_X7_codeAt) (As := [.int (iI v12)]) (rest := []) dX7_chainOf_9 ok_X7_codeAt im_X7_codeAt se_X7_codeAt ml7_68 np_X7_codeAt rfl rfl ha rfl (Nat.le_of_ble_eq_true rfl) (Nat.le_of_ble_eq_true rfl) rfl (k_X7_codeAt_j (d) (T := T) (σ := σ) (a := a) (r := v12) (y := y) ha (by omega) hw (hy)) (fun r17 T19 σ18 gt20 hp => ?_)
  obtain ⟨v23, rfl, rfl, rfl, rv24, f21, f22⟩ := hp
  clear gt20
  rcases rv24 with rv24 | ⟨xq25, rfl, hk26⟩
  · show Tn _ _ 12 T σ [(0, .ref a), (1, .int (iI p1))] (vl true v23 :: []) _
    rw [vl_null rv24]
    refine tn_astore_nN (L' := [(2, .null), (0, .ref a), (1, .int (iI p1))]) dX7_chainOf_12 rfl (by decide) rfl ?_
    refine tn_aload_n dX7_chainOf_13 rfl 1 rfl ?_
    obtain ⟨hl30, hk29a, hk29b⟩ := ex_at (wf_61 hw ha) hxc
    have hk29 : (T xc).1 = 14 := hk29a (by omega)
    clear hk29a hk29b
    have hk29i : IA T xc := by unfold IA; omega
    refine tn_getR (ci := 7) (i := 6) (n := 61) (x := xc) dX7_chainOf_14 rfl lay_7 (by decide) fl7_18 ha rfl rfl (hxc) ?_
    refine tn_iload_n dX7_chainOf_17 rfl 2 rfl ?_
    refine tn_callSN (M := m_X7_chainOf) (pc := 18) (ix := 91) (M' := m_X11_at) (As := [.ref xc, .int (iI p1)]) (rest := []) dX7_chainOf_18 ok_X11_at stt_X11_at nl7_91 np_X11_at rfl (Nat.le_of_ble_eq_true rfl) (Nat.le_of_ble_eq_true rfl) rfl (k_X11_at_j (d) (T := T) (σ := σ) (x := xc) (i := p1) hk29i (by omega) (by omega) hw ) (fun r31 T33 σ32 gt34 hp => ?_)
    obtain ⟨v38, rfl, rfl, rfl, f35, f36, f37⟩ := hp
    clear gt34
    have f36n := f36.2.2.2.2 hk29
    clear f36
    show Tn _ _ 21 T σ [(2, .null), (0, .ref a), (1, .int (iI p1))] [.int (iI v38)] _
    refine tn_istore_n (L' := [(3, .int (iI v38)), (2, .null), (0, .ref a), (1, .int (iI p1))]) dX7_chainOf_21 rfl (by decide) rfl ?_
    refine tn_iconst dX7_chainOf_22 ?_
    refine tn_istore (L' := [(4, .int (iI 1)), (3, .int (iI v38)), (2, .null), (0, .ref a), (1, .int (iI p1))]) dX7_chainOf_23 (by decide) rfl ?_
    refine tn_sub [2, 1, 0] rfl (l_X7_chainOf_j57_25 (d) (T := T) (σ := σ) (xa := xa) (xc := xc) (y := y) (V0 := (0 : Int)) hw (fun i339 i440 r46 r47 f48 => ?_) _ (v38) (1) (by omega) (by omega) (by decide) rfl)
    show Tn _ _ 55 T σ [(2, .null), (3, .int (iI i339)), (4, .int (iI i440))] [] _
    refine tn_iload dX7_chainOf_55 2 rfl ?_
    exact tn_iret rfl dX7_chainOf_57 ⟨_, rfl, rfl, rfl, by omega, by omega, by unfold jCV; rw [← f11, ← f22, if_pos (by assumption)]; exact f48⟩
  · show Tn _ _ 12 T σ [(0, .ref a), (1, .int (iI p1))] (vl true (xq25 : Int) :: []) _
    rw [vl_ref rfl]
    have hk26o : OB T xq25 1 := hk26.1
    refine tn_astore_n (L' := [(2, .ref xq25), (0, .ref a), (1, .int (iI p1))]) dX7_chainOf_12 rfl (by decide) rfl ?_
    refine tn_aload_n dX7_chainOf_13 rfl 1 rfl ?_
    obtain ⟨hl52, hk51a, hk51b⟩ := ex_at (wf_61 hw ha) hxc
    have hk51 : (T xc).1 = 14 := hk51a (by omega)
    clear hk51a hk51b
    have hk51i : IA T xc := by unfold IA; omega
    refine tn_getR (ci := 7) (i := 6) (n := 61) (x := xc) dX7_chainOf_14 rfl lay_7 (by decide) fl7_18 ha rfl rfl (hxc) ?_
    refine tn_iload_n dX7_chainOf_17 rfl 2 rfl ?_
    refine tn_callSN (M := m_X7_chainOf) (pc := 18) (ix := 91) (M' := m_X11_at) (As := [.ref xc, .int (iI p1)]) (rest := []) dX7_chainOf_18 ok_X11_at stt_X11_at nl7_91 np_X11_at rfl (Nat.le_of_ble_eq_true rfl) (Nat.le_of_ble_eq_true rfl) rfl (k_X11_at_j (d) (T := T) (σ := σ) (x := xc) (i := p1) hk51i (by omega) (by omega) hw ) (fun r53 T55 σ54 gt56 hp => ?_)
    obtain ⟨v60, rfl, rfl, rfl, f57, f58, f59⟩ := hp
    clear gt56
    have f58n := f58.2.2.2.2 hk51
    clear f58
    show Tn _ _ 21 T σ [(2, .ref xq25), (0, .ref a), (1, .int (iI p1))] [.int (iI v60)] _
    refine tn_istore_n (L' := [(3, .int (iI v60)), (2, .ref xq25), (0, .ref a), (1, .int (iI p1))]) dX7_chainOf_21 rfl (by decide) rfl ?_
    refine tn_iconst dX7_chainOf_22 ?_
    refine tn_istore (L' := [(4, .int (iI 1)), (3, .int (iI v60)), (2, .ref xq25), (0, .ref a), (1, .int (iI p1))]) dX7_chainOf_23 (by decide) rfl ?_
    refine tn_sub [2, 1, 0] rfl (l_X7_chainOf_j57_25_1 (d) (T := T) (σ := σ) (rx2 := xq25) (xa := xa) (xc := xc) (y := y) (V0 := (jL (fun f => jA T (adN σ 12 xq25) f σ) 12 (v60) 1)) hk26o hw (fun i361 i462 r68 r69 f70 => ?_) _ (v60) (1) (by omega) (by omega) ⟨rfl, by decide⟩ rfl)
    show Tn _ _ 55 T σ [(2, .ref xq25), (3, .int (iI i361)), (4, .int (iI i462))] [] _
    refine tn_iload dX7_chainOf_55 2 rfl ?_
    exact tn_iret rfl dX7_chainOf_57 ⟨_, rfl, rfl, rfl, by omega, by omega, by unfold jCV; rw [← f11, ← f22, if_neg (by omega), ← f59]; exact f70⟩
end
