section
set_option maxHeartbeats 1000000 in
set_option maxRecDepth 20000 in
theorem k_X7_reckonAt_j (d : Nat) {T : CT} {σ : MS} {a : Nat} {k : Int} {e : Int} {xe : Nat} (ha : OB T a 7) (h_k : -2147483648 ≤ k ∧ k ≤ 2147483647) (h_e : -2147483648 ≤ e ∧ e ≤ 2147483647) (hw : WT T σ) (hxe : σ.2.1 63 a = (xe : Int)) (hn : 0 ≤ σ.2.1 69 a) : Tn (d + 3) m_X7_reckonAt 0 T σ [(0, .ref a), (1, .int (iI k)), (2, .int (iI e))] [] (fun ro T2 σ2 => ro = none ∧ T = T2 ∧ WT T2 σ2 ∧ FrC T [] σ σ2 ∧ (CHX [] [xe] [] σ σ2) ∧ (JRK T σ a xe k e σ2)) := by
  refine tn_iload_n dX7_reckonAt_0 rfl 2 rfl ?_
  refine tn_callSN (M := m_X7_reckonAt) (pc := 1) (ix := 132) (M' := m_X11_isPure) (As := [.int (iI e)]) (rest := []) dX7_reckonAt_1 ok_X11_isPure stt_X11_isPure nl7_132 np_X11_isPure rfl (Nat.le_of_ble_eq_true rfl) (Nat.le_of_ble_eq_true rfl) rfl (k_X11_isPure_x (d + 1) (T := T) (σ := σ) (k := e) (by omega) hw ) (fun r1 T3 σ2 gt4 hp => ?_)
  obtain ⟨v7, rfl, rfl, rfl, f5, f6⟩ := hp
  clear gt4
  show Tn _ _ 4 T σ [(0, .ref a), (1, .int (iI k)), (2, .int (iI e))] [.int (iI v7)] _
  refine tn_if_eq (tgt := 58) dX7_reckonAt_4 (by decide) ⟨by omega, by omega⟩ (fun h8 => ?_) (fun h8 => ?_)
  · exact tn_vret rfl dX7_reckonAt_58 ⟨rfl, rfl, hw, FrC.rfl, CHX.rfl, Or.inl ⟨by omega, rfl⟩⟩
  · refine tn_iload_n dX7_reckonAt_7 rfl 2 rfl ?_
    refine tn_if_ne (tgt := 15) dX7_reckonAt_8 (by decide) ⟨by omega, by omega⟩ (fun h9 => ?_) (fun h9 => ?_)
    · refine tn_aload_n dX7_reckonAt_15 rfl 0 rfl ?_
      refine tn_iload_n dX7_reckonAt_16 rfl 1 rfl ?_
      refine tn_iconst dX7_reckonAt_17 ?_
      obtain ⟨hk12, hl13⟩ : AR T xe 1 1728 1728 := ar_of (wf_63 hw ha) hxe
      have hk12i : IA T xe := by unfold IA; omega
      refine tn_callV (M := m_X7_reckonAt) (pc := 18) (ix := 110) (ci := 7) (M' := m_X7_operand) (As := [.int (iI k), .int (iI 5)]) (rest := []) dX7_reckonAt_18 ok_X7_operand im_X7_operand se_X7_operand ml7_110 np_X7_operand rfl rfl ha rfl (Nat.le_of_ble_eq_true rfl) (Nat.le_of_ble_eq_true rfl) rfl (k_X7_operand_j (d) (T := T) (σ := σ) (a := a) (k := k) (c := 5) (xe := xe) ha (by omega) (by decide) hw (hxe) (by rw [show σ.2.1 69 a = σ.2.1 69 a from rfl]; exact hn) (by omega)) (fun r14 T16 σ15 gt17 hp => ?_)
      obtain ⟨v20, rfl, rfl, rfl, f18, f19⟩ := hp
      clear gt17
      show Tn _ _ 21 T σ [(0, .ref a), (1, .int (iI k)), (2, .int (iI e))] [.int (iI v20)] _
      refine tn_istore_n (L' := [(3, .int (iI v20)), (0, .ref a), (1, .int (iI k)), (2, .int (iI e))]) dX7_reckonAt_21 rfl (by decide) rfl ?_
      refine tn_aload_n dX7_reckonAt_22 rfl 1 rfl ?_
      refine tn_getR (ci := 7) (i := 8) (n := 63) (x := xe) dX7_reckonAt_23 rfl lay_7 (by decide) fl7_24 ha rfl rfl (hxe) ?_
      refine tn_aload_n dX7_reckonAt_26 rfl 1 rfl ?_
      refine tn_getI (ci := 7) (i := 2) (n := 57) (t := σ.2.1 57 a) dX7_reckonAt_27 rfl lay_7 (by decide) fl7_65 ha rfl rfl (rfl) ?_
      have g21 : ((0 : Int) ≤ σ.2.1 57 a ∧ σ.2.1 57 a ≤ 11184800) ∧ ((T a).1 = 57 → σ.2.1 57 a ≤ 8) := wf_57 hw ha
      have g21x := g21.2
      replace g21 := g21.1
      clear g21x
      refine tn_sipush dX7_reckonAt_30 (by decide) ?_
      refine tn_imul dX7_reckonAt_33 ?_
      refine tn_aload_n dX7_reckonAt_34 rfl 1 rfl ?_
      obtain ⟨xq26, hx27, hk28a, hk28b⟩ := (wf_69 hw ha).resolve_left (by have q9 := hn; omega)
      have hk28o : OB T xq26 1 := (show RC T a xq26 from ⟨hk28a, hk28b⟩).ob
      clear hk28a hk28b
      refine tn_getR (ci := 7) (i := 14) (n := 69) (x := xq26) dX7_reckonAt_35 rfl lay_7 (by decide) fl7_72 ha rfl rfl (hx27) ?_
      refine tn_iload_n dX7_reckonAt_38 rfl 2 rfl ?_
      refine tn_iconst dX7_reckonAt_39 ?_
      obtain ⟨xq29, hx30, hl32, hk31a, hk31b⟩ := wf_5 hw hk28o
      have hk31i : IA T xq29 := by unfold IA; omega
      have hk31c : CELL T xq26 xq29 := ⟨hk31a, hk31b⟩
      clear hk31a hk31b
      refine tn_callV (M := m_X7_reckonAt) (pc := 40) (ix := 117) (ci := 1) (M' := m_X1_get) (As := [.int (iI k), .int (iI 1)]) (rest := [.int (iI ((σ.2.1 57 a) * 192)), .ref xe]) dX7_reckonAt_40 ok_X1_get im_X1_get se_X1_get ml7_117 np_X1_get rfl rfl hk28o rfl (Nat.le_of_ble_eq_true rfl) (Nat.le_of_ble_eq_true rfl) rfl (k_X1_get_j (d + 1) (T := T) (σ := σ) (a := xq26) (k := k) (c := 1) (x := xq29) hk28o (by omega) (by decide) hw (hx30) (by omega)) (fun r33 T35 σ34 gt36 hp => ?_)
      obtain ⟨v39, rfl, rfl, rfl, f37, f38⟩ := hp
      clear gt36
      show Tn _ _ 43 T σ [(3, .int (iI v20)), (0, .ref a), (1, .int (iI k)), (2, .int (iI e))] [.int (iI v39), .int (iI ((σ.2.1 57 a) * 192)), .ref xe] _
      refine tn_iadd dX7_reckonAt_43 ?_
      rw [show iI (((σ.2.1 57 a) * 192) + v39) = iI (w32 (((σ.2.1 57 a) * 192) + v39)) from (iI_self _).symm]
      have g40r : -2147483648 ≤ w32 (((σ.2.1 57 a) * 192) + v39) ∧ w32 (((σ.2.1 57 a) * 192) + v39) ≤ 2147483647 := inR_toInt _
      refine tn_iload_n dX7_reckonAt_44 rfl 3 rfl ?_
      refine tn_aload_n dX7_reckonAt_45 rfl 1 rfl ?_
      refine tn_iload_n dX7_reckonAt_46 rfl 2 rfl ?_
      refine tn_iconst dX7_reckonAt_47 ?_
      refine tn_callV (M := m_X7_reckonAt) (pc := 48) (ix := 110) (ci := 7) (M' := m_X7_operand) (As := [.int (iI k), .int (iI 3)]) (rest := [.int (iI e), .int (iI (w32 (((σ.2.1 57 a) * 192) + v39))), .ref xe]) dX7_reckonAt_48 ok_X7_operand im_X7_operand se_X7_operand ml7_110 np_X7_operand rfl rfl ha rfl (Nat.le_of_ble_eq_true rfl) (Nat.le_of_ble_eq_true rfl) rfl (k_X7_operand_j (d) (T := T) (σ := σ) (a := a) (k := k) (c := 3) (xe := xe) ha (by omega) (by decide) hw (hxe) (by rw [show σ.2.1 69 a = _ from hx27]; omega) (by omega)) (fun r41 T43 σ42 gt44 hp => ?_)
      obtain ⟨v47, rfl, rfl, rfl, f45, f46⟩ := hp
      clear gt44
      show Tn _ _ 51 T σ [(3, .int (iI v20)), (0, .ref a), (1, .int (iI k)), (2, .int (iI e))] [.int (iI v47), .int (iI e), .int (iI (w32 (((σ.2.1 57 a) * 192) + v39))), .ref xe] _
      refine tn_iload_n dX7_reckonAt_51 rfl 0 rfl ?_
      refine tn_callSN (M := m_X7_reckonAt) (pc := 52) (ix := 136) (M' := m_X11_reckon) (As := [.int (iI e), .int (iI v47), .int (iI v20)]) (rest := [.int (iI (w32 (((σ.2.1 57 a) * 192) + v39))), .ref xe]) dX7_reckonAt_52 ok_X11_reckon stt_X11_reckon nl7_136 np_X11_reckon rfl (Nat.le_of_ble_eq_true rfl) (Nat.le_of_ble_eq_true rfl) rfl (k_X11_reckon_j (d + 1) (T := T) (σ := σ) (k := e) (x := v47) (y := v20) (by omega) (by omega) (by omega) hw ) (fun r48 T50 σ49 gt51 hp => ?_)
      obtain ⟨v54, rfl, rfl, rfl, f52, f53⟩ := hp
      clear gt51
      show Tn _ _ 55 T σ [(3, .int (iI v20)), (0, .ref a), (1, .int (iI k)), (2, .int (iI e))] [.int (iI v54), .int (iI (w32 (((σ.2.1 57 a) * 192) + v39))), .ref xe] _
      refine tn_callSN (M := m_X7_reckonAt) (pc := 55) (ix := 61) (M' := m_X11_put) (As := [.ref xe, .int (iI (w32 (((σ.2.1 57 a) * 192) + v39))), .int (iI v54)]) (rest := []) dX7_reckonAt_55 ok_X11_put stt_X11_put nl7_61 np_X11_put rfl (Nat.le_of_ble_eq_true rfl) (Nat.le_of_ble_eq_true rfl) rfl (k_X11_put_x (d + 1) (T := T) (σ := σ) (x := xe) (i := w32 (((σ.2.1 57 a) * 192) + v39)) (y := v54) hk12i (by omega) (by omega) (by omega) hw (nh_k hk12 (by unfold HT; omega)) (vok_1 (by have q9 := hk12; omega) (by omega))) (fun r55 T57 σ56 gt58 hp => ?_)
      obtain ⟨rfl, rfl, w62, F63, f59, f60⟩ := hp
      clear gt58
      have je64 : σ56 = jP T xe (w32 (((σ.2.1 57 a) * 192) + v39)) (v54) _ := f60
      show Tn _ _ 58 T σ56 [(3, .int (iI v20)), (0, .ref a), (1, .int (iI k)), (2, .int (iI e))] [] _
      exact tn_vret rfl dX7_reckonAt_58 ⟨rfl, rfl, w62, (FrC.rfl.trans (FrC.sub F63 (by decide))), (CHX.rfl.trans (CHX.sub f59 (by simp) (by simp) (by simp))), Or.inr ⟨by omega, xq26, xq29, _, _, hx27, hx30, f46, Or.inr ⟨by omega, f19⟩, by rw [← f38, ← f53]; exact je64⟩⟩
    · refine tn_iconst dX7_reckonAt_11 ?_
      refine tn_goto (tgt := 21) dX7_reckonAt_12 (by decide) ?_
      refine tn_istore_n (L' := [(3, .int (iI 0)), (0, .ref a), (1, .int (iI k)), (2, .int (iI e))]) dX7_reckonAt_21 rfl (by decide) rfl ?_
      refine tn_aload_n dX7_reckonAt_22 rfl 1 rfl ?_
      obtain ⟨hk67, hl68⟩ : AR T xe 1 1728 1728 := ar_of (wf_63 hw ha) hxe
      have hk67i : IA T xe := by unfold IA; omega
      refine tn_getR (ci := 7) (i := 8) (n := 63) (x := xe) dX7_reckonAt_23 rfl lay_7 (by decide) fl7_24 ha rfl rfl (hxe) ?_
      refine tn_aload_n dX7_reckonAt_26 rfl 1 rfl ?_
      refine tn_getI (ci := 7) (i := 2) (n := 57) (t := σ.2.1 57 a) dX7_reckonAt_27 rfl lay_7 (by decide) fl7_65 ha rfl rfl (rfl) ?_
      have g69 : ((0 : Int) ≤ σ.2.1 57 a ∧ σ.2.1 57 a ≤ 11184800) ∧ ((T a).1 = 57 → σ.2.1 57 a ≤ 8) := wf_57 hw ha
      have g69x := g69.2
      replace g69 := g69.1
      clear g69x
      refine tn_sipush dX7_reckonAt_30 (by decide) ?_
      refine tn_imul dX7_reckonAt_33 ?_
      refine tn_aload_n dX7_reckonAt_34 rfl 1 rfl ?_
      obtain ⟨xq74, hx75, hk76a, hk76b⟩ := (wf_69 hw ha).resolve_left (by have q9 := hn; omega)
      have hk76o : OB T xq74 1 := (show RC T a xq74 from ⟨hk76a, hk76b⟩).ob
      clear hk76a hk76b
      refine tn_getR (ci := 7) (i := 14) (n := 69) (x := xq74) dX7_reckonAt_35 rfl lay_7 (by decide) fl7_72 ha rfl rfl (hx75) ?_
      refine tn_iload_n dX7_reckonAt_38 rfl 2 rfl ?_
      refine tn_iconst dX7_reckonAt_39 ?_
      obtain ⟨xq77, hx78, hl80, hk79a, hk79b⟩ := wf_5 hw hk76o
      have hk79i : IA T xq77 := by unfold IA; omega
      have hk79c : CELL T xq74 xq77 := ⟨hk79a, hk79b⟩
      clear hk79a hk79b
      refine tn_callV (M := m_X7_reckonAt) (pc := 40) (ix := 117) (ci := 1) (M' := m_X1_get) (As := [.int (iI k), .int (iI 1)]) (rest := [.int (iI ((σ.2.1 57 a) * 192)), .ref xe]) dX7_reckonAt_40 ok_X1_get im_X1_get se_X1_get ml7_117 np_X1_get rfl rfl hk76o rfl (Nat.le_of_ble_eq_true rfl) (Nat.le_of_ble_eq_true rfl) rfl (k_X1_get_j (d + 1) (T := T) (σ := σ) (a := xq74) (k := k) (c := 1) (x := xq77) hk76o (by omega) (by decide) hw (hx78) (by omega)) (fun r81 T83 σ82 gt84 hp => ?_)
      obtain ⟨v87, rfl, rfl, rfl, f85, f86⟩ := hp
      clear gt84
      show Tn _ _ 43 T σ [(3, .int (iI 0)), (0, .ref a), (1, .int (iI k)), (2, .int (iI e))] [.int (iI v87), .int (iI ((σ.2.1 57 a) * 192)), .ref xe] _
      refine tn_iadd dX7_reckonAt_43 ?_
      rw [show iI (((σ.2.1 57 a) * 192) + v87) = iI (w32 (((σ.2.1 57 a) * 192) + v87)) from (iI_self _).symm]
      have g88r : -2147483648 ≤ w32 (((σ.2.1 57 a) * 192) + v87) ∧ w32 (((σ.2.1 57 a) * 192) + v87) ≤ 2147483647 := inR_toInt _
      refine tn_iload_n dX7_reckonAt_44 rfl 3 rfl ?_
      refine tn_aload_n dX7_reckonAt_45 rfl 1 rfl ?_
      refine tn_iload_n dX7_reckonAt_46 rfl 2 rfl ?_
      refine tn_iconst dX7_reckonAt_47 ?_
      refine tn_callV (M := m_X7_reckonAt) (pc := 48) (ix := 110) (ci := 7) (M' := m_X7_operand) (As := [.int (iI k), .int (iI 3)]) (rest := [.int (iI e), .int (iI (w32 (((σ.2.1 57 a) * 192) + v87))), .ref xe]) dX7_reckonAt_48 ok_X7_operand im_X7_operand se_X7_operand ml7_110 np_X7_operand rfl rfl ha rfl (Nat.le_of_ble_eq_true rfl) (Nat.le_of_ble_eq_true rfl) rfl (k_X7_operand_j (d) (T := T) (σ := σ) (a := a) (k := k) (c := 3) (xe := xe) ha (by omega) (by decide) hw (hxe) (by rw [show σ.2.1 69 a = _ from hx75]; omega) (by omega)) (fun r89 T91 σ90 gt92 hp => ?_)
      obtain ⟨v95, rfl, rfl, rfl, f93, f94⟩ := hp
      clear gt92
      show Tn _ _ 51 T σ [(3, .int (iI 0)), (0, .ref a), (1, .int (iI k)), (2, .int (iI e))] [.int (iI v95), .int (iI e), .int (iI (w32 (((σ.2.1 57 a) * 192) + v87))), .ref xe] _
      refine tn_iload_n dX7_reckonAt_51 rfl 0 rfl ?_
      refine tn_callSN (M := m_X7_reckonAt) (pc := 52) (ix := 136) (M' := m_X11_reckon) (As := [.int (iI e), .int (iI v95), .int (iI 0)]) (rest := [.int (iI (w32 (((σ.2.1 57 a) * 192) + v87))), .ref xe]) dX7_reckonAt_52 ok_X11_reckon stt_X11_reckon nl7_136 np_X11_reckon rfl (Nat.le_of_ble_eq_true rfl) (Nat.le_of_ble_eq_true rfl) rfl (k_X11_reckon_j (d + 1) (T := T) (σ := σ) (k := e) (x := v95) (y := 0) (by omega) (by omega) (by decide) hw ) (fun r96 T98 σ97 gt99 hp => ?_)
      obtain ⟨v102, rfl, rfl, rfl, f100, f101⟩ := hp
      clear gt99
      show Tn _ _ 55 T σ [(3, .int (iI 0)), (0, .ref a), (1, .int (iI k)), (2, .int (iI e))] [.int (iI v102), .int (iI (w32 (((σ.2.1 57 a) * 192) + v87))), .ref xe] _
      refine tn_callSN (M := m_X7_reckonAt) (pc := 55) (ix := 61) (M' := m_X11_put) (As := [.ref xe, .int (iI (w32 (((σ.2.1 57 a) * 192) + v87))), .int (iI v102)]) (rest := []) dX7_reckonAt_55 ok_X11_put stt_X11_put nl7_61 np_X11_put rfl (Nat.le_of_ble_eq_true rfl) (Nat.le_of_ble_eq_true rfl) rfl (k_X11_put_x (d + 1) (T := T) (σ := σ) (x := xe) (i := w32 (((σ.2.1 57 a) * 192) + v87)) (y := v102) hk67i (by omega) (by omega) (by omega) hw (nh_k hk67 (by unfold HT; omega)) (vok_1 (by have q9 := hk67; omega) (by omega))) (fun r103 T105 σ104 gt106 hp => ?_)
      obtain ⟨rfl, rfl, w110, F111, f107, f108⟩ := hp
      clear gt106
      have je112 : σ104 = jP T xe (w32 (((σ.2.1 57 a) * 192) + v87)) (v102) _ := f108
      show Tn _ _ 58 T σ104 [(3, .int (iI 0)), (0, .ref a), (1, .int (iI k)), (2, .int (iI e))] [] _
      exact tn_vret rfl dX7_reckonAt_58 ⟨rfl, rfl, w110, (FrC.rfl.trans (FrC.sub F111 (by decide))), (CHX.rfl.trans (CHX.sub f107 (by simp) (by simp) (by simp))), Or.inr ⟨by omega, xq74, xq77, _, _, hx75, hx78, f94, Or.inl ⟨by omega, rfl⟩, by rw [← f86, ← f101]; exact je112⟩⟩
end
section
set_option maxHeartbeats 1000000 in
set_option maxRecDepth 20000 in
theorem l_X7_chainOf_j_25 (d : Nat) {T : CT} {σ : MS} {V0 : Int} {xa : Nat} {xc : Nat} {y : Nat} {post : Option Value → CT → MS → Prop} (hw : WT T σ) (hx_55 : ∀ (i3 : Int) (i4 : Int) , (-2147483648 ≤ i3 ∧ i3 ≤ 2147483647) → (1 ≤ i4 ∧ i4 ≤ 2147483647) → (i4 = 1) → Tn (d + 2) m_X7_chainOf 55 T σ [(2, .null), (3, .int (iI i3)), (4, .int (iI i4))] [] post) : ∀ (nq9 : Nat) (i3 : Int) (i4 : Int) , (-2147483648 ≤ i3 ∧ i3 ≤ 2147483647) → (1 ≤ i4 ∧ i4 ≤ 2147483647) → (i4 = 1) → (2147483700 - i4).toNat = nq9 → Tn (d + 2) m_X7_chainOf 25 T σ [(2, .null), (3, .int (iI i3)), (4, .int (iI i4))] [] post := by
  intro nq9
  induction nq9 using Nat.strongRecOn with
  | _ nq9 ih =>
    intro i3 i4 r_i3 r_i4 hL hm
    refine tn_aload_nN dX7_chainOf_25 rfl 0 rfl ?_
    refine tn_ifnullN (tgt := 55) dX7_chainOf_26 (by decide) ?_
    exact tn_sub [0, 1, 2] rfl (hx_55 (i3) (i4) (by omega) (by omega) hL)
set_option maxHeartbeats 1000000 in
set_option maxRecDepth 20000 in
theorem l_X7_chainOf_j_25_1 (d : Nat) {T : CT} {σ : MS} {rx2 : Nat} {V0 : Int} {xa : Nat} {xc : Nat} {y : Nat} {post : Option Value → CT → MS → Prop} (h_rx2 : OB T rx2 1) (hw : WT T σ) (hx_55 : ∀ (i3 : Int) (i4 : Int) , (-2147483648 ≤ i3 ∧ i3 ≤ 2147483647) → (1 ≤ i4 ∧ i4 ≤ 2147483647) → (i4 = V0) → Tn (d + 2) m_X7_chainOf 55 T σ [(2, .ref rx2), (3, .int (iI i3)), (4, .int (iI i4))] [] post) : ∀ (nq9 : Nat) (i3 : Int) (i4 : Int) , (-2147483648 ≤ i3 ∧ i3 ≤ 2147483647) → (1 ≤ i4 ∧ i4 ≤ 2147483647) → (jL (fun f => jA T (adN σ 12 rx2) f σ) (13 - i4).toNat i3 i4 = V0 ∧ 1 ≤ i4) → (2147483700 - i4).toNat = nq9 → Tn (d + 2) m_X7_chainOf 25 T σ [(2, .ref rx2), (3, .int (iI i3)), (4, .int (iI i4))] [] post := by
  intro nq9
  induction nq9 using Nat.strongRecOn with
  | _ nq9 ih =>
    intro i3 i4 r_i3 r_i4 hL hm
    refine tn_aload_n dX7_chainOf_25 rfl 0 rfl ?_
    refine tn_ifnull dX7_chainOf_26 ?_
    refine tn_iload_n dX7_chainOf_29 rfl 1 rfl ?_
    refine tn_if_le (tgt := 55) dX7_chainOf_30 (by decide) ⟨by omega, by omega⟩ (fun h1 => ?_) (fun h1 => ?_)
    · exact tn_sub [0, 1, 2] rfl (hx_55 (i3) (i4) (by omega) (by omega) (jL_e hL.1 (by omega) hL.2))
    · refine tn_iload dX7_chainOf_33 2 rfl ?_
      refine tn_bipush dX7_chainOf_35 (by decide) ?_
      refine tn_icmp_gt (tgt := 55) dX7_chainOf_37 (by decide) ⟨by omega, by omega⟩ ⟨by decide, by decide⟩ (fun h2 => ?_) (fun h2 => ?_)
      · exact tn_sub [0, 1, 2] rfl (hx_55 (i3) (i4) (by omega) (by omega) (jL_e hL.1 (by omega) hL.2))
      · refine tn_aload_n dX7_chainOf_40 rfl 0 rfl ?_
        obtain ⟨xq3, hx4, hk5, hl6⟩ : ∃ x : Nat, σ.2.1 12 rx2 = (x : Int) ∧ AR T x 1 12 12 := wf_12 hw h_rx2
        have hk5i : IA T xq3 := by unfold IA; omega
        refine tn_getR (ci := 1) (i := 7) (n := 12) (x := xq3) dX7_chainOf_41 rfl lay_1 (by decide) fl7_126 h_rx2 rfl rfl (hx4) ?_
        refine tn_iload_n dX7_chainOf_44 rfl 1 rfl ?_
        refine tn_callSN (M := m_X7_chainOf) (pc := 45) (ix := 91) (M' := m_X11_at) (As := [.ref xq3, .int (iI i3)]) (rest := []) dX7_chainOf_45 ok_X11_at stt_X11_at nl7_91 np_X11_at rfl (Nat.le_of_ble_eq_true rfl) (Nat.le_of_ble_eq_true rfl) rfl (k_X11_at_j (d) (T := T) (σ := σ) (x := xq3) (i := i3) hk5i (by omega) (by omega) hw ) (fun r7 T9 σ8 gt10 hp => ?_)
        obtain ⟨v14, rfl, rfl, rfl, f11, f12, f13⟩ := hp
        clear gt10
        clear f12
        show Tn _ _ 48 T σ [(2, .ref rx2), (3, .int (iI i3)), (4, .int (iI i4))] [.int (iI v14)] _
        refine tn_istore_n (L' := [(3, .int (iI v14)), (2, .ref rx2), (4, .int (iI i4))]) dX7_chainOf_48 rfl (by decide) rfl ?_
        refine tn_iinc (q0 := 2) (L' := [(4, .int (iI (i4 + 1))), (3, .int (iI v14)), (2, .ref rx2)]) dX7_chainOf_49 rfl (by decide) rfl ?_
        refine tn_goto (tgt := 25) dX7_chainOf_52 (by decide) ?_
        exact tn_sub [2, 1, 0] rfl (ih _ (by omega) (v14) (i4 + 1) (by omega) (by omega) ⟨by rw [f13, ← adN_of hx4]; exact jL_s hL.1 (by omega) (by omega) hL.2, by omega⟩ rfl)
set_option maxHeartbeats 1000000 in
set_option maxRecDepth 20000 in
theorem k_X7_chainOf_j (d : Nat) {T : CT} {σ : MS} {a : Nat} {p1 : Int} {xa : Nat} {xc : Nat} {y : Nat} (ha : OB T a 7) (h_p1 : -2147483648 ≤ p1 ∧ p1 ≤ 2147483647) (hw : WT T σ) (hxa : σ.2.1 59 a = (xa : Int)) (hxc : σ.2.1 61 a = (xc : Int)) (hy : σ.2.1 55 a = (y : Int)) : Tn (d + 2) m_X7_chainOf 0 T σ [(0, .ref a), (1, .int (iI p1))] [] (fun ro T2 σ2 => ∃ v : Int, ro = some (.int (iI v)) ∧ T = T2 ∧ σ = σ2 ∧ (-2147483648 ≤ v ∧ v ≤ 2147483647) ∧ (v = jCV T σ xa xc y p1)) := by
  refine tn_aload_n dX7_chainOf_0 rfl 0 rfl ?_
  refine tn_aload_n dX7_chainOf_1 rfl 0 rfl ?_
  obtain ⟨hk3, hl4⟩ : AR T xa 15 9 9 := ar_of (wf_59 hw ha) hxa
  have hk3i : IA T xa := by unfold IA; omega
  refine tn_getR (ci := 7) (i := 4) (n := 59) (x := xa) dX7_chainOf_2 rfl lay_7 (by decide) fl7_9 ha rfl rfl (hxa) ?_
  refine tn_iload_n dX7_chainOf_5 rfl 1 rfl ?_
  refine tn_callSN (M := m_X7_chainOf) (pc := 6) (ix := 91) (M' := m_X11_at) (As := [.ref xa, .int (iI p1)]) (rest := [.ref a]) dX7_chainOf_6 ok_X11_at stt_X11_at nl7_91 np_X11_at rfl (Nat.le_of_ble_eq_true rfl) (Nat.le_of_ble_eq_true rfl) rfl (k_X11_at_j (d) (T := T) (σ := σ) (x := xa) (i := p1) hk3i (by omega) (by omega) hw ) (fun r5 T7 σ6 gt8 hp => ?_)
  obtain ⟨v12, rfl, rfl, rfl, f9, f10, f11⟩ := hp
  clear gt8
  clear f10
  show Tn _ _ 9 T σ [(0, .ref a), (1, .int (iI p1))] [.int (iI v12), .ref a] _
  obtain ⟨hl16, hk15a, hk15b⟩ := ex_at (wf_55 hw ha) hy
  have hk15i : (T y).1 = 4 ∨ (T y).1 = 5 := by omega
  have hk15c : RROW T a y := ⟨hk15a, hk15b⟩
  clear hk15a hk15b
  refine tn_callV (M := m_X7_chainOf) (pc := 9) (ix := 68) (ci := 7) (M' := m_X7_codeAt) (As := [.int (iI v12)]) (rest := []) dX7_chainOf_9 ok_X7_codeAt im_X7_codeAt se_X7_codeAt ml7_68 np_X7_codeAt rfl rfl ha rfl (Nat.le_of_ble_eq_true rfl) (Nat.le_of_ble_eq_true rfl) rfl (k_X7_codeAt_j (d) (T := T) (σ := σ) (a := a) (r := v12) (y := y) ha (by omega) hw (hy)) (fun r17 T19 σ18 gt20 hp => ?_)
  obtain ⟨v23, rfl, rfl, rfl, rv24, f21, f22⟩ := hp
  clear gt20
  rcases rv24 with rv24 | ⟨xq25, rfl, hk26⟩
  · show Tn _ _ 12 T σ [(0, .ref a), (1, .int (iI p1))] (vl true v23 :: []) _
    rw [vl_null rv24]
    refine tn_astore_nN (L' := [(2, .null), (0, .ref a), (1, .int (iI p1))]) dX7_chainOf_12 rfl (by decide) rfl ?_
    refine tn_aload_n dX7_chainOf_13 rfl 1 rfl ?_
    obtain ⟨hl30, hk29a, hk29b⟩ := ex_at (wf_61 hw ha) hxc
    have hk29i : IA T xc := by unfold IA; omega
    have hk29n : NH T xc := by unfold NH HT; omega
    clear hk29a hk29b
    refine tn_getR (ci := 7) (i := 6) (n := 61) (x := xc) dX7_chainOf_14 rfl lay_7 (by decide) fl7_18 ha rfl rfl (hxc) ?_
    refine tn_iload_n dX7_chainOf_17 rfl 2 rfl ?_
    refine tn_callSN (M := m_X7_chainOf) (pc := 18) (ix := 91) (M' := m_X11_at) (As := [.ref xc, .int (iI p1)]) (rest := []) dX7_chainOf_18 ok_X11_at stt_X11_at nl7_91 np_X11_at rfl (Nat.le_of_ble_eq_true rfl) (Nat.le_of_ble_eq_true rfl) rfl (k_X11_at_j (d) (T := T) (σ := σ) (x := xc) (i := p1) hk29i (by omega) (by omega) hw ) (fun r31 T33 σ32 gt34 hp => ?_)
    obtain ⟨v38, rfl, rfl, rfl, f35, f36, f37⟩ := hp
    clear gt34
    clear f36
    show Tn _ _ 21 T σ [(2, .null), (0, .ref a), (1, .int (iI p1))] [.int (iI v38)] _
    refine tn_istore_n (L' := [(3, .int (iI v38)), (2, .null), (0, .ref a), (1, .int (iI p1))]) dX7_chainOf_21 rfl (by decide) rfl ?_
    refine tn_iconst dX7_chainOf_22 ?_
    refine tn_istore (L' := [(4, .int (iI 1)), (3, .int (iI v38)), (2, .null), (0, .ref a), (1, .int (iI p1))]) dX7_chainOf_23 (by decide) rfl ?_
    refine tn_sub [2, 1, 0] rfl (l_X7_chainOf_j_25 (d) (T := T) (σ := σ) (xa := xa) (xc := xc) (y := y) (V0 := (0 : Int)) hw (fun i339 i440 r46 r47 f48 => ?_) _ (v38) (1) (by omega) (by omega) (by decide) rfl)
    show Tn _ _ 55 T σ [(2, .null), (3, .int (iI i339)), (4, .int (iI i440))] [] _
    refine tn_iload dX7_chainOf_55 2 rfl ?_
    exact tn_iret rfl dX7_chainOf_57 ⟨_, rfl, rfl, rfl, by omega, by unfold jCV; rw [← f11, ← f22, if_pos (by assumption)]; exact f48⟩
  · show Tn _ _ 12 T σ [(0, .ref a), (1, .int (iI p1))] (vl true (xq25 : Int) :: []) _
    rw [vl_ref rfl]
    have hk26o : OB T xq25 1 := hk26.1
    refine tn_astore_n (L' := [(2, .ref xq25), (0, .ref a), (1, .int (iI p1))]) dX7_chainOf_12 rfl (by decide) rfl ?_
    refine tn_aload_n dX7_chainOf_13 rfl 1 rfl ?_
    obtain ⟨hl52, hk51a, hk51b⟩ := ex_at (wf_61 hw ha) hxc
    have hk51i : IA T xc := by unfold IA; omega
    have hk51n : NH T xc := by unfold NH HT; omega
    clear hk51a hk51b
    refine tn_getR (ci := 7) (i := 6) (n := 61) (x := xc) dX7_chainOf_14 rfl lay_7 (by decide) fl7_18 ha rfl rfl (hxc) ?_
    refine tn_iload_n dX7_chainOf_17 rfl 2 rfl ?_
    refine tn_callSN (M := m_X7_chainOf) (pc := 18) (ix := 91) (M' := m_X11_at) (As := [.ref xc, .int (iI p1)]) (rest := []) dX7_chainOf_18 ok_X11_at stt_X11_at nl7_91 np_X11_at rfl (Nat.le_of_ble_eq_true rfl) (Nat.le_of_ble_eq_true rfl) rfl (k_X11_at_j (d) (T := T) (σ := σ) (x := xc) (i := p1) hk51i (by omega) (by omega) hw ) (fun r53 T55 σ54 gt56 hp => ?_)
    obtain ⟨v60, rfl, rfl, rfl, f57, f58, f59⟩ := hp
    clear gt56
    clear f58
    show Tn _ _ 21 T σ [(2, .ref xq25), (0, .ref a), (1, .int (iI p1))] [.int (iI v60)] _
    refine tn_istore_n (L' := [(3, .int (iI v60)), (2, .ref xq25), (0, .ref a), (1, .int (iI p1))]) dX7_chainOf_21 rfl (by decide) rfl ?_
    refine tn_iconst dX7_chainOf_22 ?_
    refine tn_istore (L' := [(4, .int (iI 1)), (3, .int (iI v60)), (2, .ref xq25), (0, .ref a), (1, .int (iI p1))]) dX7_chainOf_23 (by decide) rfl ?_
    refine tn_sub [2, 1, 0] rfl (l_X7_chainOf_j_25_1 (d) (T := T) (σ := σ) (rx2 := xq25) (xa := xa) (xc := xc) (y := y) (V0 := (jL (fun f => jA T (adN σ 12 xq25) f σ) 12 (v60) 1)) hk26o hw (fun i361 i462 r68 r69 f70 => ?_) _ (v60) (1) (by omega) (by omega) ⟨rfl, by decide⟩ rfl)
    show Tn _ _ 55 T σ [(2, .ref xq25), (3, .int (iI i361)), (4, .int (iI i462))] [] _
    refine tn_iload dX7_chainOf_55 2 rfl ?_
    exact tn_iret rfl dX7_chainOf_57 ⟨_, rfl, rfl, rfl, by omega, by unfold jCV; rw [← f11, ← f22, if_neg (by omega), ← f59]; exact f70⟩
end
section
set_option maxHeartbeats 1000000 in
set_option maxRecDepth 20000 in
theorem k_X7_callFrom_j (d : Nat) {T : CT} {σ : MS} {a : Nat} {k : Int} {xa : Nat} {xb : Nat} {xc : Nat} {xd : Nat} {xe : Nat} {y : Nat} (ha : OB T a 7) (hta : (T a).1 = 37) (h_k : -2147483648 ≤ k ∧ k ≤ 2147483647) (hw : WT T σ) (hxa : σ.2.1 59 a = (xa : Int)) (hxb : σ.2.1 60 a = (xb : Int)) (hxc : σ.2.1 61 a = (xc : Int)) (hxd : σ.2.1 62 a = (xd : Int)) (hxe : σ.2.1 63 a = (xe : Int)) (hy : σ.2.1 55 a = (y : Int)) (hn : 0 ≤ σ.2.1 69 a) (h8 : σ.2.1 57 a ≤ 11184799) : Tn (d + 4) m_X7_callFrom 0 T σ [(0, .ref a), (1, .int (iI k))] [] (fun ro T2 σ2 => ro = none ∧ T = T2 ∧ WT T2 σ2 ∧ FrC T [57, 58, 69, 515] σ σ2 ∧ (CHX [(57, a), (58, a), (69, a)] [xa, xb, xc, xd, xe] [] σ σ2) ∧ (σ2.2.1 57 a = σ.2.1 57 a + 1) ∧ (JCF T σ a xa xb xc xd xe y k σ2) ∧ (FA a σ σ2)) := by
  refine tn_aload_n dX7_callFrom_0 rfl 0 rfl ?_
  refine tn_iload_n dX7_callFrom_1 rfl 1 rfl ?_
  refine tn_iconst dX7_callFrom_2 ?_
  obtain ⟨hk3, hl4⟩ : AR T xe 1 1728 1728 := ar_of (wf_63 hw ha) hxe
  have hk3i : IA T xe := by unfold IA; omega
  refine tn_callV (M := m_X7_callFrom) (pc := 3) (ix := 110) (ci := 7) (M' := m_X7_operand) (As := [.int (iI k), .int (iI 3)]) (rest := []) dX7_callFrom_3 ok_X7_operand im_X7_operand se_X7_operand ml7_110 np_X7_operand rfl rfl ha rfl (Nat.le_of_ble_eq_true rfl) (Nat.le_of_ble_eq_true rfl) rfl (k_X7_operand_j (d + 1) (T := T) (σ := σ) (a := a) (k := k) (c := 3) (xe := xe) ha (by omega) (by decide) hw (hxe) (by rw [show σ.2.1 69 a = σ.2.1 69 a from rfl]; exact hn) (by omega)) (fun r5 T7 σ6 gt8 hp => ?_)
  obtain ⟨v11, rfl, rfl, rfl, f9, f10⟩ := hp
  clear gt8
  show Tn _ _ 6 T σ [(0, .ref a), (1, .int (iI k))] [.int (iI v11)] _
  refine tn_istore_n (L' := [(2, .int (iI v11)), (0, .ref a), (1, .int (iI k))]) dX7_callFrom_6 rfl (by decide) rfl ?_
  refine tn_aload_n dX7_callFrom_7 rfl 1 rfl ?_
  refine tn_iload_n dX7_callFrom_8 rfl 2 rfl ?_
  refine tn_iconst dX7_callFrom_9 ?_
  refine tn_callV (M := m_X7_callFrom) (pc := 10) (ix := 110) (ci := 7) (M' := m_X7_operand) (As := [.int (iI k), .int (iI 5)]) (rest := []) dX7_callFrom_10 ok_X7_operand im_X7_operand se_X7_operand ml7_110 np_X7_operand rfl rfl ha rfl (Nat.le_of_ble_eq_true rfl) (Nat.le_of_ble_eq_true rfl) rfl (k_X7_operand_j (d + 1) (T := T) (σ := σ) (a := a) (k := k) (c := 5) (xe := xe) ha (by omega) (by decide) hw (hxe) (by rw [show σ.2.1 69 a = σ.2.1 69 a from rfl]; exact hn) (by omega)) (fun r12 T14 σ13 gt15 hp => ?_)
  obtain ⟨v18, rfl, rfl, rfl, f16, f17⟩ := hp
  clear gt15
  show Tn _ _ 13 T σ [(2, .int (iI v11)), (0, .ref a), (1, .int (iI k))] [.int (iI v18)] _
  refine tn_istore_n (L' := [(3, .int (iI v18)), (2, .int (iI v11)), (0, .ref a), (1, .int (iI k))]) dX7_callFrom_13 rfl (by decide) rfl ?_
  refine tn_aload_n dX7_callFrom_14 rfl 2 rfl ?_
  refine tn_iload_n dX7_callFrom_15 rfl 3 rfl ?_
  refine tn_bipush dX7_callFrom_16 (by decide) ?_
  refine tn_callV (M := m_X7_callFrom) (pc := 18) (ix := 110) (ci := 7) (M' := m_X7_operand) (As := [.int (iI k), .int (iI 7)]) (rest := []) dX7_callFrom_18 ok_X7_operand im_X7_operand se_X7_operand ml7_110 np_X7_operand rfl rfl ha rfl (Nat.le_of_ble_eq_true rfl) (Nat.le_of_ble_eq_true rfl) rfl (k_X7_operand_j (d + 1) (T := T) (σ := σ) (a := a) (k := k) (c := 7) (xe := xe) ha (by omega) (by decide) hw (hxe) (by rw [show σ.2.1 69 a = σ.2.1 69 a from rfl]; exact hn) (by omega)) (fun r19 T21 σ20 gt22 hp => ?_)
  obtain ⟨v25, rfl, rfl, rfl, f23, f24⟩ := hp
  clear gt22
  show Tn _ _ 21 T σ [(3, .int (iI v18)), (2, .int (iI v11)), (0, .ref a), (1, .int (iI k))] [.int (iI v25)] _
  refine tn_istore (L' := [(4, .int (iI v25)), (3, .int (iI v18)), (2, .int (iI v11)), (0, .ref a), (1, .int (iI k))]) dX7_callFrom_21 (by decide) rfl ?_
  refine tn_aload_n dX7_callFrom_23 rfl 3 rfl ?_
  refine tn_iload_n dX7_callFrom_24 rfl 4 rfl ?_
  refine tn_bipush dX7_callFrom_25 (by decide) ?_
  refine tn_callV (M := m_X7_callFrom) (pc := 27) (ix := 110) (ci := 7) (M' := m_X7_operand) (As := [.int (iI k), .int (iI 9)]) (rest := []) dX7_callFrom_27 ok_X7_operand im_X7_operand se_X7_operand ml7_110 np_X7_operand rfl rfl ha rfl (Nat.le_of_ble_eq_true rfl) (Nat.le_of_ble_eq_true rfl) rfl (k_X7_operand_j (d + 1) (T := T) (σ := σ) (a := a) (k := k) (c := 9) (xe := xe) ha (by omega) (by decide) hw (hxe) (by rw [show σ.2.1 69 a = σ.2.1 69 a from rfl]; exact hn) (by omega)) (fun r26 T28 σ27 gt29 hp => ?_)
  obtain ⟨v32, rfl, rfl, rfl, f30, f31⟩ := hp
  clear gt29
  show Tn _ _ 30 T σ [(4, .int (iI v25)), (3, .int (iI v18)), (2, .int (iI v11)), (0, .ref a), (1, .int (iI k))] [.int (iI v32)] _
  refine tn_istore (L' := [(5, .int (iI v32)), (4, .int (iI v25)), (3, .int (iI v18)), (2, .int (iI v11)), (0, .ref a), (1, .int (iI k))]) dX7_callFrom_30 (by decide) rfl ?_
  refine tn_aload_n dX7_callFrom_32 rfl 4 rfl ?_
  refine tn_aload_n dX7_callFrom_33 rfl 4 rfl ?_
  refine tn_getI (ci := 7) (i := 2) (n := 57) (t := σ.2.1 57 a) dX7_callFrom_34 rfl lay_7 (by decide) fl7_65 ha rfl rfl (rfl) ?_
  have g33 : ((0 : Int) ≤ σ.2.1 57 a ∧ σ.2.1 57 a ≤ 11184800) ∧ ((T a).1 = 57 → σ.2.1 57 a ≤ 8) := wf_57 hw ha
  have g33x := g33.2
  replace g33 := g33.1
  clear g33x
  refine tn_iconst dX7_callFrom_37 ?_
  refine tn_iadd dX7_callFrom_38 ?_
  refine tn_aload_n dX7_callFrom_39 rfl 4 rfl ?_
  obtain ⟨xq38, hx39, hk40a, hk40b⟩ := (wf_69 hw ha).resolve_left (by have q9 := hn; omega)
  have hk40 : (T xq38).1 = 50 := hk40b (by omega)
  clear hk40a hk40b
  have hk40o : OB T xq38 1 := ⟨by omega, by rw [hk40]; rfl, by omega⟩
  refine tn_getR (ci := 7) (i := 14) (n := 69) (x := xq38) dX7_callFrom_40 rfl lay_7 (by decide) fl7_72 ha rfl rfl (hx39) ?_
  refine tn_iload_n dX7_callFrom_43 rfl 5 rfl ?_
  refine tn_iconst dX7_callFrom_44 ?_
  obtain ⟨xq41, hx42, hl44, hk43a, hk43b⟩ := wf_5 hw hk40o
  have hk43 : (T xq41).1 = 1 := hk43a (by omega)
  clear hk43a hk43b
  have hk43i : IA T xq41 := by unfold IA; omega
  refine tn_callV (M := m_X7_callFrom) (pc := 45) (ix := 117) (ci := 1) (M' := m_X1_get) (As := [.int (iI k), .int (iI 2)]) (rest := [.int (iI ((σ.2.1 57 a) + 1)), .ref a]) dX7_callFrom_45 ok_X1_get im_X1_get se_X1_get ml7_117 np_X1_get rfl rfl hk40o rfl (Nat.le_of_ble_eq_true rfl) (Nat.le_of_ble_eq_true rfl) rfl (k_X1_get_j (d + 2) (T := T) (σ := σ) (a := xq38) (k := k) (c := 2) (x := xq41) hk40o (by omega) (by decide) hw (hx42) (by omega)) (fun r45 T47 σ46 gt48 hp => ?_)
  obtain ⟨v51, rfl, rfl, rfl, f49, f50⟩ := hp
  clear gt48
  show Tn _ _ 48 T σ [(5, .int (iI v32)), (4, .int (iI v25)), (3, .int (iI v18)), (2, .int (iI v11)), (0, .ref a), (1, .int (iI k))] [.int (iI v51), .int (iI ((σ.2.1 57 a) + 1)), .ref a] _
  obtain ⟨hk54, hl55⟩ : AR T xa 15 9 9 := ar_of (wf_59 hw ha) hxa
  have hk54i : IA T xa := by unfold IA; omega
  obtain ⟨hk58, hl59⟩ : AR T xb 1 9 9 := ar_of (wf_60 hw ha) hxb
  have hk58i : IA T xb := by unfold IA; omega
  obtain ⟨hl63, hk62a, hk62b⟩ := ex_at (wf_61 hw ha) hxc
  have hk62 : (T xc).1 = 1 := hk62b (by omega)
  clear hk62a hk62b
  have hk62i : IA T xc := by unfold IA; omega
  obtain ⟨hk66, hl67⟩ : AR T xd 1 108 108 := ar_of (wf_62 hw ha) hxd
  have hk66i : IA T xd := by unfold IA; omega
  obtain ⟨hl71, hk70a, hk70b⟩ := ex_at (wf_55 hw ha) hy
  have hk70i : (T y).1 = 4 ∨ (T y).1 = 5 := by omega
  have hk70c : RROW T a y := ⟨hk70a, hk70b⟩
  clear hk70a hk70b
  refine tn_callV (M := m_X7_callFrom) (pc := 48) (ix := 53) (ci := 7) (M' := m_X7_openCall) (As := [.int (iI ((σ.2.1 57 a) + 1)), .int (iI v51)]) (rest := []) dX7_callFrom_48 ok_X7_openCall im_X7_openCall se_X7_openCall ml7_53 np_X7_openCall rfl rfl ha rfl (Nat.le_of_ble_eq_true rfl) (Nat.le_of_ble_eq_true rfl) rfl (k_X7_openCall_j (d) (T := T) (σ := σ) (a := a) (c := (σ.2.1 57 a) + 1) (r := v51) (xa := xa) (xb := xb) (xc := xc) (xd := xd) (xe := xe) (y := y) ha hta (by omega) (by omega) hw (hxa) (hxb) (hxc) (hxd) (hxe) (hy) (by omega)) (fun r72 T74 σ73 gt75 hp => ?_)
  obtain ⟨rfl, rfl, w81, F82, f76, f77, f78, f79⟩ := hp
  clear gt75
  show Tn _ _ 51 T σ73 [(5, .int (iI v32)), (4, .int (iI v25)), (3, .int (iI v18)), (2, .int (iI v11)), (0, .ref a), (1, .int (iI k))] [] _
  refine tn_aload_n dX7_callFrom_51 rfl 4 rfl ?_
  refine tn_getR (ci := 7) (i := 8) (n := 63) (x := xe) dX7_callFrom_52 rfl lay_7 (by decide) fl7_24 ha rfl rfl (rc_F F82 (Or.inl (by decide)) (by decide) (hxe)) ?_
  refine tn_aload_n dX7_callFrom_55 rfl 4 rfl ?_
  refine tn_iconst dX7_callFrom_56 ?_
  refine tn_callV (M := m_X7_callFrom) (pc := 57) (ix := 57) (ci := 7) (M' := m_X7_homeOfParam) (As := [.int (iI 0)]) (rest := [.ref xe]) dX7_callFrom_57 ok_X7_homeOfParam im_X7_homeOfParam se_X7_homeOfParam ml7_57 np_X7_homeOfParam rfl rfl ha rfl (Nat.le_of_ble_eq_true rfl) (Nat.le_of_ble_eq_true rfl) rfl (k_X7_homeOfParam_j (d) (T := T) (σ := σ73) (a := a) (p1 := 0) ha (by decide) w81 (by omega)) (fun r83 T85 σ84 gt86 hp => ?_)
  obtain ⟨v89, rfl, rfl, rfl, f87, f88⟩ := hp
  clear gt86
  show Tn _ _ 60 T σ73 [(5, .int (iI v32)), (4, .int (iI v25)), (3, .int (iI v18)), (2, .int (iI v11)), (0, .ref a), (1, .int (iI k))] [.int (iI v89), .ref xe] _
  refine tn_iload_n dX7_callFrom_60 rfl 3 rfl ?_
  refine tn_callSN (M := m_X7_callFrom) (pc := 61) (ix := 61) (M' := m_X11_put) (As := [.ref xe, .int (iI v89), .int (iI v11)]) (rest := []) dX7_callFrom_61 ok_X11_put stt_X11_put nl7_61 np_X11_put rfl (Nat.le_of_ble_eq_true rfl) (Nat.le_of_ble_eq_true rfl) rfl (k_X11_put_x (d + 2) (T := T) (σ := σ73) (x := xe) (i := v89) (y := v11) hk3i (by omega) (by omega) (by omega) w81 (nh_k hk3 (by unfold HT; omega)) (vok_1 (by have q9 := hk3; omega) (by omega))) (fun r90 T92 σ91 gt93 hp => ?_)
  obtain ⟨rfl, rfl, w97, F98, f94, f95⟩ := hp
  clear gt93
  have je99 : σ91 = jP T xe (v89) (v11) _ := f95
  show Tn _ _ 64 T σ91 [(5, .int (iI v32)), (4, .int (iI v25)), (3, .int (iI v18)), (2, .int (iI v11)), (0, .ref a), (1, .int (iI k))] [] _
  refine tn_aload_n dX7_callFrom_64 rfl 4 rfl ?_
  refine tn_getR (ci := 7) (i := 8) (n := 63) (x := xe) dX7_callFrom_65 rfl lay_7 (by decide) fl7_24 ha rfl rfl (rc_F F98 (Or.inl (by decide)) (by decide) (rc_F F82 (Or.inl (by decide)) (by decide) (hxe))) ?_
  refine tn_aload_n dX7_callFrom_68 rfl 4 rfl ?_
  refine tn_iconst dX7_callFrom_69 ?_
  refine tn_callV (M := m_X7_callFrom) (pc := 70) (ix := 57) (ci := 7) (M' := m_X7_homeOfParam) (As := [.int (iI 1)]) (rest := [.ref xe]) dX7_callFrom_70 ok_X7_homeOfParam im_X7_homeOfParam se_X7_homeOfParam ml7_57 np_X7_homeOfParam rfl rfl ha rfl (Nat.le_of_ble_eq_true rfl) (Nat.le_of_ble_eq_true rfl) rfl (k_X7_homeOfParam_j (d) (T := T) (σ := σ91) (a := a) (p1 := 1) ha (by decide) w97 (by omega)) (fun r100 T102 σ101 gt103 hp => ?_)
  obtain ⟨v106, rfl, rfl, rfl, f104, f105⟩ := hp
  clear gt103
  show Tn _ _ 73 T σ91 [(5, .int (iI v32)), (4, .int (iI v25)), (3, .int (iI v18)), (2, .int (iI v11)), (0, .ref a), (1, .int (iI k))] [.int (iI v106), .ref xe] _
  refine tn_iload_n dX7_callFrom_73 rfl 2 rfl ?_
  refine tn_callSN (M := m_X7_callFrom) (pc := 74) (ix := 61) (M' := m_X11_put) (As := [.ref xe, .int (iI v106), .int (iI v18)]) (rest := []) dX7_callFrom_74 ok_X11_put stt_X11_put nl7_61 np_X11_put rfl (Nat.le_of_ble_eq_true rfl) (Nat.le_of_ble_eq_true rfl) rfl (k_X11_put_x (d + 2) (T := T) (σ := σ91) (x := xe) (i := v106) (y := v18) hk3i (by omega) (by omega) (by omega) w97 (nh_k hk3 (by unfold HT; omega)) (vok_1 (by have q9 := hk3; omega) (by omega))) (fun r107 T109 σ108 gt110 hp => ?_)
  obtain ⟨rfl, rfl, w114, F115, f111, f112⟩ := hp
  clear gt110
  have je116 : σ108 = jP T xe (v106) (v18) _ := f112
  show Tn _ _ 77 T σ108 [(5, .int (iI v32)), (4, .int (iI v25)), (3, .int (iI v18)), (2, .int (iI v11)), (0, .ref a), (1, .int (iI k))] [] _
  refine tn_aload_n dX7_callFrom_77 rfl 4 rfl ?_
  refine tn_getR (ci := 7) (i := 8) (n := 63) (x := xe) dX7_callFrom_78 rfl lay_7 (by decide) fl7_24 ha rfl rfl (rc_F F115 (Or.inl (by decide)) (by decide) (rc_F F98 (Or.inl (by decide)) (by decide) (rc_F F82 (Or.inl (by decide)) (by decide) (hxe)))) ?_
  refine tn_aload_n dX7_callFrom_81 rfl 4 rfl ?_
  refine tn_iconst dX7_callFrom_82 ?_
  refine tn_callV (M := m_X7_callFrom) (pc := 83) (ix := 57) (ci := 7) (M' := m_X7_homeOfParam) (As := [.int (iI 2)]) (rest := [.ref xe]) dX7_callFrom_83 ok_X7_homeOfParam im_X7_homeOfParam se_X7_homeOfParam ml7_57 np_X7_homeOfParam rfl rfl ha rfl (Nat.le_of_ble_eq_true rfl) (Nat.le_of_ble_eq_true rfl) rfl (k_X7_homeOfParam_j (d) (T := T) (σ := σ108) (a := a) (p1 := 2) ha (by decide) w114 (by omega)) (fun r117 T119 σ118 gt120 hp => ?_)
  obtain ⟨v123, rfl, rfl, rfl, f121, f122⟩ := hp
  clear gt120
  show Tn _ _ 86 T σ108 [(5, .int (iI v32)), (4, .int (iI v25)), (3, .int (iI v18)), (2, .int (iI v11)), (0, .ref a), (1, .int (iI k))] [.int (iI v123), .ref xe] _
  refine tn_iload dX7_callFrom_86 1 rfl ?_
  refine tn_callSN (M := m_X7_callFrom) (pc := 88) (ix := 61) (M' := m_X11_put) (As := [.ref xe, .int (iI v123), .int (iI v25)]) (rest := []) dX7_callFrom_88 ok_X11_put stt_X11_put nl7_61 np_X11_put rfl (Nat.le_of_ble_eq_true rfl) (Nat.le_of_ble_eq_true rfl) rfl (k_X11_put_x (d + 2) (T := T) (σ := σ108) (x := xe) (i := v123) (y := v25) hk3i (by omega) (by omega) (by omega) w114 (nh_k hk3 (by unfold HT; omega)) (vok_1 (by have q9 := hk3; omega) (by omega))) (fun r124 T126 σ125 gt127 hp => ?_)
  obtain ⟨rfl, rfl, w131, F132, f128, f129⟩ := hp
  clear gt127
  have je133 : σ125 = jP T xe (v123) (v25) _ := f129
  show Tn _ _ 91 T σ125 [(5, .int (iI v32)), (4, .int (iI v25)), (3, .int (iI v18)), (2, .int (iI v11)), (0, .ref a), (1, .int (iI k))] [] _
  refine tn_aload_n dX7_callFrom_91 rfl 4 rfl ?_
  refine tn_getR (ci := 7) (i := 8) (n := 63) (x := xe) dX7_callFrom_92 rfl lay_7 (by decide) fl7_24 ha rfl rfl (rc_F F132 (Or.inl (by decide)) (by decide) (rc_F F115 (Or.inl (by decide)) (by decide) (rc_F F98 (Or.inl (by decide)) (by decide) (rc_F F82 (Or.inl (by decide)) (by decide) (hxe))))) ?_
  refine tn_aload_n dX7_callFrom_95 rfl 4 rfl ?_
  refine tn_iconst dX7_callFrom_96 ?_
  refine tn_callV (M := m_X7_callFrom) (pc := 97) (ix := 57) (ci := 7) (M' := m_X7_homeOfParam) (As := [.int (iI 3)]) (rest := [.ref xe]) dX7_callFrom_97 ok_X7_homeOfParam im_X7_homeOfParam se_X7_homeOfParam ml7_57 np_X7_homeOfParam rfl rfl ha rfl (Nat.le_of_ble_eq_true rfl) (Nat.le_of_ble_eq_true rfl) rfl (k_X7_homeOfParam_j (d) (T := T) (σ := σ125) (a := a) (p1 := 3) ha (by decide) w131 (by omega)) (fun r134 T136 σ135 gt137 hp => ?_)
  obtain ⟨v140, rfl, rfl, rfl, f138, f139⟩ := hp
  clear gt137
  show Tn _ _ 100 T σ125 [(5, .int (iI v32)), (4, .int (iI v25)), (3, .int (iI v18)), (2, .int (iI v11)), (0, .ref a), (1, .int (iI k))] [.int (iI v140), .ref xe] _
  refine tn_iload dX7_callFrom_100 0 rfl ?_
  refine tn_callSN (M := m_X7_callFrom) (pc := 102) (ix := 61) (M' := m_X11_put) (As := [.ref xe, .int (iI v140), .int (iI v32)]) (rest := []) dX7_callFrom_102 ok_X11_put stt_X11_put nl7_61 np_X11_put rfl (Nat.le_of_ble_eq_true rfl) (Nat.le_of_ble_eq_true rfl) rfl (k_X11_put_x (d + 2) (T := T) (σ := σ125) (x := xe) (i := v140) (y := v32) hk3i (by omega) (by omega) (by omega) w131 (nh_k hk3 (by unfold HT; omega)) (vok_1 (by have q9 := hk3; omega) (by omega))) (fun r141 T143 σ142 gt144 hp => ?_)
  obtain ⟨rfl, rfl, w148, F149, f145, f146⟩ := hp
  clear gt144
  have je150 : σ142 = jP T xe (v140) (v32) _ := f146
  show Tn _ _ 105 T σ142 [(5, .int (iI v32)), (4, .int (iI v25)), (3, .int (iI v18)), (2, .int (iI v11)), (0, .ref a), (1, .int (iI k))] [] _
  have q151 : σ142.2.1 57 a = σ73.2.1 57 a := rc_F F149 (Or.inl (by decide)) (by decide) (rc_F F132 (Or.inl (by decide)) (by decide) (rc_F F115 (Or.inl (by decide)) (by decide) (rc_F F98 (Or.inl (by decide)) (by decide) (rfl))))
  exact tn_vret rfl dX7_callFrom_105 ⟨rfl, rfl, w148, (((((FrC.rfl.trans (FrC.sub F82 (by decide))).trans (FrC.sub F98 (by decide))).trans (FrC.sub F115 (by decide))).trans (FrC.sub F132 (by decide))).trans (FrC.sub F149 (by decide))), (((((CHX.rfl.trans (CHX.sub f76 (by simp) (by simp) (by simp))).trans (CHX.sub f94 (by simp) (by simp) (by simp))).trans (CHX.sub f111 (by simp) (by simp) (by simp))).trans (CHX.sub f128 (by simp) (by simp) (by simp))).trans (CHX.sub f145 (by simp) (by simp) (by simp))), by omega, ⟨_, _, _, _, xq38, xq41, _, f10, f17, f24, f31, hx39, hx42, (by rw [← f50]; exact f78), _, _, _, _, f88, (by rw [← je99]; exact f105), (by rw [← je99, ← je116]; exact f122), (by rw [← je99, ← je116, ← je133]; exact f139), by rw [je150, je133, je116, je99]⟩, (((((FA.rfl.trans f79).trans (FA.of F98 (by decide))).trans (FA.of F115 (by decide))).trans (FA.of F132 (by decide))).trans (FA.of F149 (by decide)))⟩
end
section
set_option maxHeartbeats 1000000 in
set_option maxRecDepth 20000 in
theorem k_X7_giveBack_j (d : Nat) {T : CT} {σ : MS} {a : Nat} {n : Int} {xa : Nat} {xb : Nat} {xc : Nat} {xd : Nat} {xe : Nat} {y : Nat} (ha : OB T a 7) (hta : (T a).1 = 37) (h_n : -2147483648 ≤ n ∧ n ≤ 2147483647) (hw : WT T σ) (hxa : σ.2.1 59 a = (xa : Int)) (hxb : σ.2.1 60 a = (xb : Int)) (hxc : σ.2.1 61 a = (xc : Int)) (hxd : σ.2.1 62 a = (xd : Int)) (hxe : σ.2.1 63 a = (xe : Int)) (hy : σ.2.1 55 a = (y : Int)) : Tn (d + 3) m_X7_giveBack 0 T σ [(0, .ref a), (1, .int (iI n))] [] (fun ro T2 σ2 => ro = none ∧ T = T2 ∧ WT T2 σ2 ∧ FrC T [56, 57, 58, 68, 69] σ σ2 ∧ (CHX [(56, a), (57, a), (58, a), (68, a), (69, a)] [xb, xe] [] σ σ2) ∧ (σ2.2.1 57 a ≤ σ.2.1 57 a) ∧ (JGB T σ a xa xb xc xe y n σ2) ∧ (FA a σ σ2)) := by
  refine tn_aload_n dX7_giveBack_0 rfl 0 rfl ?_
  refine tn_dup dX7_giveBack_1 rfl ?_
  refine tn_getI (ci := 7) (i := 3) (n := 58) (t := σ.2.1 58 a) dX7_giveBack_2 rfl lay_7 (by decide) fl7_38 ha rfl rfl (rfl) ?_
  have g1 : ((-2147483648 : Int) ≤ σ.2.1 58 a ∧ σ.2.1 58 a ≤ 2147483647) := wf_58 hw ha
  refine tn_aload_n dX7_giveBack_5 rfl 0 rfl ?_
  refine tn_aload_n dX7_giveBack_6 rfl 0 rfl ?_
  refine tn_getI (ci := 7) (i := 2) (n := 57) (t := σ.2.1 57 a) dX7_giveBack_7 rfl lay_7 (by decide) fl7_65 ha rfl rfl (rfl) ?_
  have g2 : ((0 : Int) ≤ σ.2.1 57 a ∧ σ.2.1 57 a ≤ 11184800) ∧ ((T a).1 = 57 → σ.2.1 57 a ≤ 8) := wf_57 hw ha
  have g2x := g2.2
  replace g2 := g2.1
  clear g2x
  obtain ⟨hk5, hl6⟩ : AR T xa 15 9 9 := ar_of (wf_59 hw ha) hxa
  have hk5i : IA T xa := by unfold IA; omega
  obtain ⟨hl10, hk9a, hk9b⟩ := ex_at (wf_61 hw ha) hxc
  have hk9 : (T xc).1 = 1 := hk9b (by omega)
  clear hk9a hk9b
  have hk9i : IA T xc := by unfold IA; omega
  obtain ⟨hl14, hk13a, hk13b⟩ := ex_at (wf_55 hw ha) hy
  have hk13i : (T y).1 = 4 ∨ (T y).1 = 5 := by omega
  have hk13c : RROW T a y := ⟨hk13a, hk13b⟩
  clear hk13a hk13b
  refine tn_callV (M := m_X7_giveBack) (pc := 10) (ix := 140) (ci := 7) (M' := m_X7_chainOf) (As := [.int (iI (σ.2.1 57 a))]) (rest := [.int (iI (σ.2.1 58 a)), .ref a]) dX7_giveBack_10 ok_X7_chainOf im_X7_chainOf se_X7_chainOf ml7_140 np_X7_chainOf rfl rfl ha rfl (Nat.le_of_ble_eq_true rfl) (Nat.le_of_ble_eq_true rfl) rfl (k_X7_chainOf_j (d) (T := T) (σ := σ) (a := a) (p1 := σ.2.1 57 a) (xa := xa) (xc := xc) (y := y) ha (by omega) hw (hxa) (hxc) (hy)) (fun r15 T17 σ16 gt18 hp => ?_)
  obtain ⟨v21, rfl, rfl, rfl, f19, f20⟩ := hp
  clear gt18
  show Tn _ _ 13 T σ [(0, .ref a), (1, .int (iI n))] [.int (iI v21), .int (iI (σ.2.1 58 a)), .ref a] _
  refine tn_isub dX7_giveBack_13 ?_
  rw [show iI ((σ.2.1 58 a) - v21) = iI (w32 ((σ.2.1 58 a) - v21)) from (iI_self _).symm]
  have g22r : -2147483648 ≤ w32 ((σ.2.1 58 a) - v21) ∧ w32 ((σ.2.1 58 a) - v21) ≤ 2147483647 := inR_toInt _
  refine tn_putV (ci := 7) (i := 3) (n := 58) (r := false) (v := w32 ((σ.2.1 58 a) - v21)) tyX7 tyX7_ok nmX7 dX7_giveBack_14 rfl lay_7 (by decide) fl7_38 rfl (tyX7_ok 3 (by decide)) rfl rfl rfl ha rfl rfl ?_
  refine tn_aload_n dX7_giveBack_17 rfl 0 rfl ?_
  refine tn_getI (ci := 7) (i := 2) (n := 57) (t := σ.2.1 57 a) dX7_giveBack_18 rfl lay_7 (by decide) fl7_65 ha rfl rfl (rc_o (by decide) (rfl)) ?_
  refine tn_if_ne (tgt := 40) dX7_giveBack_21 (by decide) ⟨by omega, by omega⟩ (fun h23 => ?_) (fun h23 => ?_)
  · refine tn_aload_n dX7_giveBack_40 rfl 0 rfl ?_
    refine tn_dup dX7_giveBack_41 rfl ?_
    refine tn_getI (ci := 7) (i := 2) (n := 57) (t := σ.2.1 57 a) dX7_giveBack_42 rfl lay_7 (by decide) fl7_65 ha rfl rfl (rc_o (by decide) (rfl)) ?_
    refine tn_iconst dX7_giveBack_45 ?_
    refine tn_isub dX7_giveBack_46 ?_
    refine tn_putV (ci := 7) (i := 2) (n := 57) (r := false) (v := (σ.2.1 57 a) - 1) tyX7 tyX7_ok nmX7 dX7_giveBack_47 rfl lay_7 (by decide) fl7_65 rfl (tyX7_ok 2 (by decide)) rfl rfl rfl ha rfl rfl ?_
    refine tn_aload_n dX7_giveBack_50 rfl 0 rfl ?_
    refine tn_aload_n dX7_giveBack_51 rfl 0 rfl ?_
    refine tn_aload_n dX7_giveBack_52 rfl 0 rfl ?_
    refine tn_getR (ci := 7) (i := 4) (n := 59) (x := xa) dX7_giveBack_53 rfl lay_7 (by decide) fl7_9 ha rfl rfl (rc_o (by decide) (rc_o (by decide) (hxa))) ?_
    refine tn_aload_n dX7_giveBack_56 rfl 0 rfl ?_
    refine tn_getI (ci := 7) (i := 2) (n := 57) (t := (σ.2.1 57 a) - 1) dX7_giveBack_57 rfl lay_7 (by decide) fl7_65 ha rfl rfl (ra_eq) ?_
    refine tn_callSN (M := m_X7_giveBack) (pc := 60) (ix := 91) (M' := m_X11_at) (As := [.ref xa, .int (iI ((σ.2.1 57 a) - 1))]) (rest := [.ref a, .ref a]) dX7_giveBack_60 ok_X11_at stt_X11_at nl7_91 np_X11_at rfl (Nat.le_of_ble_eq_true rfl) (Nat.le_of_ble_eq_true rfl) rfl (k_X11_at_j (d + 1) (T := T) (σ := (sA 57 a ((σ.2.1 57 a) - 1) (sA 58 a (w32 ((σ.2.1 58 a) - v21)) σ))) (x := xa) (i := (σ.2.1 57 a) - 1) hk5i (by omega) (by omega) ((hw.put (by decide) (by decide) (fo_58 (by omega))).put (by decide) (by decide) (fo_57 ⟨by omega, by omega⟩)) ) (fun r24 T26 σ25 gt27 hp => ?_)
    obtain ⟨v31, rfl, rfl, rfl, f28, f29, f30⟩ := hp
    clear gt27
    clear f29
    show Tn _ _ 63 T (sA 57 a ((σ.2.1 57 a) - 1) (sA 58 a (w32 ((σ.2.1 58 a) - v21)) σ)) [(0, .ref a), (1, .int (iI n))] [.int (iI v31), .ref a, .ref a] _
    refine tn_callV (M := m_X7_giveBack) (pc := 63) (ix := 68) (ci := 7) (M' := m_X7_codeAt) (As := [.int (iI v31)]) (rest := [.ref a]) dX7_giveBack_63 ok_X7_codeAt im_X7_codeAt se_X7_codeAt ml7_68 np_X7_codeAt rfl rfl ha rfl (Nat.le_of_ble_eq_true rfl) (Nat.le_of_ble_eq_true rfl) rfl (k_X7_codeAt_j (d + 1) (T := T) (σ := (sA 57 a ((σ.2.1 57 a) - 1) (sA 58 a (w32 ((σ.2.1 58 a) - v21)) σ))) (a := a) (r := v31) (y := y) ha (by omega) ((hw.put (by decide) (by decide) (fo_58 (by omega))).put (by decide) (by decide) (fo_57 ⟨by omega, by omega⟩)) (rc_o (by decide) (rc_o (by decide) (hy)))) (fun r32 T34 σ33 gt35 hp => ?_)
    obtain ⟨v38, rfl, rfl, rfl, rv39, f36, f37⟩ := hp
    clear gt35
    rcases rv39 with rv39 | ⟨xq40, rfl, hk41⟩
    · show Tn _ _ 66 T (sA 57 a ((σ.2.1 57 a) - 1) (sA 58 a (w32 ((σ.2.1 58 a) - v21)) σ)) [(0, .ref a), (1, .int (iI n))] (vl true v38 :: [.ref a]) _
      rw [vl_null rv39]
      refine tn_putV (ci := 7) (i := 14) (n := 69) (r := true) (v := -1) tyX7 tyX7_ok nmX7 dX7_giveBack_66 rfl lay_7 (by decide) fl7_72 rfl (tyX7_ok 14 (by decide)) (vl_null (by decide)).symm rfl rfl ha rfl rfl ?_
      refine tn_aload_n dX7_giveBack_69 rfl 0 rfl ?_
      refine tn_getN (ci := 7) (i := 14) (n := 69) dX7_giveBack_70 rfl lay_7 (by decide) fl7_72 ha rfl rfl (by rw [ra_eq]; decide) ?_
      refine tn_ifnullN (tgt := 105) dX7_giveBack_73 (by decide) ?_
      refine tn_aload_n dX7_giveBack_105 rfl 0 rfl ?_
      obtain ⟨hk44, hl45⟩ : AR T xb 1 9 9 := ar_of (wf_60 hw ha) hxb
      have hk44i : IA T xb := by unfold IA; omega
      refine tn_getR (ci := 7) (i := 5) (n := 60) (x := xb) dX7_giveBack_106 rfl lay_7 (by decide) fl7_15 ha rfl rfl (rc_o (by decide) (rc_o (by decide) (rc_o (by decide) (hxb)))) ?_
      refine tn_aload_n dX7_giveBack_109 rfl 0 rfl ?_
      refine tn_getI (ci := 7) (i := 2) (n := 57) (t := (σ.2.1 57 a) - 1) dX7_giveBack_110 rfl lay_7 (by decide) fl7_65 ha rfl rfl (rc_o (by decide) (ra_eq)) ?_
      refine tn_aload_n dX7_giveBack_113 rfl 0 rfl ?_
      have q50 : (sA 69 a (-1) (sA 57 a ((σ.2.1 57 a) - 1) (sA 58 a (w32 ((σ.2.1 58 a) - v21)) σ))).2.1 57 a = (σ.2.1 57 a) - 1 := rc_o (by decide) (ra_eq)
      refine tn_callV (M := m_X7_giveBack) (pc := 114) (ix := 103) (ci := 7) (M' := m_X7_place) (As := []) (rest := [.int (iI ((σ.2.1 57 a) - 1)), .ref xb]) dX7_giveBack_114 ok_X7_place im_X7_place se_X7_place ml7_103 np_X7_place rfl rfl ha rfl (Nat.le_of_ble_eq_true rfl) (Nat.le_of_ble_eq_true rfl) rfl (k_X7_place_j (d) (T := T) (σ := (sA 69 a (-1) (sA 57 a ((σ.2.1 57 a) - 1) (sA 58 a (w32 ((σ.2.1 58 a) - v21)) σ)))) (a := a) (xb := xb) ha (((hw.put (by decide) (by decide) (fo_58 (by omega))).put (by decide) (by decide) (fo_57 ⟨by omega, by omega⟩)).put (by decide) (by decide) (fo_69 (Or.inl (by decide)))) (rc_o (by decide) (rc_o (by decide) (rc_o (by decide) (hxb))))) (fun r46 T48 σ47 gt49 hp => ?_)
      obtain ⟨v53, rfl, rfl, rfl, f51, f52⟩ := hp
      clear gt49
      show Tn _ _ 117 T (sA 69 a (-1) (sA 57 a ((σ.2.1 57 a) - 1) (sA 58 a (w32 ((σ.2.1 58 a) - v21)) σ))) [(0, .ref a), (1, .int (iI n))] [.int (iI v53), .int (iI ((σ.2.1 57 a) - 1)), .ref xb] _
      refine tn_iconst dX7_giveBack_117 ?_
      refine tn_iadd dX7_giveBack_118 ?_
      rw [show iI (v53 + 1) = iI (w32 (v53 + 1)) from (iI_self _).symm]
      have g54r : -2147483648 ≤ w32 (v53 + 1) ∧ w32 (v53 + 1) ≤ 2147483647 := inR_toInt _
      refine tn_callSN (M := m_X7_giveBack) (pc := 119) (ix := 61) (M' := m_X11_put) (As := [.ref xb, .int (iI ((σ.2.1 57 a) - 1)), .int (iI (w32 (v53 + 1)))]) (rest := []) dX7_giveBack_119 ok_X11_put stt_X11_put nl7_61 np_X11_put rfl (Nat.le_of_ble_eq_true rfl) (Nat.le_of_ble_eq_true rfl) rfl (k_X11_put_x (d + 1) (T := T) (σ := (sA 69 a (-1) (sA 57 a ((σ.2.1 57 a) - 1) (sA 58 a (w32 ((σ.2.1 58 a) - v21)) σ)))) (x := xb) (i := (σ.2.1 57 a) - 1) (y := w32 (v53 + 1)) hk44i (by omega) (by omega) (by omega) (((hw.put (by decide) (by decide) (fo_58 (by omega))).put (by decide) (by decide) (fo_57 ⟨by omega, by omega⟩)).put (by decide) (by decide) (fo_69 (Or.inl (by decide)))) (nh_k hk44 (by unfold HT; omega)) (vok_1 (by have q9 := hk44; omega) (by omega))) (fun r55 T57 σ56 gt58 hp => ?_)
      obtain ⟨rfl, rfl, w62, F63, f59, f60⟩ := hp
      clear gt58
      have je64 : σ56 = jP T xb ((σ.2.1 57 a) - 1) (w32 (v53 + 1)) _ := f60
      show Tn _ _ 122 T σ56 [(0, .ref a), (1, .int (iI n))] [] _
      have q65 : σ56.2.1 57 a = (σ.2.1 57 a) - 1 := rc_F F63 (Or.inl (by decide)) (by decide) (rc_o (by decide) (ra_eq))
      exact tn_vret rfl dX7_giveBack_122 ⟨rfl, rfl, w62, ((((FrC.rfl.put (by decide) (by decide)).put (by decide) (by decide)).put (by decide) (by decide)).trans (FrC.sub F63 (by decide))), ((((CHX.rfl.fld (by simp) (by decide)).fld (by simp) (by decide)).fld (by simp) (by decide)).trans (CHX.sub f59 (by simp) (by simp) (by simp))), by omega, Or.inr ⟨by omega, -1, _, _, by rw [← f20], Or.inr ⟨by rw [← f20, ← f30, ← f37]; assumption, rfl⟩, Or.inl ⟨by decide, rfl⟩, by rw [← f52]; exact je64⟩, ((((FA.rfl.put).put).put).trans (FA.of F63 (by decide)))⟩
    · show Tn _ _ 66 T (sA 57 a ((σ.2.1 57 a) - 1) (sA 58 a (w32 ((σ.2.1 58 a) - v21)) σ)) [(0, .ref a), (1, .int (iI n))] (vl true (xq40 : Int) :: [.ref a]) _
      rw [vl_ref rfl]
      have hk41o : OB T xq40 1 := hk41.1
      refine tn_putV (ci := 7) (i := 14) (n := 69) (r := true) (v := (xq40 : Int)) tyX7 tyX7_ok nmX7 dX7_giveBack_66 rfl lay_7 (by decide) fl7_72 rfl (tyX7_ok 14 (by decide)) (vl_ref rfl).symm rfl rfl ha rfl rfl ?_
      refine tn_aload_n dX7_giveBack_69 rfl 0 rfl ?_
      refine tn_getR (ci := 7) (i := 14) (n := 69) (x := xq40) dX7_giveBack_70 rfl lay_7 (by decide) fl7_72 ha rfl rfl (ra_eq) ?_
      refine tn_ifnull dX7_giveBack_73 ?_
      refine tn_aload_n dX7_giveBack_76 rfl 0 rfl ?_
      obtain ⟨hk68, hl69⟩ : AR T xe 1 1728 1728 := ar_of (wf_63 hw ha) hxe
      have hk68i : IA T xe := by unfold IA; omega
      refine tn_getR (ci := 7) (i := 8) (n := 63) (x := xe) dX7_giveBack_77 rfl lay_7 (by decide) fl7_24 ha rfl rfl (rc_o (by decide) (rc_o (by decide) (rc_o (by decide) (hxe)))) ?_
      refine tn_aload_n dX7_giveBack_80 rfl 0 rfl ?_
      refine tn_getI (ci := 7) (i := 2) (n := 57) (t := (σ.2.1 57 a) - 1) dX7_giveBack_81 rfl lay_7 (by decide) fl7_65 ha rfl rfl (rc_o (by decide) (ra_eq)) ?_
      refine tn_sipush dX7_giveBack_84 (by decide) ?_
      refine tn_imul dX7_giveBack_87 ?_
      refine tn_aload_n dX7_giveBack_88 rfl 0 rfl ?_
      refine tn_getR (ci := 7) (i := 14) (n := 69) (x := xq40) dX7_giveBack_89 rfl lay_7 (by decide) fl7_72 ha rfl rfl (ra_eq) ?_
      refine tn_aload_n dX7_giveBack_92 rfl 0 rfl ?_
      obtain ⟨hk72, hl73⟩ : AR T xb 1 9 9 := ar_of (wf_60 hw ha) hxb
      have hk72i : IA T xb := by unfold IA; omega
      have q78 : (sA 69 a ((xq40 : Int)) (sA 57 a ((σ.2.1 57 a) - 1) (sA 58 a (w32 ((σ.2.1 58 a) - v21)) σ))).2.1 57 a = (σ.2.1 57 a) - 1 := rc_o (by decide) (ra_eq)
      refine tn_callV (M := m_X7_giveBack) (pc := 93) (ix := 103) (ci := 7) (M' := m_X7_place) (As := []) (rest := [.ref xq40, .int (iI (((σ.2.1 57 a) - 1) * 192)), .ref xe]) dX7_giveBack_93 ok_X7_place im_X7_place se_X7_place ml7_103 np_X7_place rfl rfl ha rfl (Nat.le_of_ble_eq_true rfl) (Nat.le_of_ble_eq_true rfl) rfl (k_X7_place_j (d) (T := T) (σ := (sA 69 a ((xq40 : Int)) (sA 57 a ((σ.2.1 57 a) - 1) (sA 58 a (w32 ((σ.2.1 58 a) - v21)) σ)))) (a := a) (xb := xb) ha (((hw.put (by decide) (by decide) (fo_58 (by omega))).put (by decide) (by decide) (fo_57 ⟨by omega, by omega⟩)).put (by decide) (by decide) (fo_69 (Or.inr ⟨_, rfl, hk41.2.1, hk41.2.2⟩))) (rc_o (by decide) (rc_o (by decide) (rc_o (by decide) (hxb))))) (fun r74 T76 σ75 gt77 hp => ?_)
      obtain ⟨v81, rfl, rfl, rfl, f79, f80⟩ := hp
      clear gt77
      show Tn _ _ 96 T (sA 69 a ((xq40 : Int)) (sA 57 a ((σ.2.1 57 a) - 1) (sA 58 a (w32 ((σ.2.1 58 a) - v21)) σ))) [(0, .ref a), (1, .int (iI n))] [.int (iI v81), .ref xq40, .int (iI (((σ.2.1 57 a) - 1) * 192)), .ref xe] _
      refine tn_iconst dX7_giveBack_96 ?_
      obtain ⟨xq82, hx83, hl85, hk84a, hk84b⟩ := wf_5 hw hk41o
      have hk84i : IA T xq82 := by unfold IA; omega
      have hk84c : CELL T xq40 xq82 := ⟨hk84a, hk84b⟩
      clear hk84a hk84b
      refine tn_callV (M := m_X7_giveBack) (pc := 97) (ix := 117) (ci := 1) (M' := m_X1_get) (As := [.int (iI v81), .int (iI 1)]) (rest := [.int (iI (((σ.2.1 57 a) - 1) * 192)), .ref xe]) dX7_giveBack_97 ok_X1_get im_X1_get se_X1_get ml7_117 np_X1_get rfl rfl hk41o rfl (Nat.le_of_ble_eq_true rfl) (Nat.le_of_ble_eq_true rfl) rfl (k_X1_get_j (d + 1) (T := T) (σ := (sA 69 a ((xq40 : Int)) (sA 57 a ((σ.2.1 57 a) - 1) (sA 58 a (w32 ((σ.2.1 58 a) - v21)) σ)))) (a := xq40) (k := v81) (c := 1) (x := xq82) hk41o (by omega) (by decide) (((hw.put (by decide) (by decide) (fo_58 (by omega))).put (by decide) (by decide) (fo_57 ⟨by omega, by omega⟩)).put (by decide) (by decide) (fo_69 (Or.inr ⟨_, rfl, hk41.2.1, hk41.2.2⟩))) (rc_o (by decide) (rc_o (by decide) (rc_o (by decide) (hx83)))) (by omega)) (fun r86 T88 σ87 gt89 hp => ?_)
      obtain ⟨v92, rfl, rfl, rfl, f90, f91⟩ := hp
      clear gt89
      show Tn _ _ 100 T (sA 69 a ((xq40 : Int)) (sA 57 a ((σ.2.1 57 a) - 1) (sA 58 a (w32 ((σ.2.1 58 a) - v21)) σ))) [(0, .ref a), (1, .int (iI n))] [.int (iI v92), .int (iI (((σ.2.1 57 a) - 1) * 192)), .ref xe] _
      refine tn_iadd dX7_giveBack_100 ?_
      rw [show iI ((((σ.2.1 57 a) - 1) * 192) + v92) = iI (w32 ((((σ.2.1 57 a) - 1) * 192) + v92)) from (iI_self _).symm]
      have g93r : -2147483648 ≤ w32 ((((σ.2.1 57 a) - 1) * 192) + v92) ∧ w32 ((((σ.2.1 57 a) - 1) * 192) + v92) ≤ 2147483647 := inR_toInt _
      refine tn_iload_n dX7_giveBack_101 rfl 1 rfl ?_
      refine tn_callSN (M := m_X7_giveBack) (pc := 102) (ix := 61) (M' := m_X11_put) (As := [.ref xe, .int (iI (w32 ((((σ.2.1 57 a) - 1) * 192) + v92))), .int (iI n)]) (rest := []) dX7_giveBack_102 ok_X11_put stt_X11_put nl7_61 np_X11_put rfl (Nat.le_of_ble_eq_true rfl) (Nat.le_of_ble_eq_true rfl) rfl (k_X11_put_x (d + 1) (T := T) (σ := (sA 69 a ((xq40 : Int)) (sA 57 a ((σ.2.1 57 a) - 1) (sA 58 a (w32 ((σ.2.1 58 a) - v21)) σ)))) (x := xe) (i := w32 ((((σ.2.1 57 a) - 1) * 192) + v92)) (y := n) hk68i (by omega) (by omega) (by omega) (((hw.put (by decide) (by decide) (fo_58 (by omega))).put (by decide) (by decide) (fo_57 ⟨by omega, by omega⟩)).put (by decide) (by decide) (fo_69 (Or.inr ⟨_, rfl, hk41.2.1, hk41.2.2⟩))) (nh_k hk68 (by unfold HT; omega)) (vok_1 (by have q9 := hk68; omega) (by omega))) (fun r94 T96 σ95 gt97 hp => ?_)
      obtain ⟨rfl, rfl, w101, F102, f98, f99⟩ := hp
      clear gt97
      have je103 : σ95 = jP T xe (w32 ((((σ.2.1 57 a) - 1) * 192) + v92)) (n) _ := f99
      show Tn _ _ 105 T σ95 [(0, .ref a), (1, .int (iI n))] [] _
      refine tn_aload_n dX7_giveBack_105 rfl 0 rfl ?_
      refine tn_getR (ci := 7) (i := 5) (n := 60) (x := xb) dX7_giveBack_106 rfl lay_7 (by decide) fl7_15 ha rfl rfl (rc_F F102 (Or.inl (by decide)) (by decide) (rc_o (by decide) (rc_o (by decide) (rc_o (by decide) (hxb))))) ?_
      refine tn_aload_n dX7_giveBack_109 rfl 0 rfl ?_
      refine tn_getI (ci := 7) (i := 2) (n := 57) (t := (σ.2.1 57 a) - 1) dX7_giveBack_110 rfl lay_7 (by decide) fl7_65 ha rfl rfl (rc_F F102 (Or.inl (by decide)) (by decide) (rc_o (by decide) (ra_eq))) ?_
      refine tn_aload_n dX7_giveBack_113 rfl 0 rfl ?_
      have q108 : σ95.2.1 57 a = (σ.2.1 57 a) - 1 := rc_F F102 (Or.inl (by decide)) (by decide) (rc_o (by decide) (ra_eq))
      refine tn_callV (M := m_X7_giveBack) (pc := 114) (ix := 103) (ci := 7) (M' := m_X7_place) (As := []) (rest := [.int (iI ((σ.2.1 57 a) - 1)), .ref xb]) dX7_giveBack_114 ok_X7_place im_X7_place se_X7_place ml7_103 np_X7_place rfl rfl ha rfl (Nat.le_of_ble_eq_true rfl) (Nat.le_of_ble_eq_true rfl) rfl (k_X7_place_j (d) (T := T) (σ := σ95) (a := a) (xb := xb) ha w101 (rc_F F102 (Or.inl (by decide)) (by decide) (rc_o (by decide) (rc_o (by decide) (rc_o (by decide) (hxb)))))) (fun r104 T106 σ105 gt107 hp => ?_)
      obtain ⟨v111, rfl, rfl, rfl, f109, f110⟩ := hp
      clear gt107
      show Tn _ _ 117 T σ95 [(0, .ref a), (1, .int (iI n))] [.int (iI v111), .int (iI ((σ.2.1 57 a) - 1)), .ref xb] _
      refine tn_iconst dX7_giveBack_117 ?_
      refine tn_iadd dX7_giveBack_118 ?_
      rw [show iI (v111 + 1) = iI (w32 (v111 + 1)) from (iI_self _).symm]
      have g112r : -2147483648 ≤ w32 (v111 + 1) ∧ w32 (v111 + 1) ≤ 2147483647 := inR_toInt _
      refine tn_callSN (M := m_X7_giveBack) (pc := 119) (ix := 61) (M' := m_X11_put) (As := [.ref xb, .int (iI ((σ.2.1 57 a) - 1)), .int (iI (w32 (v111 + 1)))]) (rest := []) dX7_giveBack_119 ok_X11_put stt_X11_put nl7_61 np_X11_put rfl (Nat.le_of_ble_eq_true rfl) (Nat.le_of_ble_eq_true rfl) rfl (k_X11_put_x (d + 1) (T := T) (σ := σ95) (x := xb) (i := (σ.2.1 57 a) - 1) (y := w32 (v111 + 1)) hk72i (by omega) (by omega) (by omega) w101 (nh_k hk72 (by unfold HT; omega)) (vok_1 (by have q9 := hk72; omega) (by omega))) (fun r113 T115 σ114 gt116 hp => ?_)
      obtain ⟨rfl, rfl, w120, F121, f117, f118⟩ := hp
      clear gt116
      have je122 : σ114 = jP T xb ((σ.2.1 57 a) - 1) (w32 (v111 + 1)) _ := f118
      show Tn _ _ 122 T σ114 [(0, .ref a), (1, .int (iI n))] [] _
      have q123 : σ114.2.1 57 a = (σ.2.1 57 a) - 1 := rc_F F121 (Or.inl (by decide)) (by decide) (rc_F F102 (Or.inl (by decide)) (by decide) (rc_o (by decide) (ra_eq)))
      exact tn_vret rfl dX7_giveBack_122 ⟨rfl, rfl, w120, (((((FrC.rfl.put (by decide) (by decide)).put (by decide) (by decide)).put (by decide) (by decide)).trans (FrC.sub F102 (by decide))).trans (FrC.sub F121 (by decide))), (((((CHX.rfl.fld (by simp) (by decide)).fld (by simp) (by decide)).fld (by simp) (by decide)).trans (CHX.sub f98 (by simp) (by simp) (by simp))).trans (CHX.sub f117 (by simp) (by simp) (by simp))), by omega, Or.inr ⟨by omega, (xq40 : Int), _, σ95, by rw [← f20], Or.inl (by rw [← f20, ← f30]; exact f37), Or.inr ⟨xq40, xq82, rfl, hx83, by rw [← f80, ← f91]; exact je103⟩, by rw [← f110]; exact je122⟩, (((((FA.rfl.put).put).put).trans (FA.of F102 (by decide))).trans (FA.of F121 (by decide)))⟩
  · refine tn_aload_n dX7_giveBack_24 rfl 0 rfl ?_
    refine tn_iconst dX7_giveBack_25 ?_
    refine tn_putV (ci := 7) (i := 1) (n := 56) (r := false) (v := 2) tyX7 tyX7_ok nmX7 dX7_giveBack_26 rfl lay_7 (by decide) fl7_34 rfl (tyX7_ok 1 (by decide)) rfl rfl rfl ha rfl rfl ?_
    refine tn_aload_n dX7_giveBack_29 rfl 0 rfl ?_
    refine tn_iload_n dX7_giveBack_30 rfl 1 rfl ?_
    refine tn_putV (ci := 7) (i := 13) (n := 68) (r := false) (v := n) tyX7 tyX7_ok nmX7 dX7_giveBack_31 rfl lay_7 (by decide) fl7_50 rfl (tyX7_ok 13 (by decide)) rfl rfl rfl ha rfl rfl ?_
    refine tn_aload_n dX7_giveBack_34 rfl 0 rfl ?_
    refine tn_iconst dX7_giveBack_35 ?_
    refine tn_putV (ci := 7) (i := 3) (n := 58) (r := false) (v := 0) tyX7 tyX7_ok nmX7 dX7_giveBack_36 rfl lay_7 (by decide) fl7_38 rfl (tyX7_ok 3 (by decide)) rfl rfl rfl ha rfl rfl ?_
    have q124 : (sA 58 a (0) (sA 68 a (n) (sA 56 a (2) (sA 58 a (w32 ((σ.2.1 58 a) - v21)) σ)))).2.1 57 a = σ.2.1 57 a := rc_o (by decide) (rc_o (by decide) (rc_o (by decide) (rc_o (by decide) (rfl))))
    exact tn_vret rfl dX7_giveBack_39 ⟨rfl, rfl, ((((hw.put (by decide) (by decide) (fo_58 (by omega))).put (by decide) (by decide) (fo_56 (by omega))).put (by decide) (by decide) (fo_68 (by omega))).put (by decide) (by decide) (fo_58 (by omega))), ((((FrC.rfl.put (by decide) (by decide)).put (by decide) (by decide)).put (by decide) (by decide)).put (by decide) (by decide)), ((((CHX.rfl.fld (by simp) (by decide)).fld (by simp) (by decide)).fld (by simp) (by decide)).fld (by simp) (by decide)), by omega, Or.inl ⟨by omega, by rw [← f20]⟩, ((((FA.rfl.put).put).put).put)⟩
end
