set_option maxHeartbeats 1000000 in
set_option maxRecDepth 20000 in
theorem k_X7_reckonAt_j (d : Nat) {T : CT} {σ : MS} {a : Nat} {k : Int} {e : Int} {xe : Nat} (ha : OB T a 7) (h_k : -2147483648 ≤ k ∧ k ≤ 2147483647) (h_e : -2147483648 ≤ e ∧ e ≤ 2147483647) (hw : WT T σ) (hxe : σ.2.1 63 a = (xe : Int)) (hn : 0 ≤ σ.2.1 69 a) : Tn (d + 3) m_X7_reckonAt 0 T σ [(0, .ref a), (1, .int (iI k)), (2, .int (iI e))] [] (fun ro T2 σ2 => ro = none ∧ T = T2 ∧ WT T2 σ2 ∧ FrC T [] σ σ2 ∧ (CHX [] [xe] [] σ σ2) ∧ (JRK T σ a xe k e σ2)) := by
  refine tn_iload_n dX7_reckonAt_0 rfl 2 rfl ?_
  refine tn_callSN (M := m_X7_reckonAt) (pc := 1) (ix := 132) (M' := m_X11_isPure) (As := [.int (iI e)]) (rest := []) dX7_reckonAt_1 ok_X11_isPure stt_X11_isPure nl7_132 np_X11_isPure rfl (Nat.le_of_ble_eq_true rfl) (Nat.le_of_ble_eq_true rfl) rfl (k_X11_isPure_x (d + 1) (T := T) (σ := σ) (k := e) (by omega) hw ) (fun r1 T3 σ2 gt4 hp => ?_)
  obtain ⟨v7, rfl, rfl, rfl, f5, f6⟩ := hp
  clear gt4
  show Tn _ _ 4 T σ [(0, .ref a), (1, .int (iI k)), (2, .int (iI e))] [.int (iI v7)] _
  refine tn_if_eq (tgt := 58) dX7_reckonAt_4 (by decide) ⟨by omega, by omega⟩ (fun h8 => ?_) (fun h8 => ?_)
  · exact tn_vret rfl dX7_reckonAt_58 ⟨rfl, rfl, hw, FrC.rfl, CHX.rfl, Or.inl ⟨by omega, rfl⟩⟩
  · refine tn_iload_n dX7_reckonAt_7 rfl 2 rfl ?_
    refine tn_if_ne (tgt := 15) dX7_reckonAt_8 (by decide) ⟨by omega, by omega⟩ (fun h9 => ?_) (fun h9 => ?_)
    · refine tn_aload_n dX7_reckonAt_15 rfl 0 rfl ?_
      refine tn_iload_n dX7_reckonAt_16 rfl 1 rfl ?_
      refine tn_iconst dX7_reckonAt_17 ?_
      obtain ⟨hk12, hl13⟩ : AR T xe 1 1728 1728 := ar_of (wf_63 hw ha) hxe
      have hk12i : IA T xe := by unfold IA; omega
      refine tn_callV (M := m_X7_reckonAt) (pc := 18) (ix := 110) (ci := 7) (M' := m_X7_operand) (As := [.int (iI k), .int (iI 5)]) (rest := []) dX7_reckonAt_18 ok_X7_operand im_X7_operand se_X7_operand ml7_110 np_X7_operand rfl rfl ha rfl (Nat.le_of_ble_eq_true rfl) (Nat.le_of_ble_eq_true rfl) rfl (k_X7_operand_j (d) (T := T) (σ := σ) (a := a) (k := k) (c := 5) (xe := xe) ha (by omega) (by decide) hw (hxe) (by rw [show σ.2.1 69 a = σ.2.1 69 a from rfl]; exact hn) (by omega)) (fun r14 T16 σ15 gt17 hp => ?_)
      obtain ⟨v20, rfl, rfl, rfl, f18, f19⟩ := hp
      clear gt17
      show Tn _ _ 21 T σ [(0, .ref a), (1, .int (iI k)), (2, .int (iI e))] [.int (iI v20)] _
      refine tn_istore_n (L' := [(3, .int (iI v20)), (0, .ref a), (1, .int (iI k)), (2, .int (iI e))]) dX7_reckonAt_21 rfl (by decide) rfl ?_
      refine tn_aload_n dX7_reckonAt_22 rfl 1 rfl ?_
      refine tn_getR (ci := 7) (i := 8) (n := 63) (x := xe) dX7_reckonAt_23 rfl lay_7 (by decide) fl7_24 ha rfl rfl (hxe) ?_
      refine tn_aload_n dX7_reckonAt_26 rfl 1 rfl ?_
      refine tn_getI (ci := 7) (i := 2) (n := 57) (t := σ.2.1 57 a) dX7_reckonAt_27 rfl lay_7 (by decide) fl7_65 ha rfl rfl (rfl) ?_
      have g21 : ((0 : Int) ≤ σ.2.1 57 a ∧ σ.2.1 57 a ≤ 11184800) ∧ ((T a).1 = 57 → σ.2.1 57 a ≤ 8) := wf_57 hw ha
      have g21x := g21.2
      replace g21 := g21.1
      clear g21x
      refine tn_sipush dX7_reckonAt_30 (by decide) ?_
      refine tn_imul dX7_reckonAt_33 ?_
      refine tn_aload_n dX7_reckonAt_34 rfl 1 rfl ?_
      obtain ⟨xq26, hx27, hk28a, hk28b⟩ := (wf_69 hw ha).resolve_left (by have q9 := hn; omega)
      have hk28o : OB T xq26 1 := (show RC T a xq26 from ⟨hk28a, hk28b⟩).ob
      clear hk28a hk28b
      refine tn_getR (ci := 7) (i := 14) (n := 69) (x := xq26) dX7_reckonAt_35 rfl lay_7 (by decide) fl7_72 ha rfl rfl (hx27) ?_
      refine tn_iload_n dX7_reckonAt_38 rfl 2 rfl ?_
      refine tn_iconst dX7_reckonAt_39 ?_
      obtain ⟨xq29, hx30, hl32, hk31a, hk31b⟩ := wf_5 hw hk28o
      have hk31i : IA T xq29 := by unfold IA; omega
      have hk31c : CELL T xq26 xq29 := ⟨hk31a, hk31b⟩
      clear hk31a hk31b
      refine tn_callV (M := m_X7_reckonAt) (pc := 40) (ix := 117) (ci := 1) (M' := m_X1_get) (As := [.int (iI k), .int (iI 1)]) (rest := [.int (iI ((σ.2.1 57 a) * 192)), .ref xe]) dX7_reckonAt_40 ok_X1_get im_X1_get se_X1_get ml7_117 np_X1_get rfl rfl hk28o rfl (Nat.le_of_ble_eq_true rfl) (Nat.le_of_ble_eq_true rfl) rfl (k_X1_get_j (d + 1) (T := T) (σ := σ) (a := xq26) (k := k) (c := 1) (x := xq29) hk28o (by omega) (by decide) hw (hx30) (by omega)) (fun r33 T35 σ34 gt36 hp => ?_)
      obtain ⟨v39, rfl, rfl, rfl, f37, f38⟩ := hp
      clear gt36
      show Tn _ _ 43 T σ [(3, .int (iI v20)), (0, .ref a), (1, .int (iI k)), (2, .int (iI e))] [.int (iI v39), .int (iI ((σ.2.1 57 a) * 192)), .ref xe] _
      refine tn_iadd dX7_reckonAt_43 ?_
      rw [show iI (((σ.2.1 57 a) * 192) + v39) = iI (w32 (((σ.2.1 57 a) * 192) + v39)) from (iI_self _).symm]
      have g40r : -2147483648 ≤ w32 (((σ.2.1 57 a) * 192) + v39) ∧ w32 (((σ.2.1 57 a) * 192) + v39) ≤ 2147483647 := inR_toInt _
      refine tn_iload_n dX7_reckonAt_44 rfl 3 rfl ?_
      refine tn_aload_n dX7_reckonAt_45 rfl 1 rfl ?_
      refine tn_iload_n dX7_reckonAt_46 rfl 2 rfl ?_
      refine tn_iconst dX7_reckonAt_47 ?_
      refine tn_callV (M := m_X7_reckonAt) (pc := 48) (ix := 110) (ci := 7) (M' := m_X7_operand) (As := [.int (iI k), .int (iI 3)]) (rest := [.int (iI e), .int (iI (w32 (((σ.2.1 57 a) * 192) + v39))), .ref xe]) dX7_reckonAt_48 ok_X7_operand im_X7_operand se_X7_operand ml7_110 np_X7_operand rfl rfl ha rfl (Nat.le_of_ble_eq_true rfl) (Nat.le_of_ble_eq_true rfl) rfl (k_X7_operand_j (d) (T := T) (σ := σ) (a := a) (k := k) (c := 3) (xe := xe) ha (by omega) (by decide) hw (hxe) (by rw [show σ.2.1 69 a = _ from hx27]; omega) (by omega)) (fun r41 T43 σ42 gt44 hp => ?_)
      obtain ⟨v47, rfl, rfl, rfl, f45, f46⟩ := hp
      clear gt44
      show Tn _ _ 51 T σ [(3, .int (iI v20)), (0, .ref a), (1, .int (iI k)), (2, .int (iI e))] [.int (iI v47), .int (iI e), .int (iI (w32 (((σ.2.1 57 a) * 192) + v39))), .ref xe] _
      refine tn_iload_n dX7_reckonAt_51 rfl 0 rfl ?_
      refine tn_callSN (M := m_X7_reckonAt) (pc := 52) (ix := 136) (M' := m_X11_reckon) (As := [.int (iI e), .int (iI v47), .int (iI v20)]) (rest := [.int (iI (w32 (((σ.2.1 57 a) * 192) + v39))), .ref xe]) dX7_reckonAt_52 ok_X11_reckon stt_X11_reckon nl7_136 np_X11_reckon rfl (Nat.le_of_ble_eq_true rfl) (Nat.le_of_ble_eq_true rfl) rfl (k_X11_reckon_j (d + 1) (T := T) (σ := σ) (k := e) (x := v47) (y := v20) (by omega) (by omega) (by omega) hw ) (fun r48 T50 σ49 gt51 hp => ?_)
      obtain ⟨v54, rfl, rfl, rfl, f52, f53⟩ := hp
      clear gt51
      show Tn _ _ 55 T σ [(3, .int (iI v20)), (0, .ref a), (1, .int (iI k)), (2, .int (iI e))] [.int (iI v54), .int (iI (w32 (((σ.2.1 57 a) * 192) + v39))), .ref xe] _
      refine tn_callSN (M := m_X7_reckonAt) (pc := 55) (ix := 61) (M' := m_X11_put) (As := [.ref xe, .int (iI (w32 (((σ.2.1 57 a) * 192) + v39))), .int (iI v54)]) (rest := []) dX7_reckonAt_55 ok_X11_put stt_X11_put nl7_61 np_X11_put rfl (Nat.le_of_ble_eq_true rfl) (Nat.le_of_ble_eq_true rfl) rfl (k_X11_put_x (d + 1) (T := T) (σ := σ) (x := xe) (i := w32 (((σ.2.1 57 a) * 192) + v39)) (y := v54) hk12i (by omega) (by omega) (by omega) hw (nh_k hk12 (by unfold HT; omega)) (vok_1 (by have q9 := hk12; omega) (by omega))) (fun r55 T57 σ56 gt58 hp => ?_)
      obtain ⟨rfl, rfl, w62, F63, f59, f60⟩ := hp
      clear gt58
      have je64 : σ56 = jP T xe (w32 (((σ.2.1 57 a) * 192) + v39)) (v54) _ := f60
      show Tn _ _ 58 T σ56 [(3, .int (iI v20)), (0, .ref a), (1, .int (iI k)), (2, .int (iI e))] [] _
      exact tn_vret rfl dX7_reckonAt_58 ⟨rfl, rfl, w62, (FrC.rfl.trans (FrC.sub F63 (by decide))), (CHX.rfl.trans (CHX.sub f59 (by simp) (by simp) (by simp))), Or.inr ⟨by omega, xq26, xq29, _, _, hx27, hx30, f46, Or.inr ⟨by omega, f19⟩, by rw [← f38, ← f53]; exact je64⟩⟩
    · refine tn_iconst dX7_reckonAt_11 ?_
      refine tn_goto (tgt := 21) dX7_reckonAt_12 (by decide) ?_
      refine tn_istore_n (L' := [(3, .int (iI 0)), (0, .ref a), (1, .int (iI k)), (2, .int (iI e))]) dX7_reckonAt_21 rfl (by decide) rfl ?_
      refine tn_aload_n dX7_reckonAt_22 rfl 1 rfl ?_
      obtain ⟨hk67, hl68⟩ : AR T xe 1 1728 1728 := ar_of (wf_63 hw ha) hxe
      have hk67i : IA T xe := by unfold IA; omega
      refine tn_getR (ci := 7) (i := 8) (n := 63) (x := xe) dX7_reckonAt_23 rfl lay_7 (by decide) fl7_24 ha rfl rfl (hxe) ?_
      refine tn_aload_n dX7_reckonAt_26 rfl 1 rfl ?_
      refine tn_getI (ci := 7) (i := 2) (n := 57) (t := σ.2.1 57 a) dX7_reckonAt_27 rfl lay_7 (by decide) fl7_65 ha rfl rfl (rfl) ?_
      have g69 : ((0 : Int) ≤ σ.2.1 57 a ∧ σ.2.1 57 a ≤ 11184800) ∧ ((T a).1 = 57 → σ.2.1 57 a ≤ 8) := wf_57 hw ha
      have g69x := g69.2
      replace g69 := g69.1
      clear g69x
      refine tn_sipush dX7_reckonAt_30 (by decide) ?_
      refine tn_imul dX7_reckonAt_33 ?_
      refine tn_aload_n dX7_reckonAt_34 rfl 1 rfl ?_
      obtain ⟨xq74, hx75, hk76a, hk76b⟩ := (wf_69 hw ha).resolve_left (by have q9 := hn; omega)
      have hk76o : OB T xq74 1 := (show RC T a xq74 from ⟨hk76a, hk76b⟩).ob
      clear hk76a hk76b
      refine tn_getR (ci := 7) (i := 14) (n := 69) (x := xq74) dX7_reckonAt_35 rfl lay_7 (by decide) fl7_72 ha rfl rfl (hx75) ?_
      refine tn_iload_n dX7_reckonAt_38 rfl 2 rfl ?_
      refine tn_iconst dX7_reckonAt_39 ?_
      obtain ⟨xq77, hx78, hl80, hk79a, hk79b⟩ := wf_5 hw hk76o
      have hk79i : IA T xq77 := by unfold IA; omega
      have hk79c : CELL T xq74 xq77 := ⟨hk79a, hk79b⟩
      clear hk79a hk79b
      refine tn_callV (M := m_X7_reckonAt) (pc := 40) (ix := 117) (ci := 1) (M' := m_X1_get) (As := [.int (iI k), .int (iI 1)]) (rest := [.int (iI ((σ.2.1 57 a) * 192)), .ref xe]) dX7_reckonAt_40 ok_X1_get im_X1_get se_X1_get ml7_117 np_X1_get rfl rfl hk76o rfl (Nat.le_of_ble_eq_true rfl) (Nat.le_of_ble_eq_true rfl) rfl (k_X1_get_j (d + 1) (T := T) (σ := σ) (a := xq74) (k := k) (c := 1) (x := xq77) hk76o (by omega) (by decide) hw (hx78) (by omega)) (fun r81 T83 σ82 gt84 hp => ?_)
      obtain ⟨v87, rfl, rfl, rfl, f85, f86⟩ := hp
      clear gt84
      show Tn _ _ 43 T σ [(3, .int (iI 0)), (0, .ref a), (1, .int (iI k)), (2, .int (iI e))] [.int (iI v87), .int (iI ((σ.2.1 57 a) * 192)), .ref xe] _
      refine tn_iadd dX7_reckonAt_43 ?_
      rw [show iI (((σ.2.1 57 a) * 192) + v87) = iI (w32 (((σ.2.1 57 a) * 192) + v87)) from (iI_self _).symm]
      have g88r : -2147483648 ≤ w32 (((σ.2.1 57 a) * 192) + v87) ∧ w32 (((σ.2.1 57 a) * 192) + v87) ≤ 2147483647 := inR_toInt _
      refine tn_iload_n dX7_reckonAt_44 rfl 3 rfl ?_
      refine tn_aload_n dX7_reckonAt_45 rfl 1 rfl ?_
      refine tn_iload_n dX7_reckonAt_46 rfl 2 rfl ?_
      refine tn_iconst dX7_reckonAt_47 ?_
      refine tn_callV (M := m_X7_reckonAt) (pc := 48) (ix := 110) (ci := 7) (M' := m_X7_operand) (As := [.int (iI k), .int (iI 3)]) (rest := [.int (iI e), .int (iI (w32 (((σ.2.1 57 a) * 192) + v87))), .ref xe]) dX7_reckonAt_48 ok_X7_operand im_X7_operand se_X7_operand ml7_110 np_X7_operand rfl rfl ha rfl (Nat.le_of_ble_eq_true rfl) (Nat.le_of_ble_eq_true rfl) rfl (k_X7_operand_j (d) (T := T) (σ := σ) (a := a) (k := k) (c := 3) (xe := xe) ha (by omega) (by decide) hw (hxe) (by rw [show σ.2.1 69 a = _ from hx75]; omega) (by omega)) (fun r89 T91 σ90 gt92 hp => ?_)
      obtain ⟨v95, rfl, rfl, rfl, f93, f94⟩ := hp
      clear gt92
      show Tn _ _ 51 T σ [(3, .int (iI 0)), (0, .ref a), (1, .int (iI k)), (2, .int (iI e))] [.int (iI v95), .int (iI e), .int (iI (w32 (((σ.2.1 57 a) * 192) + v87))), .ref xe] _
      refine tn_iload_n dX7_reckonAt_51 rfl 0 rfl ?_
      refine tn_callSN (M := m_X7_reckonAt) (pc := 52) (ix := 136) (M' := m_X11_reckon) (As := [.int (iI e), .int (iI v95), .int (iI 0)]) (rest := [.int (iI (w32 (((σ.2.1 57 a) * 192) + v87))), .ref xe]) dX7_reckonAt_52 ok_X11_reckon stt_X11_reckon nl7_136 np_X11_reckon rfl (Nat.le_of_ble_eq_true rfl) (Nat.le_of_ble_eq_true rfl) rfl (k_X11_reckon_j (d + 1) (T := T) (σ := σ) (k := e) (x := v95) (y := 0) (by omega) (by omega) (by decide) hw ) (fun r96 T98 σ97 gt99 hp => ?_)
      obtain ⟨v102, rfl, rfl, rfl, f100, f101⟩ := hp
      clear gt99
      show Tn _ _ 55 T σ [(3, .int (iI 0)), (0, .ref a), (1, .int (iI k)), (2, .int (iI e))] [.int (iI v102), .int (iI (w32 (((σ.2.1 57 a) * 192) + v87))), .ref xe] _
      refine tn_callSN (M := m_X7_reckonAt) (pc := 55) (ix := 61) (M' := m_X11_put) (As := [.ref xe, .int (iI (w32 (((σ.2.1 57 a) * 192) + v87))), .int (iI v102)]) (rest := []) dX7_reckonAt_55 ok_X11_put stt_X11_put nl7_61 np_X11_put rfl (Nat.le_of_ble_eq_true rfl) (Nat.le_of_ble_eq_true rfl) rfl (k_X11_put_x (d + 1) (T := T) (σ := σ) (x := xe) (i := w32 (((σ.2.1 57 a) * 192) + v87)) (y := v102) hk67i (by omega) (by omega) (by omega) hw (nh_k hk67 (by unfold HT; omega)) (vok_1 (by have q9 := hk67; omega) (by omega))) (fun r103 T105 σ104 gt106 hp => ?_)
      obtain ⟨rfl, rfl, w110, F111, f107, f108⟩ := hp
      clear gt106
      have je112 : σ104 = jP T xe (w32 (((σ.2.1 57 a) * 192) + v87)) (v102) _ := f108
      show Tn _ _ 58 T σ104 [(3, .int (iI 0)), (0, .ref a), (1, .int (iI k)), (2, .int (iI e))] [] _
      exact tn_vret rfl dX7_reckonAt_58 ⟨rfl, rfl, w110, (FrC.rfl.trans (FrC.sub F111 (by decide))), (CHX.rfl.trans (CHX.sub f107 (by simp) (by simp) (by simp))), Or.inr ⟨by omega, xq74, xq77, _, _, hx75, hx78, f94, Or.inl ⟨by omega, rfl⟩, by rw [← f86, ← f101]; exact je112⟩⟩
