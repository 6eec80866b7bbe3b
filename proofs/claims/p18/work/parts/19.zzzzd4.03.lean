section
set_option maxHeartbeats 1000000 in
set_option maxRecDepth 20000 in
theorem l_X10_nameBind_t_66 (d : Nat) {T : CT} {σ : MS} {a : Nat} {rx1 : Nat} {c2 : Int} {c3 : Int} {x : Nat} {n : Int} {W : Int → It} {xh : Nat} {Rh : Int → Int} {P : Int} {xb : Nat} {post : Option Value → CT → MS → Prop} (h_a : OB T a 10) (h_rx1 : OB T rx1 1) (t_rx1 : (T rx1).1 = 50) (r_c2 : 0 ≤ c2 ∧ c2 ≤ 199) (r_c3 : -2147483648 ≤ c3 ∧ c3 ≤ 9) (hw : WT T σ) (hk : 0 ≤ c2 ∧ c2 < n) (h3 : c3 = W c2 11) (hx : σ.2.1 5 rx1 = (x : Int)) (hn : σ.2.1 6 rx1 = n) (hW : cW σ x n = W) (hxh : σ.2.1 15 rx1 = (xh : Int)) (hRh : σ.2.1 (1000 + xh) = Rh) (hP : σ.2.1 8 rx1 = P) (hxb : σ.2.1 90 a = (xb : Int)) (hN : n ≤ 200) (hx_96 : ∀ (i4 : Int) , (0 ≤ i4 ∧ i4 ≤ 4) → (True) → (W c2 11 = 2 ∧ (0 ≤ i4 ∧ i4 < P) ∧ Rh i4 = W c2 4) → Tn (d + 4) m_X10_nameBind 96 T σ [(0, .ref a), (1, .ref rx1), (2, .int (iI c2)), (3, .int (iI c3)), (4, .int (iI i4))] [] post) (hx_116 : ∀ (i4 : Int) , (0 ≤ i4 ∧ i4 ≤ 4) → (True) → ((W c2 11 = 2 → ∀ q, 0 ≤ q → q < P → Rh q ≠ W c2 4)) → Tn (d + 4) m_X10_nameBind 116 T σ [(0, .ref a), (1, .ref rx1), (2, .int (iI c2)), (3, .int (iI c3)), (4, .int (iI i4))] [] post) : ∀ (nq9 : Nat) (i4 : Int) , (0 ≤ i4 ∧ i4 ≤ 4) → (∀ q, 0 ≤ q → q < i4 → Rh q ≠ W c2 4) → (2147483700 - i4).toNat = nq9 → Tn (d + 4) m_X10_nameBind 66 T σ [(0, .ref a), (1, .ref rx1), (2, .int (iI c2)), (3, .int (iI c3)), (4, .int (iI i4))] [] post := by
  intro nq9
  induction nq9 using Nat.strongRecOn with
  | _ nq9 ih =>
    intro i4 r_i4 hL_ hm
    refine tn_iload_n dX10_nameBind_66 rfl 3 rfl ?_
    refine tn_iconst dX10_nameBind_67 ?_
    refine tn_icmp_ne (tgt := 116) dX10_nameBind_68 (by decide) ⟨by omega, by omega⟩ ⟨by decide, by decide⟩ (fun h1 => ?_) (fun h1 => ?_)
    · exact tn_sub [0, 1, 2, 3, 4] rfl (hx_116 (i4) (by omega) True.intro (fun e q a b => hL_ q a (by omega)))
    · refine tn_iload dX10_nameBind_71 4 rfl ?_
      refine tn_aload_n dX10_nameBind_73 rfl 1 rfl ?_
      refine tn_getI (ci := 1) (i := 3) (n := 8) (t := σ.2.1 8 rx1) dX10_nameBind_74 rfl lay_1 (by decide) fl10_86 h_rx1 rfl rfl (rfl) ?_
      have g2 : ((0 : Int) ≤ σ.2.1 8 rx1 ∧ σ.2.1 8 rx1 ≤ 4) := wf_8 hw h_rx1
      refine tn_icmp_ge (tgt := 116) dX10_nameBind_77 (by decide) ⟨by omega, by omega⟩ ⟨by omega, by omega⟩ (fun h3 => ?_) (fun h3 => ?_)
      · exact tn_sub [0, 1, 2, 3, 4] rfl (hx_116 (i4) (by omega) True.intro (fun e q a b => hL_ q a (by omega)))
      · refine tn_aload_n dX10_nameBind_80 rfl 1 rfl ?_
        refine tn_iconst dX10_nameBind_81 ?_
        refine tn_iload dX10_nameBind_82 4 rfl ?_
        obtain ⟨hk6, hl7⟩ : AR T xh 1 144 144 := ar_of (wf_15 hw h_rx1) hxh
        have hk6i : IA T xh := by unfold IA; omega
        refine tn_callV (M := m_X10_nameBind) (pc := 84) (ix := 47) (ci := 1) (M' := m_X1_homeOf) (As := [.int (iI 0), .int (iI i4)]) (rest := []) dX10_nameBind_84 ok_X1_homeOf im_X1_homeOf se_X1_homeOf ml10_47 np_X1_homeOf rfl rfl h_rx1 rfl (Nat.le_of_ble_eq_true rfl) (Nat.le_of_ble_eq_true rfl) rfl (k_X1_homeOf_x (d + 1) (T := T) (σ := σ) (a := rx1) (f := 0) (m := i4) (xh := xh) (Rh := Rh) h_rx1 (by decide) (by omega) hw (hxh) hRh (by omega)) (fun r8 T10 σ9 gt11 hp => ?_)
        obtain ⟨v14, rfl, rfl, rfl, f12, f13⟩ := hp
        clear gt11
        show Tn _ _ 87 T σ [(0, .ref a), (1, .ref rx1), (2, .int (iI c2)), (3, .int (iI c3)), (4, .int (iI i4))] [.int (iI v14)] _
        refine tn_aload_n dX10_nameBind_87 rfl 1 rfl ?_
        refine tn_iload_n dX10_nameBind_88 rfl 2 rfl ?_
        refine tn_iconst dX10_nameBind_89 ?_
        obtain ⟨hl18, hk17a, hk17b⟩ := cel_of (wf_5 hw h_rx1) hx
        have hk17 : (T x).1 = 1 := hk17a (by omega)
        clear hk17a hk17b
        have hk17i : IA T x := by unfold IA; omega
        refine tn_callV (M := m_X10_nameBind) (pc := 90) (ix := 44) (ci := 1) (M' := m_X1_get) (As := [.int (iI c2), .int (iI 4)]) (rest := [.int (iI v14)]) dX10_nameBind_90 ok_X1_get im_X1_get se_X1_get ml10_44 np_X1_get rfl rfl h_rx1 rfl (Nat.le_of_ble_eq_true rfl) (Nat.le_of_ble_eq_true rfl) rfl (k_X1_get_x (d + 2) (T := T) (σ := σ) (a := rx1) (k := c2) (c := 4) (x := x) (n := n) (W := W) h_rx1 (by omega) (by decide) hw (hx) (hn) hW (by omega) (by omega)) (fun r19 T21 σ20 gt22 hp => ?_)
        obtain ⟨v25, rfl, rfl, rfl, f23, f24⟩ := hp
        clear gt22
        show Tn _ _ 93 T σ [(0, .ref a), (1, .ref rx1), (2, .int (iI c2)), (3, .int (iI c3)), (4, .int (iI i4))] [.int (iI v25), .int (iI v14)] _
        refine tn_icmp_ne (tgt := 110) dX10_nameBind_93 (by decide) ⟨by omega, by omega⟩ ⟨by omega, by omega⟩ (fun h26 => ?_) (fun h26 => ?_)
        · refine tn_iinc (q0 := 4) (L' := [(4, .int (iI (i4 + 1))), (0, .ref a), (1, .ref rx1), (2, .int (iI c2)), (3, .int (iI c3))]) dX10_nameBind_110 rfl (by decide) rfl ?_
          refine tn_goto (tgt := 66) dX10_nameBind_113 (by decide) ?_
          exact tn_sub [1, 2, 3, 4, 0] rfl (ih _ (by omega) (i4 + 1) (by omega) (fun q a b => (Classical.em (q = i4)).elim (fun e => by rw [e]; have z := f13; unfold ATQ at z; rw [show (12 : Int) * 0 + i4 = i4 by omega] at z; omega) (fun e => hL_ q a (by omega))) rfl)
        · exact tn_sub [0, 1, 2, 3, 4] rfl (hx_96 (i4) (by omega) True.intro ⟨by omega, ⟨by omega, by omega⟩, by have z := f13; unfold ATQ at z; rw [show (12 : Int) * 0 + i4 = i4 by omega] at z; omega⟩)
set_option maxHeartbeats 1000000 in
set_option maxRecDepth 20000 in
theorem l_X10_nameBind_t_119 (d : Nat) {T : CT} {σ : MS} {a : Nat} {rx1 : Nat} {c2 : Int} {x : Nat} {n : Int} {W : Int → It} {xh : Nat} {Rh : Int → Int} {P : Int} {xb : Nat} {post : Option Value → CT → MS → Prop} (h_a : OB T a 10) (h_rx1 : OB T rx1 1) (t_rx1 : (T rx1).1 = 50) (r_c2 : 0 ≤ c2 ∧ c2 ≤ 199) (hw : WT T σ) (hk : 0 ≤ c2 ∧ c2 < n) (hx : σ.2.1 5 rx1 = (x : Int)) (hn : σ.2.1 6 rx1 = n) (hW : cW σ x n = W) (hxh : σ.2.1 15 rx1 = (xh : Int)) (hRh : σ.2.1 (1000 + xh) = Rh) (hP : σ.2.1 8 rx1 = P) (hxb : σ.2.1 90 a = (xb : Int)) (hN : n ≤ 200) (hx_153 : ∀ (i4 : Int) , (0 ≤ i4 ∧ i4 ≤ 200) → (True) → (i4 ≤ c2) → ((i4 = c2 ∨ smW W i4 c2) ∧ (0 ≤ i4 ∧ i4 ≤ c2) ∧ ∀ j, 0 ≤ j → j < i4 → ¬ smW W j c2) → Tn (d + 4) m_X10_nameBind 153 T σ [(0, .ref a), (1, .ref rx1), (2, .int (iI c2)), (4, .int (iI i4))] [] post) : ∀ (nq9 : Nat) (i4 : Int) , (0 ≤ i4 ∧ i4 ≤ 200) → (∀ j, 0 ≤ j → j < i4 → ¬ smW W j c2) → (i4 ≤ c2) → (2147483700 - i4).toNat = nq9 → Tn (d + 4) m_X10_nameBind 119 T σ [(0, .ref a), (1, .ref rx1), (2, .int (iI c2)), (4, .int (iI i4))] [] post := by
  intro nq9
  induction nq9 using Nat.strongRecOn with
  | _ nq9 ih =>
    intro i4 r_i4 hL_ h4 hm
    refine tn_iload dX10_nameBind_119 3 rfl ?_
    refine tn_iload_n dX10_nameBind_121 rfl 2 rfl ?_
    refine tn_icmp_ge (tgt := 153) dX10_nameBind_122 (by decide) ⟨by omega, by omega⟩ ⟨by omega, by omega⟩ (fun h1 => ?_) (fun h1 => ?_)
    · exact tn_sub [0, 1, 2, 3] rfl (hx_153 (i4) (by omega) True.intro (by omega) ⟨Or.inl (by omega), ⟨by omega, by omega⟩, hL_⟩)
    · refine tn_aload_n dX10_nameBind_125 rfl 1 rfl ?_
      refine tn_iload dX10_nameBind_126 3 rfl ?_
      refine tn_iconst dX10_nameBind_128 ?_
      obtain ⟨hl5, hk4a, hk4b⟩ := cel_of (wf_5 hw h_rx1) hx
      have hk4 : (T x).1 = 1 := hk4a (by omega)
      clear hk4a hk4b
      have hk4i : IA T x := by unfold IA; omega
      refine tn_callV (M := m_X10_nameBind) (pc := 129) (ix := 44) (ci := 1) (M' := m_X1_get) (As := [.int (iI i4), .int (iI 0)]) (rest := []) dX10_nameBind_129 ok_X1_get im_X1_get se_X1_get ml10_44 np_X1_get rfl rfl h_rx1 rfl (Nat.le_of_ble_eq_true rfl) (Nat.le_of_ble_eq_true rfl) rfl (k_X1_get_x (d + 2) (T := T) (σ := σ) (a := rx1) (k := i4) (c := 0) (x := x) (n := n) (W := W) h_rx1 (by omega) (by decide) hw (hx) (hn) hW (by omega) (by omega)) (fun r6 T8 σ7 gt9 hp => ?_)
      obtain ⟨v12, rfl, rfl, rfl, f10, f11⟩ := hp
      clear gt9
      show Tn _ _ 132 T σ [(0, .ref a), (1, .ref rx1), (2, .int (iI c2)), (4, .int (iI i4))] [.int (iI v12)] _
      refine tn_bipush dX10_nameBind_132 (by decide) ?_
      refine tn_icmp_ne (tgt := 147) dX10_nameBind_134 (by decide) ⟨by omega, by omega⟩ ⟨by decide, by decide⟩ (fun h13 => ?_) (fun h13 => ?_)
      · refine tn_iinc (q0 := 3) (L' := [(4, .int (iI (i4 + 1))), (0, .ref a), (1, .ref rx1), (2, .int (iI c2))]) dX10_nameBind_147 rfl (by decide) rfl ?_
        refine tn_goto (tgt := 119) dX10_nameBind_150 (by decide) ?_
        exact tn_sub [1, 2, 3, 0] rfl (ih _ (by omega) (i4 + 1) (by omega) (fun j a b => (Classical.em (j = i4)).elim (fun e y => by rw [e] at y; exact (by have y1 := y.1; omega)) (fun e => hL_ j a (by omega))) (by omega) rfl)
      · refine tn_aload_n dX10_nameBind_137 rfl 1 rfl ?_
        refine tn_iload dX10_nameBind_138 3 rfl ?_
        refine tn_iload_n dX10_nameBind_140 rfl 2 rfl ?_
        refine tn_callV (M := m_X10_nameBind) (pc := 141) (ix := 89) (ci := 1) (M' := m_X1_sameWhere) (As := [.int (iI i4), .int (iI c2)]) (rest := []) dX10_nameBind_141 ok_X1_sameWhere im_X1_sameWhere se_X1_sameWhere ml10_89 np_X1_sameWhere rfl rfl h_rx1 rfl (Nat.le_of_ble_eq_true rfl) (Nat.le_of_ble_eq_true rfl) rfl (k_X1_sameWhere_t (d) (T := T) (σ := σ) (a := rx1) (k := i4) (j := c2) (x := x) (n := n) (W := W) h_rx1 (by omega) (by omega) hw (hx) (hn) hW (by omega)) (fun r14 T16 σ15 gt17 hp => ?_)
        obtain ⟨v20, rfl, rfl, rfl, f18, f19⟩ := hp
        clear gt17
        show Tn _ _ 144 T σ [(0, .ref a), (1, .ref rx1), (2, .int (iI c2)), (4, .int (iI i4))] [.int (iI v20)] _
        refine tn_if_ne (tgt := 153) dX10_nameBind_144 (by decide) ⟨by omega, by omega⟩ (fun h21 => ?_) (fun h21 => ?_)
        · exact tn_sub [0, 1, 2, 3] rfl (hx_153 (i4) (by omega) True.intro (by omega) ⟨Or.inr ⟨by omega, by have z := f19; unfold SWQ at z; rcases z with z | z; exact z.2; exfalso; omega⟩, ⟨by omega, by omega⟩, hL_⟩)
        · refine tn_iinc (q0 := 3) (L' := [(4, .int (iI (i4 + 1))), (0, .ref a), (1, .ref rx1), (2, .int (iI c2))]) dX10_nameBind_147 rfl (by decide) rfl ?_
          refine tn_goto (tgt := 119) dX10_nameBind_150 (by decide) ?_
          exact tn_sub [1, 2, 3, 0] rfl (ih _ (by omega) (i4 + 1) (by omega) (fun j a b => (Classical.em (j = i4)).elim (fun e y => by rw [e] at y; exact (by have z := f19; unfold SWQ at z; rcases z with z | z; exfalso; omega; exact z.2 y.2)) (fun e => hL_ j a (by omega))) (by omega) rfl)
set_option maxHeartbeats 1000000 in
set_option maxRecDepth 20000 in
theorem k_X10_nameBind_t (d : Nat) {T : CT} {σ : MS} {a : Nat} {p1 : Nat} {p2 : Int} {x : Nat} {n : Int} {W : Int → It} {xh : Nat} {Rh : Int → Int} {P : Int} {xb : Nat} (ha : OB T a 10) (h_p1 : OB T p1 1) (t_p1 : (T p1).1 = 50) (h_p2 : -2147483648 ≤ p2 ∧ p2 ≤ 2147483647) (hw : WT T σ) (hx : σ.2.1 5 p1 = (x : Int)) (hn : σ.2.1 6 p1 = n) (hW : cW σ x n = W) (hxh : σ.2.1 15 p1 = (xh : Int)) (hRh : σ.2.1 (1000 + xh) = Rh) (hP : σ.2.1 8 p1 = P) (hxb : σ.2.1 90 a = (xb : Int)) (hN : n ≤ 200) (hk : 0 ≤ p2 ∧ p2 < n) : Tn (d + 4) m_X10_nameBind 0 T σ [(0, .ref a), (1, .ref p1), (2, .int (iI p2))] [] (fun ro T2 σ2 => ro = none ∧ T = T2 ∧ WT T2 σ2 ∧ FrC T [] σ σ2 ∧ (CHX [] [xb] [] σ σ2) ∧ (NBX W Rh P p2 (σ.2.1 (1000 + xb)) (σ2.2.1 (1000 + xb)))) := by
  refine tn_aload_n dX10_nameBind_0 rfl 1 rfl ?_
  refine tn_iload_n dX10_nameBind_1 rfl 2 rfl ?_
  refine tn_iconst dX10_nameBind_2 ?_
  obtain ⟨hl4, hk3a, hk3b⟩ := cel_of (wf_5 hw h_p1) hx
  have hk3 : (T x).1 = 1 := hk3a (by omega)
  clear hk3a hk3b
  have hk3i : IA T x := by unfold IA; omega
  refine tn_callV (M := m_X10_nameBind) (pc := 3) (ix := 44) (ci := 1) (M' := m_X1_get) (As := [.int (iI p2), .int (iI 0)]) (rest := []) dX10_nameBind_3 ok_X1_get im_X1_get se_X1_get ml10_44 np_X1_get rfl rfl h_p1 rfl (Nat.le_of_ble_eq_true rfl) (Nat.le_of_ble_eq_true rfl) rfl (k_X1_get_x (d + 2) (T := T) (σ := σ) (a := p1) (k := p2) (c := 0) (x := x) (n := n) (W := W) h_p1 (by omega) (by decide) hw (hx) (hn) hW (by omega) (by omega)) (fun r5 T7 σ6 gt8 hp => ?_)
  obtain ⟨v11, rfl, rfl, rfl, f9, f10⟩ := hp
  clear gt8
  show Tn _ _ 6 T σ [(0, .ref a), (1, .ref p1), (2, .int (iI p2))] [.int (iI v11)] _
  refine tn_bipush dX10_nameBind_6 (by decide) ?_
  refine tn_icmp_eq (tgt := 12) dX10_nameBind_8 (by decide) ⟨by omega, by omega⟩ ⟨by decide, by decide⟩ (fun h12 => ?_) (fun h12 => ?_)
  · refine tn_aload_n dX10_nameBind_12 rfl 1 rfl ?_
    refine tn_iload_n dX10_nameBind_13 rfl 2 rfl ?_
    refine tn_bipush dX10_nameBind_14 (by decide) ?_
    refine tn_callV (M := m_X10_nameBind) (pc := 16) (ix := 44) (ci := 1) (M' := m_X1_get) (As := [.int (iI p2), .int (iI 11)]) (rest := []) dX10_nameBind_16 ok_X1_get im_X1_get se_X1_get ml10_44 np_X1_get rfl rfl h_p1 rfl (Nat.le_of_ble_eq_true rfl) (Nat.le_of_ble_eq_true rfl) rfl (k_X1_get_x (d + 2) (T := T) (σ := σ) (a := p1) (k := p2) (c := 11) (x := x) (n := n) (W := W) h_p1 (by omega) (by decide) hw (hx) (hn) hW (by omega) (by omega)) (fun r13 T15 σ14 gt16 hp => ?_)
    obtain ⟨v19, rfl, rfl, rfl, f17, f18⟩ := hp
    clear gt16
    show Tn _ _ 19 T σ [(0, .ref a), (1, .ref p1), (2, .int (iI p2))] [.int (iI v19)] _
    refine tn_istore_n (L' := [(3, .int (iI v19)), (0, .ref a), (1, .ref p1), (2, .int (iI p2))]) dX10_nameBind_19 rfl (by decide) rfl ?_
    refine tn_iload_n dX10_nameBind_20 rfl 0 rfl ?_
    refine tn_bipush dX10_nameBind_21 (by decide) ?_
    refine tn_icmp_lt (tgt := 39) dX10_nameBind_23 (by decide) ⟨by omega, by omega⟩ ⟨by decide, by decide⟩ (fun h20 => ?_) (fun h20 => ?_)
    · refine tn_iload_n dX10_nameBind_39 rfl 0 rfl ?_
      refine tn_iconst dX10_nameBind_40 ?_
      refine tn_icmp_ne (tgt := 63) dX10_nameBind_41 (by decide) ⟨by omega, by omega⟩ ⟨by decide, by decide⟩ (fun h21 => ?_) (fun h21 => ?_)
      · refine tn_iconst dX10_nameBind_63 ?_
        refine tn_istore (L' := [(4, .int (iI 0)), (3, .int (iI v19)), (0, .ref a), (1, .ref p1), (2, .int (iI p2))]) dX10_nameBind_64 (by decide) rfl ?_
        refine tn_sub [2, 3, 4, 1, 0] rfl (l_X10_nameBind_t_66 (d) (T := T) (σ := σ) (a := a) (rx1 := p1) (c2 := p2) (c3 := v19) (x := x) (n := n) (W := (W)) (xh := xh) (Rh := (Rh)) (P := P) (xb := xb) ha h_p1 t_p1 (by omega) (by omega) hw (by omega) f18 (hx) (hn) hW (hxh) hRh (hP) (hxb) hN (fun i422 r28 f29 f30 => ?_) (fun i431 r37 f38 f39 => ?_) _ (0) (by omega) (fun q a b => by omega) rfl)
        · show Tn _ _ 96 T σ [(0, .ref a), (1, .ref p1), (2, .int (iI p2)), (3, .int (iI v19)), (4, .int (iI i422))] [] _
          refine tn_aload_n dX10_nameBind_96 rfl 0 rfl ?_
          obtain ⟨hk42, hl43⟩ : AR T xb 1 200 200 := ar_of (wf_90 hw ha) hxb
          have hk42i : IA T xb := by unfold IA; omega
          refine tn_getR (ci := 10) (i := 2) (n := 90) (x := xb) dX10_nameBind_97 rfl lay_10 (by decide) fl10_20 ha rfl rfl (hxb) ?_
          refine tn_iload_n dX10_nameBind_100 rfl 2 rfl ?_
          refine tn_bipush dX10_nameBind_101 (by decide) ?_
          refine tn_iload dX10_nameBind_103 4 rfl ?_
          refine tn_iadd dX10_nameBind_105 ?_
          refine tn_callSN (M := m_X10_nameBind) (pc := 106) (ix := 26) (M' := m_X11_put) (As := [.ref xb, .int (iI p2), .int (iI (6 + i422))]) (rest := []) dX10_nameBind_106 ok_X11_put stt_X11_put nl10_26 np_X11_put rfl (Nat.le_of_ble_eq_true rfl) (Nat.le_of_ble_eq_true rfl) rfl (k_X11_put_x (d + 2) (T := T) (σ := σ) (x := xb) (i := p2) (y := 6 + i422) hk42i (by omega) (by omega) (by omega) hw (nh_k hk42 (by unfold HT; omega)) (vok_1 (by have q9 := hk42; omega) (by omega))) (fun r44 T46 σ45 gt47 hp => ?_)
          obtain ⟨rfl, rfl, w51, F52, f48, f49⟩ := hp
          clear gt47
          show Tn _ _ 109 T σ45 [(0, .ref a), (1, .ref p1), (2, .int (iI p2)), (3, .int (iI v19)), (4, .int (iI i422))] [] _
          exact tn_vret rfl dX10_nameBind_109 ⟨rfl, rfl, w51, (FrC.rfl.trans (FrC.sub F52 (by decide))), (CHX.rfl.trans (CHX.sub f48 (by simp) (by simp) (by simp))), Or.inr ⟨by omega, 6 + i422, Or.inr ⟨by omega, Or.inr ⟨by omega, Or.inl ⟨f30.1, _, f30.2.1, f30.2.2, by omega⟩⟩⟩, ptf_row f49 ⟨by omega, by omega⟩⟩⟩
        · show Tn _ _ 116 T σ [(0, .ref a), (1, .ref p1), (2, .int (iI p2)), (3, .int (iI v19)), (4, .int (iI i431))] [] _
          refine tn_iconst dX10_nameBind_116 ?_
          refine tn_istore (L' := [(4, .int (iI 0)), (0, .ref a), (1, .ref p1), (2, .int (iI p2)), (3, .int (iI v19))]) dX10_nameBind_117 (by decide) rfl ?_
          refine tn_sub [1, 2, 3, 0] rfl (l_X10_nameBind_t_119 (d) (T := T) (σ := σ) (a := a) (rx1 := p1) (c2 := p2) (x := x) (n := n) (W := (W)) (xh := xh) (Rh := (Rh)) (P := P) (xb := xb) ha h_p1 t_p1 (by omega) hw (by omega) (hx) (hn) hW (hxh) hRh (hP) (hxb) hN (fun i453 r59 f60 f61 f62 => ?_) _ (0) (by omega) (fun q a b => by omega) (by omega) rfl)
          show Tn _ _ 153 T σ [(0, .ref a), (1, .ref p1), (2, .int (iI p2)), (4, .int (iI i453))] [] _
          refine tn_aload_n dX10_nameBind_153 rfl 0 rfl ?_
          obtain ⟨hk65, hl66⟩ : AR T xb 1 200 200 := ar_of (wf_90 hw ha) hxb
          have hk65i : IA T xb := by unfold IA; omega
          refine tn_getR (ci := 10) (i := 2) (n := 90) (x := xb) dX10_nameBind_154 rfl lay_10 (by decide) fl10_20 ha rfl rfl (hxb) ?_
          refine tn_iload_n dX10_nameBind_157 rfl 2 rfl ?_
          refine tn_bipush dX10_nameBind_158 (by decide) ?_
          refine tn_iload dX10_nameBind_160 3 rfl ?_
          refine tn_iadd dX10_nameBind_162 ?_
          refine tn_callSN (M := m_X10_nameBind) (pc := 163) (ix := 26) (M' := m_X11_put) (As := [.ref xb, .int (iI p2), .int (iI (10 + i453))]) (rest := []) dX10_nameBind_163 ok_X11_put stt_X11_put nl10_26 np_X11_put rfl (Nat.le_of_ble_eq_true rfl) (Nat.le_of_ble_eq_true rfl) rfl (k_X11_put_x (d + 2) (T := T) (σ := σ) (x := xb) (i := p2) (y := 10 + i453) hk65i (by omega) (by omega) (by omega) hw (nh_k hk65 (by unfold HT; omega)) (vok_1 (by have q9 := hk65; omega) (by omega))) (fun r67 T69 σ68 gt70 hp => ?_)
          obtain ⟨rfl, rfl, w74, F75, f71, f72⟩ := hp
          clear gt70
          show Tn _ _ 166 T σ68 [(0, .ref a), (1, .ref p1), (2, .int (iI p2)), (4, .int (iI i453))] [] _
          exact tn_vret rfl dX10_nameBind_166 ⟨rfl, rfl, w74, (FrC.rfl.trans (FrC.sub F75 (by decide))), (CHX.rfl.trans (CHX.sub f71 (by simp) (by simp) (by simp))), Or.inr ⟨by omega, 10 + i453, Or.inr ⟨by omega, Or.inr ⟨by omega, Or.inr ⟨f39, ⟨_, f62.2.1, f62.1, by omega, f62.2.2⟩⟩⟩⟩, ptf_row f72 ⟨by omega, by omega⟩⟩⟩
      · refine tn_aload_n dX10_nameBind_44 rfl 2 rfl ?_
        refine tn_iload_n dX10_nameBind_45 rfl 3 rfl ?_
        refine tn_iconst dX10_nameBind_46 ?_
        refine tn_callV (M := m_X10_nameBind) (pc := 47) (ix := 44) (ci := 1) (M' := m_X1_get) (As := [.int (iI p2), .int (iI 4)]) (rest := []) dX10_nameBind_47 ok_X1_get im_X1_get se_X1_get ml10_44 np_X1_get rfl rfl h_p1 rfl (Nat.le_of_ble_eq_true rfl) (Nat.le_of_ble_eq_true rfl) rfl (k_X1_get_x (d + 2) (T := T) (σ := σ) (a := p1) (k := p2) (c := 4) (x := x) (n := n) (W := W) h_p1 (by omega) (by decide) hw (hx) (hn) hW (by omega) (by omega)) (fun r76 T78 σ77 gt79 hp => ?_)
        obtain ⟨v82, rfl, rfl, rfl, f80, f81⟩ := hp
        clear gt79
        show Tn _ _ 50 T σ [(3, .int (iI v19)), (0, .ref a), (1, .ref p1), (2, .int (iI p2))] [.int (iI v82)] _
        refine tn_if_ne (tgt := 63) dX10_nameBind_50 (by decide) ⟨by omega, by omega⟩ (fun h83 => ?_) (fun h83 => ?_)
        · refine tn_iconst dX10_nameBind_63 ?_
          refine tn_istore (L' := [(4, .int (iI 0)), (3, .int (iI v19)), (0, .ref a), (1, .ref p1), (2, .int (iI p2))]) dX10_nameBind_64 (by decide) rfl ?_
          refine tn_sub [2, 3, 4, 1, 0] rfl (l_X10_nameBind_t_66 (d) (T := T) (σ := σ) (a := a) (rx1 := p1) (c2 := p2) (c3 := v19) (x := x) (n := n) (W := (W)) (xh := xh) (Rh := (Rh)) (P := P) (xb := xb) ha h_p1 t_p1 (by omega) (by omega) hw (by omega) f18 (hx) (hn) hW (hxh) hRh (hP) (hxb) hN (fun i484 r90 f91 f92 => ?_) (fun i493 r99 f100 f101 => ?_) _ (0) (by omega) (fun q a b => by omega) rfl)
          · show Tn _ _ 96 T σ [(0, .ref a), (1, .ref p1), (2, .int (iI p2)), (3, .int (iI v19)), (4, .int (iI i484))] [] _
            refine tn_aload_n dX10_nameBind_96 rfl 0 rfl ?_
            obtain ⟨hk104, hl105⟩ : AR T xb 1 200 200 := ar_of (wf_90 hw ha) hxb
            have hk104i : IA T xb := by unfold IA; omega
            refine tn_getR (ci := 10) (i := 2) (n := 90) (x := xb) dX10_nameBind_97 rfl lay_10 (by decide) fl10_20 ha rfl rfl (hxb) ?_
            refine tn_iload_n dX10_nameBind_100 rfl 2 rfl ?_
            refine tn_bipush dX10_nameBind_101 (by decide) ?_
            refine tn_iload dX10_nameBind_103 4 rfl ?_
            refine tn_iadd dX10_nameBind_105 ?_
            refine tn_callSN (M := m_X10_nameBind) (pc := 106) (ix := 26) (M' := m_X11_put) (As := [.ref xb, .int (iI p2), .int (iI (6 + i484))]) (rest := []) dX10_nameBind_106 ok_X11_put stt_X11_put nl10_26 np_X11_put rfl (Nat.le_of_ble_eq_true rfl) (Nat.le_of_ble_eq_true rfl) rfl (k_X11_put_x (d + 2) (T := T) (σ := σ) (x := xb) (i := p2) (y := 6 + i484) hk104i (by omega) (by omega) (by omega) hw (nh_k hk104 (by unfold HT; omega)) (vok_1 (by have q9 := hk104; omega) (by omega))) (fun r106 T108 σ107 gt109 hp => ?_)
            obtain ⟨rfl, rfl, w113, F114, f110, f111⟩ := hp
            clear gt109
            show Tn _ _ 109 T σ107 [(0, .ref a), (1, .ref p1), (2, .int (iI p2)), (3, .int (iI v19)), (4, .int (iI i484))] [] _
            exact tn_vret rfl dX10_nameBind_109 ⟨rfl, rfl, w113, (FrC.rfl.trans (FrC.sub F114 (by decide))), (CHX.rfl.trans (CHX.sub f110 (by simp) (by simp) (by simp))), Or.inr ⟨by omega, 6 + i484, Or.inr ⟨by omega, Or.inr ⟨by omega, Or.inl ⟨f92.1, _, f92.2.1, f92.2.2, by omega⟩⟩⟩, ptf_row f111 ⟨by omega, by omega⟩⟩⟩
          · show Tn _ _ 116 T σ [(0, .ref a), (1, .ref p1), (2, .int (iI p2)), (3, .int (iI v19)), (4, .int (iI i493))] [] _
            refine tn_iconst dX10_nameBind_116 ?_
            refine tn_istore (L' := [(4, .int (iI 0)), (0, .ref a), (1, .ref p1), (2, .int (iI p2)), (3, .int (iI v19))]) dX10_nameBind_117 (by decide) rfl ?_
            refine tn_sub [1, 2, 3, 0] rfl (l_X10_nameBind_t_119 (d) (T := T) (σ := σ) (a := a) (rx1 := p1) (c2 := p2) (x := x) (n := n) (W := (W)) (xh := xh) (Rh := (Rh)) (P := P) (xb := xb) ha h_p1 t_p1 (by omega) hw (by omega) (hx) (hn) hW (hxh) hRh (hP) (hxb) hN (fun i4115 r121 f122 f123 f124 => ?_) _ (0) (by omega) (fun q a b => by omega) (by omega) rfl)
            show Tn _ _ 153 T σ [(0, .ref a), (1, .ref p1), (2, .int (iI p2)), (4, .int (iI i4115))] [] _
            refine tn_aload_n dX10_nameBind_153 rfl 0 rfl ?_
            obtain ⟨hk127, hl128⟩ : AR T xb 1 200 200 := ar_of (wf_90 hw ha) hxb
            have hk127i : IA T xb := by unfold IA; omega
            refine tn_getR (ci := 10) (i := 2) (n := 90) (x := xb) dX10_nameBind_154 rfl lay_10 (by decide) fl10_20 ha rfl rfl (hxb) ?_
            refine tn_iload_n dX10_nameBind_157 rfl 2 rfl ?_
            refine tn_bipush dX10_nameBind_158 (by decide) ?_
            refine tn_iload dX10_nameBind_160 3 rfl ?_
            refine tn_iadd dX10_nameBind_162 ?_
            refine tn_callSN (M := m_X10_nameBind) (pc := 163) (ix := 26) (M' := m_X11_put) (As := [.ref xb, .int (iI p2), .int (iI (10 + i4115))]) (rest := []) dX10_nameBind_163 ok_X11_put stt_X11_put nl10_26 np_X11_put rfl (Nat.le_of_ble_eq_true rfl) (Nat.le_of_ble_eq_true rfl) rfl (k_X11_put_x (d + 2) (T := T) (σ := σ) (x := xb) (i := p2) (y := 10 + i4115) hk127i (by omega) (by omega) (by omega) hw (nh_k hk127 (by unfold HT; omega)) (vok_1 (by have q9 := hk127; omega) (by omega))) (fun r129 T131 σ130 gt132 hp => ?_)
            obtain ⟨rfl, rfl, w136, F137, f133, f134⟩ := hp
            clear gt132
            show Tn _ _ 166 T σ130 [(0, .ref a), (1, .ref p1), (2, .int (iI p2)), (4, .int (iI i4115))] [] _
            exact tn_vret rfl dX10_nameBind_166 ⟨rfl, rfl, w136, (FrC.rfl.trans (FrC.sub F137 (by decide))), (CHX.rfl.trans (CHX.sub f133 (by simp) (by simp) (by simp))), Or.inr ⟨by omega, 10 + i4115, Or.inr ⟨by omega, Or.inr ⟨by omega, Or.inr ⟨f101, ⟨_, f124.2.1, f124.1, by omega, f124.2.2⟩⟩⟩⟩, ptf_row f134 ⟨by omega, by omega⟩⟩⟩
        · refine tn_aload_n dX10_nameBind_53 rfl 1 rfl ?_
          obtain ⟨hk140, hl141⟩ : AR T xb 1 200 200 := ar_of (wf_90 hw ha) hxb
          have hk140i : IA T xb := by unfold IA; omega
          refine tn_getR (ci := 10) (i := 2) (n := 90) (x := xb) dX10_nameBind_54 rfl lay_10 (by decide) fl10_20 ha rfl rfl (hxb) ?_
          refine tn_iload_n dX10_nameBind_57 rfl 3 rfl ?_
          refine tn_iconst dX10_nameBind_58 ?_
          refine tn_callSN (M := m_X10_nameBind) (pc := 59) (ix := 26) (M' := m_X11_put) (As := [.ref xb, .int (iI p2), .int (iI 5)]) (rest := []) dX10_nameBind_59 ok_X11_put stt_X11_put nl10_26 np_X11_put rfl (Nat.le_of_ble_eq_true rfl) (Nat.le_of_ble_eq_true rfl) rfl (k_X11_put_x (d + 2) (T := T) (σ := σ) (x := xb) (i := p2) (y := 5) hk140i (by omega) (by omega) (by decide) hw (nh_k hk140 (by unfold HT; omega)) (vok_1 (by have q9 := hk140; omega) (by omega))) (fun r142 T144 σ143 gt145 hp => ?_)
          obtain ⟨rfl, rfl, w149, F150, f146, f147⟩ := hp
          clear gt145
          show Tn _ _ 62 T σ143 [(3, .int (iI v19)), (0, .ref a), (1, .ref p1), (2, .int (iI p2))] [] _
          exact tn_vret rfl dX10_nameBind_62 ⟨rfl, rfl, w149, (FrC.rfl.trans (FrC.sub F150 (by decide))), (CHX.rfl.trans (CHX.sub f146 (by simp) (by simp) (by simp))), Or.inr ⟨by omega, 5, Or.inr ⟨by omega, Or.inl ⟨by omega, by omega, by omega⟩⟩, ptf_row f147 ⟨by omega, by omega⟩⟩⟩
    · refine tn_aload_n dX10_nameBind_26 rfl 1 rfl ?_
      obtain ⟨hk153, hl154⟩ : AR T xb 1 200 200 := ar_of (wf_90 hw ha) hxb
      have hk153i : IA T xb := by unfold IA; omega
      refine tn_getR (ci := 10) (i := 2) (n := 90) (x := xb) dX10_nameBind_27 rfl lay_10 (by decide) fl10_20 ha rfl rfl (hxb) ?_
      refine tn_iload_n dX10_nameBind_30 rfl 3 rfl ?_
      refine tn_iload_n dX10_nameBind_31 rfl 0 rfl ?_
      refine tn_bipush dX10_nameBind_32 (by decide) ?_
      refine tn_isub dX10_nameBind_34 ?_
      refine tn_callSN (M := m_X10_nameBind) (pc := 35) (ix := 26) (M' := m_X11_put) (As := [.ref xb, .int (iI p2), .int (iI (v19 - 10))]) (rest := []) dX10_nameBind_35 ok_X11_put stt_X11_put nl10_26 np_X11_put rfl (Nat.le_of_ble_eq_true rfl) (Nat.le_of_ble_eq_true rfl) rfl (k_X11_put_x (d + 2) (T := T) (σ := σ) (x := xb) (i := p2) (y := v19 - 10) hk153i (by omega) (by omega) (by omega) hw (nh_k hk153 (by unfold HT; omega)) (vok_1 (by have q9 := hk153; omega) (by omega))) (fun r155 T157 σ156 gt158 hp => ?_)
      obtain ⟨rfl, rfl, w162, F163, f159, f160⟩ := hp
      clear gt158
      show Tn _ _ 38 T σ156 [(3, .int (iI v19)), (0, .ref a), (1, .ref p1), (2, .int (iI p2))] [] _
      exact tn_vret rfl dX10_nameBind_38 ⟨rfl, rfl, w162, (FrC.rfl.trans (FrC.sub F163 (by decide))), (CHX.rfl.trans (CHX.sub f159 (by simp) (by simp) (by simp))), Or.inr ⟨by omega, v19 - 10, Or.inl ⟨by omega, by omega⟩, ptf_row f160 ⟨by omega, by omega⟩⟩⟩
  · exact tn_vret rfl dX10_nameBind_11 ⟨rfl, rfl, hw, FrC.rfl, CHX.rfl, Or.inl ⟨by omega, rfl⟩⟩
end
