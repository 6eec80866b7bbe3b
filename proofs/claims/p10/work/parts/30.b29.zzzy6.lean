set_option maxHeartbeats 4000000 in
set_option maxRecDepth 20000 in
theorem f_startM (d : Nat) {b : Nat} {σ0 : MS} {m : Int} {x : Int} {a1 : Int} {a2 : Int} {a3 : Int} {a4 : Int} {post : Option Value → MS → Prop} (hm2 : 0 ≤ m ∧ m ≤ 2) (hx : 0 ≤ x ∧ x < 6) (hR0 : RG σ0) (hpm : 0 ≤ σ0.2.1 11 x ∧ σ0.2.1 11 x ≤ 4) (hnm : ∀ n, 0 ≤ n → n < σ0.2.1 11 x → 0 ≤ σ0.2.1 18 (144 * x + n) ∧ σ0.2.1 18 (144 * x + n) < 192) (h_a1 : -2147483648 ≤ a1 ∧ a1 ≤ 2147483647) (h_a2 : -2147483648 ≤ a2 ∧ a2 ≤ 2147483647) (h_a3 : -2147483648 ≤ a3 ∧ a3 ≤ 2147483647) (h_a4 : -2147483648 ≤ a4 ∧ a4 ≤ 2147483647) (hx_106 : ∀ (n1 : Int) (σ : MS) , (Fr [] [82] [] σ0 σ) → (RG σ) → (PWG (hmP σ0 m x) (prW a1 a2 a3 a4) (1728 * m) σ0 (σ0.2.1 11 x) σ) → Tm (d + 2) m_X12_startMachine 106 b σ [(7, .int (iI n1)), (0, .ref b), (1, .int (iI m)), (2, .int (iI x)), (3, .int (iI a1)), (4, .int (iI a2)), (5, .int (iI a3)), (6, .int (iI a4))] [] post) : ∀ (n : Nat) (n1 : Int) (σ : MS) , (Fr [] [82] [] σ0 σ) → (RG σ) → (0 ≤ n1 ∧ n1 ≤ σ0.2.1 11 x) → (PWG (hmP σ0 m x) (prW a1 a2 a3 a4) (1728 * m) σ0 n1 σ) → (4 - n1).toNat = n → Tm (d + 2) m_X12_startMachine 37 b σ [(7, .int (iI n1)), (0, .ref b), (1, .int (iI m)), (2, .int (iI x)), (3, .int (iI a1)), (4, .int (iI a2)), (5, .int (iI a3)), (6, .int (iI a4))] [] post := by
  intro n
  induction n using Nat.strongRecOn with
  | _ n ih =>
    intro n1 σ hF hR h0 hpw hm
    refine tm_iload dX12_startMachine_37 0 rfl ?_
    refine tm_aload_n dX12_startMachine_39 rfl 1 rfl ?_
    refine tm_get (k := 11) (v := .ref (b + 1 + 8)) lay_12 dX12_startMachine_40 (by decide) fl12_35 rfl ?_
    refine tm_iload_n dX12_startMachine_43 rfl 3 rfl ?_
    refine tm_iald (z := x) (v := σ0.2.1 11 x) dX12_startMachine_44 (show mT[8]? = some (11, 0, 6) from rfl) (by omega) (by omega) (by decide) (ra_F hF (by decide) (rfl)) ?_
    have g1 := RG.a hR0 11 (x)
    refine tm_icmp_ge (tgt := 106) dX12_startMachine_45 (by decide) ⟨by omega, by omega⟩ ⟨by omega, by omega⟩ (fun h2 => ?_) (fun h2 => ?_)
    · exact tm_sub [0, 1, 2, 3, 4, 5, 6, 7] rfl (hx_106 (n1) σ (Fr.rfl.trans (Fr.sub hF (by decide) (by decide) (by decide))) hR (by rw [show σ0.2.1 11 x = n1 by omega]; exact hpw))
    · have hq := hnm n1 (by omega) (by omega)
      have e18 : σ.2.1 18 (144 * x + n1) = σ0.2.1 18 (144 * x + n1) := by rw [hF.2.1 18 (by decide)]
      have hpr9 := hmp_r (σ := σ0) (m := m) (q := x) (n := n1) (by omega) (fun _ => hq)
      refine tm_aload_n dX12_startMachine_48 rfl 1 rfl ?_
      refine tm_get (k := 82) (v := .ref (b + 1 + 53)) lay_12 dX12_startMachine_49 (by decide) fl12_179 rfl ?_
      refine tm_sipush dX12_startMachine_52 (by decide) ?_
      refine tm_iload_n dX12_startMachine_55 rfl 2 rfl ?_
      refine tm_imul dX12_startMachine_56 ?_
      refine tm_aload_n dX12_startMachine_57 rfl 1 rfl ?_
      refine tm_iload_n dX12_startMachine_58 rfl 2 rfl ?_
      refine tm_iload_n dX12_startMachine_59 rfl 3 rfl ?_
      refine tm_iload dX12_startMachine_60 0 rfl ?_
      refine tm_callV (M := m_X12_startMachine) (pc := 62) (ix := 539) (M' := m_X12_paramAt) (As := [.int (iI m), .int (iI x), .int (iI n1)]) (rest := [.int (iI (1728 * m)), .ref (b + 1 + 53)]) dX12_startMachine_62 ok_X12_paramAt im_X12_paramAt se_X12_paramAt ml12_539 np_X12_paramAt rfl rfl (Nat.le_of_ble_eq_true rfl) (Nat.le_of_ble_eq_true rfl) rfl (c_X12_paramAt (d) (σ := σ) (m := m) (x := x) (n := n1) (by omega) (by omega)) (fun r3 σ4 hp => ?_)
      obtain ⟨v5, rfl, rfl, f6, f7⟩ := hp
      show Tm _ _ 65 b σ [(7, .int (iI n1)), (0, .ref b), (1, .int (iI m)), (2, .int (iI x)), (3, .int (iI a1)), (4, .int (iI a2)), (5, .int (iI a3)), (6, .int (iI a4))] [.int (iI v5), .int (iI (1728 * m)), .ref (b + 1 + 53)] _
      have hpa := hmp_of (σ := σ0) (m := m) (q := x) (n := n1) f6 (fun e => (f7 e).trans e18)
      refine tm_iadd dX12_startMachine_65 ?_
      refine tm_iload dX12_startMachine_66 0 rfl ?_
      refine tm_if_ne (tgt := 75) dX12_startMachine_68 (by decide) ⟨by omega, by omega⟩ (fun h8 => ?_) (fun h8 => ?_)
      · refine tm_iload dX12_startMachine_75 0 rfl ?_
        refine tm_iconst dX12_startMachine_77 ?_
        refine tm_icmp_ne (tgt := 86) dX12_startMachine_78 (by decide) ⟨by omega, by omega⟩ ⟨by decide, by decide⟩ (fun h10 => ?_) (fun h10 => ?_)
        · refine tm_iload dX12_startMachine_86 0 rfl ?_
          refine tm_iconst dX12_startMachine_88 ?_
          refine tm_icmp_ne (tgt := 97) dX12_startMachine_89 (by decide) ⟨by omega, by omega⟩ ⟨by decide, by decide⟩ (fun h11 => ?_) (fun h11 => ?_)
          · refine tm_iload dX12_startMachine_97 7 rfl ?_
            refine tm_iast (z := (1728 * m) + v5) (v := a4) dX12_startMachine_99 (show mT[53]? = some (82, 0, 5184) from rfl) (by omega) (by omega) (by decide) ?_
            refine tm_iinc (q0 := 0) (L' := [(7, .int (iI (n1 + 1))), (0, .ref b), (1, .int (iI m)), (2, .int (iI x)), (3, .int (iI a1)), (4, .int (iI a2)), (5, .int (iI a3)), (6, .int (iI a4))]) dX12_startMachine_100 rfl (by decide) rfl ?_
            refine tm_goto (tgt := 37) dX12_startMachine_103 (by decide) ?_
            exact tm_sub [0, 1, 2, 3, 4, 5, 6, 7] rfl (ih _ (by omega) (n1 + 1) (sA 82 ((1728 * m) + v5) (a4) σ) ((Fr.rfl.trans (Fr.sub hF (by decide) (by decide) (by decide))).A (by decide)) (hR.A (by omega)) (by omega) (hpw.put (by omega) hpr9 (by rw [← hpa]) (by unfold prW; (repeat' split) <;> omega)) rfl)
          · refine tm_iload dX12_startMachine_92 6 rfl ?_
            refine tm_goto (tgt := 99) dX12_startMachine_94 (by decide) ?_
            refine tm_iast (z := (1728 * m) + v5) (v := a3) dX12_startMachine_99 (show mT[53]? = some (82, 0, 5184) from rfl) (by omega) (by omega) (by decide) ?_
            refine tm_iinc (q0 := 0) (L' := [(7, .int (iI (n1 + 1))), (0, .ref b), (1, .int (iI m)), (2, .int (iI x)), (3, .int (iI a1)), (4, .int (iI a2)), (5, .int (iI a3)), (6, .int (iI a4))]) dX12_startMachine_100 rfl (by decide) rfl ?_
            refine tm_goto (tgt := 37) dX12_startMachine_103 (by decide) ?_
            exact tm_sub [0, 1, 2, 3, 4, 5, 6, 7] rfl (ih _ (by omega) (n1 + 1) (sA 82 ((1728 * m) + v5) (a3) σ) ((Fr.rfl.trans (Fr.sub hF (by decide) (by decide) (by decide))).A (by decide)) (hR.A (by omega)) (by omega) (hpw.put (by omega) hpr9 (by rw [← hpa]) (by unfold prW; (repeat' split) <;> omega)) rfl)
        · refine tm_iload dX12_startMachine_81 5 rfl ?_
          refine tm_goto (tgt := 99) dX12_startMachine_83 (by decide) ?_
          refine tm_iast (z := (1728 * m) + v5) (v := a2) dX12_startMachine_99 (show mT[53]? = some (82, 0, 5184) from rfl) (by omega) (by omega) (by decide) ?_
          refine tm_iinc (q0 := 0) (L' := [(7, .int (iI (n1 + 1))), (0, .ref b), (1, .int (iI m)), (2, .int (iI x)), (3, .int (iI a1)), (4, .int (iI a2)), (5, .int (iI a3)), (6, .int (iI a4))]) dX12_startMachine_100 rfl (by decide) rfl ?_
          refine tm_goto (tgt := 37) dX12_startMachine_103 (by decide) ?_
          exact tm_sub [0, 1, 2, 3, 4, 5, 6, 7] rfl (ih _ (by omega) (n1 + 1) (sA 82 ((1728 * m) + v5) (a2) σ) ((Fr.rfl.trans (Fr.sub hF (by decide) (by decide) (by decide))).A (by decide)) (hR.A (by omega)) (by omega) (hpw.put (by omega) hpr9 (by rw [← hpa]) (by unfold prW; (repeat' split) <;> omega)) rfl)
      · refine tm_iload_n dX12_startMachine_71 rfl 4 rfl ?_
        refine tm_goto (tgt := 99) dX12_startMachine_72 (by decide) ?_
        refine tm_iast (z := (1728 * m) + v5) (v := a1) dX12_startMachine_99 (show mT[53]? = some (82, 0, 5184) from rfl) (by omega) (by omega) (by decide) ?_
        refine tm_iinc (q0 := 0) (L' := [(7, .int (iI (n1 + 1))), (0, .ref b), (1, .int (iI m)), (2, .int (iI x)), (3, .int (iI a1)), (4, .int (iI a2)), (5, .int (iI a3)), (6, .int (iI a4))]) dX12_startMachine_100 rfl (by decide) rfl ?_
        refine tm_goto (tgt := 37) dX12_startMachine_103 (by decide) ?_
        exact tm_sub [0, 1, 2, 3, 4, 5, 6, 7] rfl (ih _ (by omega) (n1 + 1) (sA 82 ((1728 * m) + v5) (a1) σ) ((Fr.rfl.trans (Fr.sub hF (by decide) (by decide) (by decide))).A (by decide)) (hR.A (by omega)) (by omega) (hpw.put (by omega) hpr9 (by rw [← hpa]) (by unfold prW; (repeat' split) <;> omega)) rfl)
set_option maxHeartbeats 4000000 in
set_option maxRecDepth 20000 in
theorem f_X12_startMachine (d : Nat) {b : Nat} {σ : MS} {m : Int} {x : Int} {a1 : Int} {a2 : Int} {a3 : Int} {a4 : Int} (hm2 : 0 ≤ m ∧ m ≤ 2) (hx : 0 ≤ x ∧ x < 6) (hR : RG σ) (hpm : 0 ≤ σ.2.1 11 x ∧ σ.2.1 11 x ≤ 4) (hnm : ∀ n, 0 ≤ n → n < σ.2.1 11 x → 0 ≤ σ.2.1 18 (144 * x + n) ∧ σ.2.1 18 (144 * x + n) < 192) (h_a1 : -2147483648 ≤ a1 ∧ a1 ≤ 2147483647) (h_a2 : -2147483648 ≤ a2 ∧ a2 ≤ 2147483647) (h_a3 : -2147483648 ≤ a3 ∧ a3 ≤ 2147483647) (h_a4 : -2147483648 ≤ a4 ∧ a4 ≤ 2147483647) : Tm (d + 2) m_X12_startMachine 0 b σ [(0, .ref b), (1, .int (iI m)), (2, .int (iI x)), (3, .int (iI a1)), (4, .int (iI a2)), (5, .int (iI a3)), (6, .int (iI a4))] [] (fun ro σ2 => ro = none ∧ (Fr [] [73, 74, 75, 76, 78, 79, 80, 81, 82] [] σ σ2) ∧ (RG σ2) ∧ (σ2.2.1 73 m = 1) ∧ (σ2.2.1 78 (9 * m) = x ∧ σ2.2.1 79 (9 * m) = 0 ∧ σ2.2.1 80 (9 * m) = 0) ∧ (∀ j, j ≠ m → X0 j σ σ2) ∧ (σ2.2.1 76 m = 0) ∧ (SMQ7 σ m x a1 a2 a3 a4 σ2)) := by
  refine tm_aload_n dX12_startMachine_0 rfl 0 rfl ?_
  refine tm_get (k := 73) (v := .ref (b + 1 + 44)) lay_12 dX12_startMachine_1 (by decide) fl12_152 rfl ?_
  refine tm_iload_n dX12_startMachine_4 rfl 1 rfl ?_
  refine tm_iconst dX12_startMachine_5 ?_
  refine tm_iast (z := m) (v := 0) dX12_startMachine_6 (show mT[44]? = some (73, 0, 3) from rfl) (by omega) (by omega) (by decide) ?_
  refine tm_aload_n dX12_startMachine_7 rfl 0 rfl ?_
  refine tm_get (k := 74) (v := .ref (b + 1 + 45)) lay_12 dX12_startMachine_8 (by decide) fl12_155 rfl ?_
  refine tm_iload_n dX12_startMachine_11 rfl 1 rfl ?_
  refine tm_iconst dX12_startMachine_12 ?_
  refine tm_iast (z := m) (v := 0) dX12_startMachine_13 (show mT[45]? = some (74, 0, 3) from rfl) (by omega) (by omega) (by decide) ?_
  refine tm_aload_n dX12_startMachine_14 rfl 0 rfl ?_
  refine tm_get (k := 75) (v := .ref (b + 1 + 46)) lay_12 dX12_startMachine_15 (by decide) fl12_158 rfl ?_
  refine tm_iload_n dX12_startMachine_18 rfl 1 rfl ?_
  refine tm_iconst dX12_startMachine_19 ?_
  refine tm_iast (z := m) (v := 0) dX12_startMachine_20 (show mT[46]? = some (75, 0, 3) from rfl) (by omega) (by omega) (by decide) ?_
  refine tm_aload_n dX12_startMachine_21 rfl 0 rfl ?_
  refine tm_get (k := 76) (v := .ref (b + 1 + 47)) lay_12 dX12_startMachine_22 (by decide) fl12_161 rfl ?_
  refine tm_iload_n dX12_startMachine_25 rfl 1 rfl ?_
  refine tm_iconst dX12_startMachine_26 ?_
  refine tm_iast (z := m) (v := 0) dX12_startMachine_27 (show mT[47]? = some (76, 0, 3) from rfl) (by omega) (by omega) (by decide) ?_
  have z73 : (sA 76 (m) (0) (sA 75 (m) (0) (sA 74 (m) (0) (sA 73 (m) (0) σ)))).2.1 73 m = 0 := ra_o (by decide) (ra_o (by decide) (ra_o (by decide) ra_eq))
  refine tm_aload_n dX12_startMachine_28 rfl 0 rfl ?_
  refine tm_iload_n dX12_startMachine_29 rfl 1 rfl ?_
  refine tm_iload_n dX12_startMachine_30 rfl 2 rfl ?_
  refine tm_callV (M := m_X12_startMachine) (pc := 31) (ix := 536) (M' := m_X12_enterCall) (As := [.int (iI m), .int (iI x)]) (rest := []) dX12_startMachine_31 ok_X12_enterCall im_X12_enterCall se_X12_enterCall ml12_536 np_X12_enterCall rfl rfl (Nat.le_of_ble_eq_true rfl) (Nat.le_of_ble_eq_true rfl) rfl (f_X12_enterCall (d) (σ := (sA 76 (m) (0) (sA 75 (m) (0) (sA 74 (m) (0) (sA 73 (m) (0) σ))))) (m := m) (r := x) ((((hR.A (by omega)).A (by omega)).A (by omega)).A (by omega)) hm2 (by rw [z73]; decide) (by omega)) (fun r1 σ2 hp => ?_)
  obtain ⟨rfl, f4, f5, f6, f7, f8, f9, f10⟩ := hp
  show Tm _ _ 34 b σ2 [(0, .ref b), (1, .int (iI m)), (2, .int (iI x)), (3, .int (iI a1)), (4, .int (iI a2)), (5, .int (iI a3)), (6, .int (iI a4))] [] _
  have hE2 := f6
  have hE3 := f7
  have hE4 := f8
  have hE5 := f9
  have hE6 := f10
  refine tm_iconst dX12_startMachine_34 ?_
  refine tm_istore (L' := [(7, .int (iI 0)), (0, .ref b), (1, .int (iI m)), (2, .int (iI x)), (3, .int (iI a1)), (4, .int (iI a2)), (5, .int (iI a3)), (6, .int (iI a4))]) dX12_startMachine_35 (by decide) rfl ?_
  refine tm_sub [0, 1, 2, 3, 4, 5, 6, 7] rfl (f_startM (d) (σ0 := σ2) (m := m) (x := x) (a1 := a1) (a2 := a2) (a3 := a3) (a4 := a4) hm2 hx f5 (by rw [((show Fr [] [73, 74, 75, 76, 78, 79, 80, 81, 82] [] σ σ2 from (((((Fr.rfl.A (by decide)).A (by decide)).A (by decide)).A (by decide)).trans (Fr.sub f4 (by decide) (by decide) (by decide))))).2.1 11 (by decide)]; exact hpm) (by rw [((show Fr [] [73, 74, 75, 76, 78, 79, 80, 81, 82] [] σ σ2 from (((((Fr.rfl.A (by decide)).A (by decide)).A (by decide)).A (by decide)).trans (Fr.sub f4 (by decide) (by decide) (by decide))))).2.1 11 (by decide), ((show Fr [] [73, 74, 75, 76, 78, 79, 80, 81, 82] [] σ σ2 from (((((Fr.rfl.A (by decide)).A (by decide)).A (by decide)).A (by decide)).trans (Fr.sub f4 (by decide) (by decide) (by decide))))).2.1 18 (by decide)]; exact hnm) (by omega) (by omega) (by omega) (by omega) (fun n116 σ17 F13 R14 f15 => ?_) _ (0) σ2 Fr.rfl f5 (by rw [((show Fr [] [73, 74, 75, 76, 78, 79, 80, 81, 82] [] σ σ2 from (((((Fr.rfl.A (by decide)).A (by decide)).A (by decide)).A (by decide)).trans (Fr.sub f4 (by decide) (by decide) (by decide))))).2.1 11 (by decide)]; omega) PWG.z rfl)
  show Tm _ _ 106 b σ17 [(7, .int (iI n116)), (0, .ref b), (1, .int (iI m)), (2, .int (iI x)), (3, .int (iI a1)), (4, .int (iI a2)), (5, .int (iI a3)), (6, .int (iI a4))] [] _
  exact tm_vret rfl dX12_startMachine_106 (⟨rfl, ((((((Fr.rfl.A (by decide)).A (by decide)).A (by decide)).A (by decide)).trans (Fr.sub f4 (by decide) (by decide) (by decide))).trans (Fr.sub F13 (by decide) (by decide) (by decide))), R14, ra_F F13 (by decide) (hE2.trans (by rw [z73]; rfl)), by rw [z73] at hE3; rw [show 9 * m + 0 = 9 * m by omega] at hE3; exact ⟨ra_F F13 (by decide) hE3.1, ra_F F13 (by decide) hE3.2.1, ra_F F13 (by decide) hE3.2.2⟩, fun j hj => ⟨⟨ra_F F13 (by decide) ((hE4 j hj).trans (ra_o (by decide) (ra_o (by decide) (ra_o (by decide) (ra_ne hj rfl))))), ra_F F13 (by decide) (ra_F f4 (by decide) (ra_ne hj rfl))⟩, fun z a e => by rw [z73] at hE5; have q := hE5 z (by omega); exact ⟨ra_F F13 (by decide) (q.1.trans rfl), ra_F F13 (by decide) (q.2.1.trans rfl), ra_F F13 (by decide) (q.2.2.trans rfl)⟩⟩, ra_F F13 (by decide) (ra_F f4 (by decide) (ra_eq)), smq_of z73 hE6 f15 f4 F13 ⟨⟨rfl, rfl⟩, rfl, rfl⟩ ⟨ra_o (by decide) (ra_eq), fun j hj => ra_o (by decide) (ra_ne hj rfl)⟩⟩)
