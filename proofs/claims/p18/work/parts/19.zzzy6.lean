section
set_option maxHeartbeats 4000000 in
set_option maxRecDepth 20000 in
theorem f_startM (d : Nat) {b : Nat} {σ0 : MS} {m : Int} {x : Int} {a1 : Int} {a2 : Int} {a3 : Int} {a4 : Int} {post : Option Value → MS → Prop} (hm2 : 0 ≤ m ∧ m ≤ 2) (hx : 0 ≤ x ∧ x < 6) (hR0 : RG σ0) (hpm : 0 ≤ σ0.2.1 11 x ∧ σ0.2.1 11 x ≤ 4) (hnm : ∀ n, 0 ≤ n → n < σ0.2.1 11 x → 0 ≤ σ0.2.1 18 (144 * x + n) ∧ σ0.2.1 18 (144 * x + n) < 192) (h_a1 : -2147483648 ≤ a1 ∧ a1 ≤ 2147483647) (h_a2 : -2147483648 ≤ a2 ∧ a2 ≤ 2147483647) (h_a3 : -2147483648 ≤ a3 ∧ a3 ≤ 2147483647) (h_a4 : -2147483648 ≤ a4 ∧ a4 ≤ 2147483647) (hx_106 : ∀ (n1 : Int) (σ : MS) , (Fr [] [82] [] σ0 σ) → (RG σ) → (PWG (hmP σ0 m x) (prW a1 a2 a3 a4) (1728 * m) σ0 (σ0.2.1 11 x) σ) → Tm (d + 2) m_X12_startMachine 106 b σ [(7, .int (iI n1)), (0, .ref b), (1, .int (iI m)), (2, .int (iI x)), (3, .int (iI a1)), (4, .int (iI a2)), (5, .int (iI a3)), (6, .int (iI a4))] [] post) : ∀ (n : Nat) (n1 : Int) (σ : MS) , (Fr [] [82] [] σ0 σ) → (RG σ) → (0 ≤ n1 ∧ n1 ≤ σ0.2.1 11 x) → (PWG (hmP σ0 m x) (prW a1 a2 a3 a4) (1728 * m) σ0 n1 σ) → (4 - n1).toNat = n → Tm (d + 2) m_X12_startMachine 37 b σ [(7, .int (iI n1)), (0, .ref b), (1, .int (iI m)), (2, .int (iI x)), (3, .int (iI a1)), (4, .int (iI a2)), (5, .int (iI a3)), (6, .int (iI a4))] [] post := by
  intro n
  induction n using Nat.strongRecOn with
  | _ n ih =>
    intro n1 σ hF hR h0 hpw hm
    refine tm_iload dX12_startMachine_37 0 rfl ?_
    refine tm_aload_n dX12_startMachine_39 rfl 1 rfl ?_
    refine tm_get (k := 11) (v := .ref (b + 1 + 8)) lay_12 dX12_startMachine_40 (by decide) fl12_35 rfl ?_
    refine tm_iload_n dX12_startMachine_43 rfl 3 rfl ?_
    refine tm_iald (z := x) (v := σ0.2.1 11 x) dX12_startMachine_44 (show mT[8]? = some (11, 0, 6) from rfl) (by omega) (by omega) (by decide) (ra_F hF (by decide) (rfl)) ?_
    have g1 := RG.a hR0 11 (x)
    refine tm_icmp_ge (tgt := 106) dX12_startMachine_45 (by decide) ⟨by omega, by omega⟩ ⟨by omega, by omega⟩ (fun h2 => ?_) (fun h2 => ?_)
    · exact tm_sub [0, 1, 2, 3, 4, 5, 6, 7] rfl (hx_106 (n1) σ (Fr.rfl.trans (Fr.sub hF (by decide) (by decide) (by decide))) hR (by rw [show σ0.2.1 11 x = n1 by omega]; exact hpw))
    · have hq := hnm n1 (by omega) (by omega)
      have e18 : σ.2.1 18 (144 * x + n1) = σ0.2.1 18 (144 * x + n1) := by rw [hF.2.1 18 (by decide)]
      have hpr9 := hmp_r (σ := σ0) (m := m) (q := x) (n := n1) (by omega) (fun _ => hq)
      refine tm_aload_n dX12_startMachine_48 rfl 1 rfl ?_
      refine tm_get (k := 82) (v := .ref (b + 1 + 53)) lay_12 dX12_startMachine_49 (by decide) fl12_179 rfl ?_
      refine tm_sipush dX12_startMachine_52 (by decide) ?_
      refine tm_iload_n dX12_startMachine_55 rfl 2 rfl ?_
      refine tm_imul dX12_startMachine_56 ?_
      refine tm_aload_n dX12_startMachine_57 rfl 1 rfl ?_
      refine tm_iload_n dX12_startMachine_58 rfl 2 rfl ?_
      refine tm_iload_n dX12_startMachine_59 rfl 3 rfl ?_
      refine tm_iload dX12_startMachine_60 0 rfl ?_
      refine tm_callV (M := m_X12_startMachine) (pc := 62) (ix := 539) (M' := m_X12_paramAt) (As := [.int (iI m), .int (iI x), .int (iI n1)]) (rest := [.int (iI (1728 * m)), .ref (b + 1 + 53)]) dX12_startMachine_62 ok_X12_paramAt im_X12_paramAt se_X12_paramAt ml12_539 np_X12_paramAt rfl rfl (Nat.le_of_ble_eq_true rfl) (Nat.le_of_ble_eq_true rfl) rfl (c_X12_paramAt (d) (σ := σ) (m := m) (x := x) (n := n1) (by omega) (by omega)) (fun r3 σ4 hp => ?_)
      obtain ⟨v5, rfl, rfl, f6, f7⟩ := hp
      show Tm _ _ 65 b σ [(7, .int (iI n1)), (0, .ref b), (1, .int (iI m)), (2, .int (iI x)), (3, .int (iI a1)), (4, .int (iI a2)), (5, .int (iI a3)), (6, .int (iI a4))] [.int (iI v5), .int (iI (1728 * m)), .ref (b + 1 + 53)] _
      have hpa := hmp_of (σ := σ0) (m := m) (q := x) (n := n1) f6 (fun e => (f7 e).trans e18)
      refine tm_iadd dX12_startMachine_65 ?_
      refine tm_iload dX12_startMachine_66 0 rfl ?_
      refine tm_if_ne (tgt := 75) dX12_startMachine_68 (by decide) ⟨by omega, by omega⟩ (fun h8 => ?_) (fun h8 => ?_)
      · refine tm_iload dX12_startMachine_75 0 rfl ?_
        refine tm_iconst dX12_startMachine_77 ?_
        refine tm_icmp_ne (tgt := 86) dX12_startMachine_78 (by decide) ⟨by omega, by omega⟩ ⟨by decide, by decide⟩ (fun h10 => ?_) (fun h10 => ?_)
        · refine tm_iload dX12_startMachine_86 0 rfl ?_
          refine tm_iconst dX12_startMachine_88 ?_
          refine tm_icmp_ne (tgt := 97) dX12_startMachine_89 (by decide) ⟨by omega, by omega⟩ ⟨by decide, by decide⟩ (fun h11 => ?_) (fun h11 => ?_)
          · refine tm_iload dX12_startMachine_97 7 rfl ?_
            refine tm_iast (z := (1728 * m) + v5) (v := a4) dX12_startMachine_99 (show mT[53]? = some (82, 0, 5184) from rfl) (by omega) (by omega) (by decide) ?_
            refine tm_iinc (q0 := 0) (L' := [(7, .int (iI (n1 + 1))), (0, .ref b), (1, .int (iI m)), (2, .int (iI x)), (3, .int (iI a1)), (4, .int (iI a2)), (5, .int (iI a3)), (6, .int (iI a4))]) dX12_startMachine_100 rfl (by decide) rfl ?_
            refine tm_goto (tgt := 37) dX12_startMachine_103 (by decide) ?_
            exact tm_sub [0, 1, 2, 3, 4, 5, 6, 7] rfl (ih _ (by omega) (n1 + 1) (sA 82 ((1728 * m) + v5) (a4) σ) ((Fr.rfl.trans (Fr.sub hF (by decide) (by decide) (by decide))).A (by decide)) (hR.A (by omega)) (by omega) (hpw.put (by omega) hpr9 (by rw [← hpa]) (by unfold prW; (repeat' split) <;> omega)) rfl)
          · refine tm_iload dX12_startMachine_92 6 rfl ?_
            refine tm_goto (tgt := 99) dX12_startMachine_94 (by decide) ?_
            refine tm_iast (z := (1728 * m) + v5) (v := a3) dX12_startMachine_99 (show mT[53]? = some (82, 0, 5184) from rfl) (by omega) (by omega) (by decide) ?_
            refine tm_iinc (q0 := 0) (L' := [(7, .int (iI (n1 + 1))), (0, .ref b), (1, .int (iI m)), (2, .int (iI x)), (3, .int (iI a1)), (4, .int (iI a2)), (5, .int (iI a3)), (6, .int (iI a4))]) dX12_startMachine_100 rfl (by decide) rfl ?_
            refine tm_goto (tgt := 37) dX12_startMachine_103 (by decide) ?_
            exact tm_sub [0, 1, 2, 3, 4, 5, 6, 7] rfl (ih _ (by omega) (n1 + 1) (sA 82 ((1728 * m) + v5) (a3) σ) ((Fr.rfl.trans (Fr.sub hF (by decide) (by decide) (by decide))).A (by decide)) (hR.A (by omega)) (by omega) (hpw.put (by omega) hpr9 (by rw [← hpa]) (by unfold prW; (repeat' split) <;> omega)) rfl)
        · refine tm_iload dX12_startMachine_81 5 rfl ?_
          refine tm_goto (tgt := 99) dX12_startMachine_83 (by decide) ?_
          refine tm_iast (z := (1728 * m) + v5) (v := a2) dX12_startMachine_99 (show mT[53]? = some (82, 0, 5184) from rfl) (by omega) (by omega) (by decide) ?_
          refine tm_iinc (q0 := 0) (L' := [(7, .int (iI (n1 + 1))), (0, .ref b), (1, .int (iI m)), (2, .int (iI x)), (3, .int (iI a1)), (4, .int (iI a2)), (5, .int (iI a3)), (6, .int (iI a4))]) dX12_startMachine_100 rfl (by decide) rfl ?_
          refine tm_goto (tgt := 37) dX12_startMachine_103 (by decide) ?_
          exact tm_sub [0, 1, 2, 3, 4, 5, 6, 7] rfl (ih _ (by omega) (n1 + 1) (sA 82 ((1728 * m) + v5) (a2) σ) ((Fr.rfl.trans (Fr.sub hF (by decide) (by decide) (by decide))).A (by decide)) (hR.A (by omega)) (by omega) (hpw.put (by omega) hpr9 (by rw [← hpa]) (by unfold prW; (repeat' split) <;> omega)) rfl)
      · refine tm_iload_n dX12_startMachine_71 rfl 4 rfl ?_
        refine tm_goto (tgt := 99) dX12_startMachine_72 (by decide) ?_
        refine tm_iast (z := (1728 * m) + v5) (v := a1) dX12_startMachine_99 (show mT[53]? = some (82, 0, 5184) from rfl) (by omega) (by omega) (by decide) ?_
        refine tm_iinc (q0 := 0) (L' := [(7, .int (iI (n1 + 1))), (0, .ref b), (1, .int (iI m)), (2, .int (iI x)), (3, .int (iI a1)), (4, .int (iI a2)), (5, .int (iI a3)), (6, .int (iI a4))]) dX12_startMachine_100 rfl (by decide) rfl ?_
        refine tm_goto (tgt := 37) dX12_startMachine_103 (by decide) ?_
        exact tm_sub [0, 1, 2, 3, 4, 5, 6, 7] rfl (ih _ (by omega) (n1 + 1) (sA 82 ((1728 * m) + v5) (a1) σ) ((Fr.rfl.trans (Fr.sub hF (by decide) (by decide) (by decide))).A (by decide)) (hR.A (by omega)) (by omega) (hpw.put (by omega) hpr9 (by rw [← hpa]) (by unfold prW; (repeat' split) <;> omega)) rfl)
set_option maxHeartbeats 4000000 in
set_option maxRecDepth 20000 in
theorem f_X12_startMachine (d : Nat) {b : Nat} {σ : MS} {m : Int} {x : Int} {a1 : Int} {a2 : Int} {a3 : Int} {a4 : Int} (hm2 : 0 ≤ m ∧ m ≤ 2) (hx : 0 ≤ x ∧ x < 6) (hR : RG σ) (hpm : 0 ≤ σ.2.1 11 x ∧ σ.2.1 11 x ≤ 4) (hnm : ∀ n, 0 ≤ n → n < σ.2.1 11 x → 0 ≤ σ.2.1 18 (144 * x + n) ∧ σ.2.1 18 (144 * x + n) < 192) (h_a1 : -2147483648 ≤ a1 ∧ a1 ≤ 2147483647) (h_a2 : -2147483648 ≤ a2 ∧ a2 ≤ 2147483647) (h_a3 : -2147483648 ≤ a3 ∧ a3 ≤ 2147483647) (h_a4 : -2147483648 ≤ a4 ∧ a4 ≤ 2147483647) : Tm (d + 2) m_X12_startMachine 0 b σ [(0, .ref b), (1, .int (iI m)), (2, .int (iI x)), (3, .int (iI a1)), (4, .int (iI a2)), (5, .int (iI a3)), (6, .int (iI a4))] [] (fun ro σ2 => ro = none ∧ (Fr [] [73, 74, 75, 76, 78, 79, 80, 81, 82] [] σ σ2) ∧ (RG σ2) ∧ (σ2.2.1 73 m = 1) ∧ (σ2.2.1 78 (9 * m) = x ∧ σ2.2.1 79 (9 * m) = 0 ∧ σ2.2.1 80 (9 * m) = 0) ∧ (∀ j, j ≠ m → X0 j σ σ2) ∧ (σ2.2.1 76 m = 0) ∧ (SMQ7 σ m x a1 a2 a3 a4 σ2)) := by
  refine tm_aload_n dX12_startMachine_0 rfl 0 rfl ?_
  refine tm_get (k := 73) (v := .ref (b + 1 + 44)) lay_12 dX12_startMachine_1 (by decide) fl12_152 rfl ?_
  refine tm_iload_n dX12_startMachine_4 rfl 1 rfl ?_
  refine tm_iconst dX12_startMachine_5 ?_
  refine tm_iast (z := m) (v := 0) dX12_startMachine_6 (show mT[44]? = some (73, 0, 3) from rfl) (by omega) (by omega) (by decide) ?_
  refine tm_aload_n dX12_startMachine_7 rfl 0 rfl ?_
  refine tm_get (k := 74) (v := .ref (b + 1 + 45)) lay_12 dX12_startMachine_8 (by decide) fl12_155 rfl ?_
  refine tm_iload_n dX12_startMachine_11 rfl 1 rfl ?_
  refine tm_iconst dX12_startMachine_12 ?_
  refine tm_iast (z := m) (v := 0) dX12_startMachine_13 (show mT[45]? = some (74, 0, 3) from rfl) (by omega) (by omega) (by decide) ?_
  refine tm_aload_n dX12_startMachine_14 rfl 0 rfl ?_
  refine tm_get (k := 75) (v := .ref (b + 1 + 46)) lay_12 dX12_startMachine_15 (by decide) fl12_158 rfl ?_
  refine tm_iload_n dX12_startMachine_18 rfl 1 rfl ?_
  refine tm_iconst dX12_startMachine_19 ?_
  refine tm_iast (z := m) (v := 0) dX12_startMachine_20 (show mT[46]? = some (75, 0, 3) from rfl) (by omega) (by omega) (by decide) ?_
  refine tm_aload_n dX12_startMachine_21 rfl 0 rfl ?_
  refine tm_get (k := 76) (v := .ref (b + 1 + 47)) lay_12 dX12_startMachine_22 (by decide) fl12_161 rfl ?_
  refine tm_iload_n dX12_startMachine_25 rfl 1 rfl ?_
  refine tm_iconst dX12_startMachine_26 ?_
  refine tm_iast (z := m) (v := 0) dX12_startMachine_27 (show mT[47]? = some (76, 0, 3) from rfl) (by omega) (by omega) (by decide) ?_
  have z73 : (sA 76 (m) (0) (sA 75 (m) (0) (sA 74 (m) (0) (sA 73 (m) (0) σ)))).2.1 73 m = 0 := ra_o (by decide) (ra_o (by decide) (ra_o (by decide) ra_eq))
  refine tm_aload_n dX12_startMachine_28 rfl 0 rfl ?_
  refine tm_iload_n dX12_startMachine_29 rfl 1 rfl ?_
  refine tm_iload_n dX12_startMachine_30 rfl 2 rfl ?_
  refine tm_callV (M := m_X12_startMachine) (pc := 31) (ix := 536) (M' := m_X12_enterCall) (As := [.int (iI m), .int (iI x)]) (rest := []) dX12_startMachine_31 ok_X12_enterCall im_X12_enterCall se_X12_enterCall ml12_536 np_X12_enterCall rfl rfl (Nat.le_of_ble_eq_true rfl) (Nat.le_of_ble_eq_true rfl) rfl (f_X12_enterCall (d) (σ := (sA 76 (m) (0) (sA 75 (m) (0) (sA 74 (m) (0) (sA 73 (m) (0) σ))))) (m := m) (r := x) ((((hR.A (by omega)).A (by omega)).A (by omega)).A (by omega)) hm2 (by rw [z73]; decide) (by omega)) (fun r1 σ2 hp => ?_)
  obtain ⟨rfl, f4, f5, f6, f7, f8, f9, f10⟩ := hp
  show Tm _ _ 34 b σ2 [(0, .ref b), (1, .int (iI m)), (2, .int (iI x)), (3, .int (iI a1)), (4, .int (iI a2)), (5, .int (iI a3)), (6, .int (iI a4))] [] _
  have hE2 := f6
  have hE3 := f7
  have hE4 := f8
  have hE5 := f9
  have hE6 := f10
  refine tm_iconst dX12_startMachine_34 ?_
  refine tm_istore (L' := [(7, .int (iI 0)), (0, .ref b), (1, .int (iI m)), (2, .int (iI x)), (3, .int (iI a1)), (4, .int (iI a2)), (5, .int (iI a3)), (6, .int (iI a4))]) dX12_startMachine_35 (by decide) rfl ?_
  refine tm_sub [0, 1, 2, 3, 4, 5, 6, 7] rfl (f_startM (d) (σ0 := σ2) (m := m) (x := x) (a1 := a1) (a2 := a2) (a3 := a3) (a4 := a4) hm2 hx f5 (by rw [((show Fr [] [73, 74, 75, 76, 78, 79, 80, 81, 82] [] σ σ2 from (((((Fr.rfl.A (by decide)).A (by decide)).A (by decide)).A (by decide)).trans (Fr.sub f4 (by decide) (by decide) (by decide))))).2.1 11 (by decide)]; exact hpm) (by rw [((show Fr [] [73, 74, 75, 76, 78, 79, 80, 81, 82] [] σ σ2 from (((((Fr.rfl.A (by decide)).A (by decide)).A (by decide)).A (by decide)).trans (Fr.sub f4 (by decide) (by decide) (by decide))))).2.1 11 (by decide), ((show Fr [] [73, 74, 75, 76, 78, 79, 80, 81, 82] [] σ σ2 from (((((Fr.rfl.A (by decide)).A (by decide)).A (by decide)).A (by decide)).trans (Fr.sub f4 (by decide) (by decide) (by decide))))).2.1 18 (by decide)]; exact hnm) (by omega) (by omega) (by omega) (by omega) (fun n116 σ17 F13 R14 f15 => ?_) _ (0) σ2 Fr.rfl f5 (by rw [((show Fr [] [73, 74, 75, 76, 78, 79, 80, 81, 82] [] σ σ2 from (((((Fr.rfl.A (by decide)).A (by decide)).A (by decide)).A (by decide)).trans (Fr.sub f4 (by decide) (by decide) (by decide))))).2.1 11 (by decide)]; omega) PWG.z rfl)
  show Tm _ _ 106 b σ17 [(7, .int (iI n116)), (0, .ref b), (1, .int (iI m)), (2, .int (iI x)), (3, .int (iI a1)), (4, .int (iI a2)), (5, .int (iI a3)), (6, .int (iI a4))] [] _
  exact tm_vret rfl dX12_startMachine_106 (⟨rfl, ((((((Fr.rfl.A (by decide)).A (by decide)).A (by decide)).A (by decide)).trans (Fr.sub f4 (by decide) (by decide) (by decide))).trans (Fr.sub F13 (by decide) (by decide) (by decide))), R14, ra_F F13 (by decide) (hE2.trans (by rw [z73]; rfl)), by rw [z73] at hE3; rw [show 9 * m + 0 = 9 * m by omega] at hE3; exact ⟨ra_F F13 (by decide) hE3.1, ra_F F13 (by decide) hE3.2.1, ra_F F13 (by decide) hE3.2.2⟩, fun j hj => ⟨⟨ra_F F13 (by decide) ((hE4 j hj).trans (ra_o (by decide) (ra_o (by decide) (ra_o (by decide) (ra_ne hj rfl))))), ra_F F13 (by decide) (ra_F f4 (by decide) (ra_ne hj rfl))⟩, fun z a e => by rw [z73] at hE5; have q := hE5 z (by omega); exact ⟨ra_F F13 (by decide) (q.1.trans rfl), ra_F F13 (by decide) (q.2.1.trans rfl), ra_F F13 (by decide) (q.2.2.trans rfl)⟩⟩, ra_F F13 (by decide) (ra_F f4 (by decide) (ra_eq)), smq_of z73 hE6 f15 f4 F13 ⟨⟨rfl, rfl⟩, rfl, rfl⟩ ⟨ra_o (by decide) (ra_eq), fun j hj => ra_o (by decide) (ra_ne hj rfl)⟩⟩)
end
section
set_option maxHeartbeats 4000000 in
set_option maxRecDepth 20000 in
theorem f_X12_start (d : Nat) {b : Nat} {σ : MS} {x : Int} {a1 : Int} {a2 : Int} {a3 : Int} {a4 : Int} (hR : RG σ) (hit : ITM σ) (hpar : PAR σ) (hnam : NAM σ) (hrt : RTN σ) (hpn : ∀ r, 0 ≤ r → r < σ.1 10 → σ.2.1 11 r ≤ σ.2.1 12 r) (h_x : -2147483648 ≤ x ∧ x ≤ 2147483647) (h_a1 : -2147483648 ≤ a1 ∧ a1 ≤ 2147483647) (h_a2 : -2147483648 ≤ a2 ∧ a2 ≤ 2147483647) (h_a3 : -2147483648 ≤ a3 ∧ a3 ≤ 2147483647) (h_a4 : -2147483648 ≤ a4 ∧ a4 ≤ 2147483647) : Tm (d + 3) m_X12_start 0 b σ [(0, .ref b), (1, .int (iI x)), (2, .int (iI a1)), (3, .int (iI a2)), (4, .int (iI a3)), (5, .int (iI a4))] [] (fun ro σ2 => ∃ v : Int, ro = some (.int (iI v)) ∧ ((v = 0 ∨ v = 1)) ∧ (Fr [0, 67, 68, 69, 70] [73, 74, 75, 76, 78, 79, 80, 81, 82] [] σ σ2) ∧ (RG σ2) ∧ (v = 0 → σ2.1 67 = σ.1 67 ∧ σ2.1 68 = σ.1 68 ∧ σ2.2.1 = σ.2.1) ∧ (v = 1 → (0 ≤ x ∧ x < σ.1 10) ∧ σ2.2.1 73 0 = 1 ∧ (σ2.2.1 78 (9 * 0) = x ∧ σ2.2.1 79 (9 * 0) = 0 ∧ σ2.2.1 80 (9 * 0) = 0)) ∧ (v = 0 → σ2.1 70 = σ.1 70) ∧ (v = 1 → σ2.1 70 = 0 ∧ σ2.2.1 76 0 = 0) ∧ ((v = 1 ∧ 0 ≤ x ∧ x < σ.1 10) ∨ (v = 0 ∧ (x < 0 ∨ σ.1 10 ≤ x))) ∧ (STS σ x a1 a2 a3 a4 v σ2)) := by
  refine tm_aload_n dX12_start_0 rfl 0 rfl ?_
  refine tm_iconst dX12_start_1 ?_
  refine tm_putS (k := 0) (v := 0) lay_12 dX12_start_2 (by decide) fl12_185 rfl (tyX12_ok 0 (by decide)) rfl rfl rfl ?_
  refine tm_aload_n dX12_start_5 rfl 0 rfl ?_
  refine tm_iload_n dX12_start_6 rfl 1 rfl ?_
  refine tm_callV (M := m_X12_start) (pc := 7) (ix := 404) (M' := m_X12_isRoutine) (As := [.int (iI x)]) (rest := []) dX12_start_7 ok_X12_isRoutine im_X12_isRoutine se_X12_isRoutine ml12_404 np_X12_isRoutine rfl rfl (Nat.le_of_ble_eq_true rfl) (Nat.le_of_ble_eq_true rfl) rfl (c_X12_isRoutine (d) (σ := (sS 0 0 σ)) (x := x) (hR.S (by omega)) hrt.1 (by omega)) (fun r1 σ2 hp => ?_)
  obtain ⟨v3, rfl, rfl, f4, f5⟩ := hp
  show Tm _ _ 10 b (sS 0 0 σ) [(0, .ref b), (1, .int (iI x)), (2, .int (iI a1)), (3, .int (iI a2)), (4, .int (iI a3)), (5, .int (iI a4))] [.int (iI v3)] _
  have e10 : (sS 0 0 σ).1 10 = σ.1 10 := rfl
  have hrt1 := hrt.1
  refine tm_if_ne (tgt := 15) dX12_start_10 (by decide) ⟨by omega, by omega⟩ (fun h6 => ?_) (fun h6 => ?_)
  · have hri := hrt.2 x (by omega) (by omega)
    have hof := hri.2.1
    have hok := hri.2.2.1
    have q1 := hof.1
    have q2 := hnam x (by omega) (by omega)
    have q3 := hpar x (by omega) (by omega)
    have hf0 := hri.2.2.2.1
    unfold FR0 at hf0
    have hnn : ∀ n, 0 ≤ n → n < σ.2.1 11 x → 0 ≤ σ.2.1 18 (144 * x + n) ∧ σ.2.1 18 (144 * x + n) < 192 := fun n a c => by
      have h := (hof.2 0 (by omega) (by omega)).2 n a (by rw [hf0]; have := hpn x (by omega) (by omega); omega)
      rw [Int.mul_zero, Int.add_zero] at h; exact h
    refine tm_aload_n dX12_start_15 rfl 0 rfl ?_
    refine tm_iconst dX12_start_16 ?_
    refine tm_iload_n dX12_start_17 rfl 1 rfl ?_
    refine tm_iload_n dX12_start_18 rfl 2 rfl ?_
    refine tm_iload_n dX12_start_19 rfl 3 rfl ?_
    refine tm_iload dX12_start_20 4 rfl ?_
    refine tm_iload dX12_start_22 5 rfl ?_
    refine tm_callV (M := m_X12_start) (pc := 24) (ix := 557) (M' := m_X12_startMachine) (As := [.int (iI 0), .int (iI x), .int (iI a1), .int (iI a2), .int (iI a3), .int (iI a4)]) (rest := []) dX12_start_24 ok_X12_startMachine im_X12_startMachine se_X12_startMachine ml12_557 np_X12_startMachine rfl rfl (Nat.le_of_ble_eq_true rfl) (Nat.le_of_ble_eq_true rfl) rfl (f_X12_startMachine (d) (σ := (sS 0 0 σ)) (m := 0) (x := x) (a1 := a1) (a2 := a2) (a3 := a3) (a4 := a4) (by decide) (by omega) (hR.S (by omega)) q3 (fun n a c => hnn n a c) (by omega) (by omega) (by omega) (by omega)) (fun r7 σ8 hp => ?_)
    obtain ⟨rfl, f10, f11, f12, f13, f14, f15, f16⟩ := hp
    show Tm _ _ 27 b σ8 [(0, .ref b), (1, .int (iI x)), (2, .int (iI a1)), (3, .int (iI a2)), (4, .int (iI a3)), (5, .int (iI a4))] [] _
    have kk2 := f12
    have kk3 := f13
    have kk5 := f15
    have kk6 := f16
    refine tm_aload_n dX12_start_27 rfl 0 rfl ?_
    refine tm_iconst dX12_start_28 ?_
    refine tm_putS (k := 67) (v := 1) lay_12 dX12_start_29 (by decide) fl12_397 rfl (tyX12_ok 67 (by decide)) rfl rfl rfl ?_
    refine tm_aload_n dX12_start_32 rfl 0 rfl ?_
    refine tm_iconst dX12_start_33 ?_
    refine tm_putS (k := 68) (v := 0) lay_12 dX12_start_34 (by decide) fl12_560 rfl (tyX12_ok 68 (by decide)) rfl rfl rfl ?_
    refine tm_aload_n dX12_start_37 rfl 0 rfl ?_
    refine tm_iconst dX12_start_38 ?_
    refine tm_putS (k := 69) (v := 0) lay_12 dX12_start_39 (by decide) fl12_563 rfl (tyX12_ok 69 (by decide)) rfl rfl rfl ?_
    refine tm_aload_n dX12_start_42 rfl 0 rfl ?_
    refine tm_iconst dX12_start_43 ?_
    refine tm_putS (k := 70) (v := 0) lay_12 dX12_start_44 (by decide) fl12_566 rfl (tyX12_ok 70 (by decide)) rfl rfl rfl ?_
    refine tm_iconst dX12_start_47 ?_
    exact tm_zret (v := 1) rfl (by decide) dX12_start_48 (⟨_, rfl, by omega, ((((((Fr.rfl.S (by decide)).trans (Fr.sub f10 (by decide) (by decide) (by decide))).S (by decide)).S (by decide)).S (by decide)).S (by decide)), ((((f11.S (by omega)).S (by omega)).S (by omega)).S (by omega)), fun q => absurd q (by decide), fun _ => ⟨by omega, kk2, kk3⟩, fun q => absurd q (by decide), fun _ => ⟨rs_eq, kk5⟩, by omega, Or.inr ⟨rfl, by omega, ⟨rs_o (by decide) (rs_o (by decide) (rs_o (by decide) (rs_eq))), rs_o (by decide) (rs_o (by decide) (rs_eq)), rs_o (by decide) (rs_eq), rs_eq⟩, ⟨kk2, kk3, kk5⟩, kk6⟩⟩)
  · refine tm_iconst dX12_start_13 ?_
    exact tm_zret (v := 0) rfl (by decide) dX12_start_14 (⟨_, rfl, by omega, (Fr.rfl.S (by decide)), (hR.S (by omega)), fun _ => ⟨rfl, rfl, rfl⟩, fun q => absurd q (by decide), fun _ => rfl, fun q => absurd q (by decide), by omega, Or.inl ⟨rfl, rfl⟩⟩)
end
section
set_option maxHeartbeats 4000000 in
set_option maxRecDepth 20000 in
theorem f_X12_run (d : Nat) {b : Nat} {σ : MS} {w : Int} (hR : RG σ) (hr7 : σ.1 67 ≠ 0 → σ.1 68 = 0 → RUD σ 0 ∧ 1 ≤ σ.2.1 73 0) (h_w : -2147483648 ≤ w ∧ w ≤ 2147483647) : Tm (d + 2) m_X12_run 0 b σ [(0, .ref b), (1, .int (iI w))] [] (fun ro σ2 => ∃ v : Int, ro = some (.int (iI v)) ∧ (Fr [0] [] [] σ σ2) ∧ (RG σ2) ∧ (RNA σ w v)) := by
  refine tm_aload_n dX12_run_0 rfl 0 rfl ?_
  refine tm_iconst dX12_run_1 ?_
  refine tm_putS (k := 0) (v := 0) lay_12 dX12_run_2 (by decide) fl12_185 rfl (tyX12_ok 0 (by decide)) rfl rfl rfl ?_
  refine tm_aload_n dX12_run_5 rfl 0 rfl ?_
  refine tm_getS (k := 67) (t := σ.1 67) dX12_run_6 (by decide) fl12_397 rfl (rs_o (by decide) (rfl)) ?_
  have g1 := RG.s hR 67
  refine tm_if_ne (tgt := 14) dX12_run_9 (by decide) ⟨by omega, by omega⟩ (fun h2 => ?_) (fun h2 => ?_)
  · refine tm_iload_n dX12_run_14 rfl 1 rfl ?_
    by_cases h3 : w < 0 ∨ 5 < w
    · refine tm_tableOut (tgt := 126) dX12_run_15 ⟨by omega, by omega⟩ h3 (by decide) ?_
      refine tm_iconst dX12_run_126 ?_
      exact tm_iret rfl dX12_run_127 (⟨_, rfl, (Fr.rfl.S (by decide)), (hR.S (by omega)), by first | exact Or.inl ⟨by omega, by omega⟩ | exact Or.inr ⟨by omega, Or.inl ⟨by omega, by omega, by omega⟩⟩ | exact Or.inr ⟨by omega, Or.inr (Or.inl ⟨by omega, by omega, by omega⟩)⟩ | exact Or.inr ⟨by omega, Or.inr (Or.inr (Or.inl ⟨by omega, by omega⟩))⟩ | exact Or.inr ⟨by omega, Or.inr (Or.inr (Or.inr (Or.inl ⟨by omega, by omega⟩)))⟩ | exact Or.inr ⟨by omega, Or.inr (Or.inr (Or.inr (Or.inr (Or.inl ⟨by omega, by omega⟩))))⟩ | exact Or.inr ⟨by omega, Or.inr (Or.inr (Or.inr (Or.inr (Or.inr (Or.inl ⟨by omega, by omega, by omega⟩)))))⟩ | exact Or.inr ⟨by omega, Or.inr (Or.inr (Or.inr (Or.inr (Or.inr (Or.inr (Or.inl ⟨by omega, by omega, by omega⟩))))))⟩ | exact Or.inr ⟨by omega, Or.inr (Or.inr (Or.inr (Or.inr (Or.inr (Or.inr (Or.inr (Or.inl ⟨by omega, by omega, by omega⟩)))))))⟩ | exact Or.inr ⟨by omega, Or.inr (Or.inr (Or.inr (Or.inr (Or.inr (Or.inr (Or.inr (Or.inr (Or.inl ⟨by omega, by omega, by omega⟩))))))))⟩ | exact Or.inr ⟨by omega, Or.inr (Or.inr (Or.inr (Or.inr (Or.inr (Or.inr (Or.inr (Or.inr (Or.inr (⟨by omega, by omega⟩)))))))))⟩⟩)
    · have h3c : w = 0 ∨ w = 1 ∨ w = 2 ∨ w = 3 ∨ w = 4 ∨ w = 5 := by omega
      rcases h3c with h3v | h3v | h3v | h3v | h3v | h3v
      · refine tm_tableIn (tgt := 52) dX12_run_15 ⟨by omega, by omega⟩ (by omega) (by omega) (show _ = some (37) by rw [h3v]; rfl) (by decide) ?_
        refine tm_aload_n dX12_run_52 rfl 0 rfl ?_
        refine tm_getS (k := 68) (t := σ.1 68) dX12_run_53 (by decide) fl12_560 rfl (rs_o (by decide) (rfl)) ?_
        have g4 := RG.s hR 68
        refine tm_if_eq (tgt := 63) dX12_run_56 (by decide) ⟨by omega, by omega⟩ (fun h5 => ?_) (fun h5 => ?_)
        · have hrr := hr7 (by omega) (by omega)
          have hmc := hrr.1.1
          refine tm_aload_n dX12_run_63 rfl 0 rfl ?_
          refine tm_get (k := 79) (v := .ref (b + 1 + 50)) lay_12 dX12_run_64 (by decide) fl12_170 rfl ?_
          refine tm_aload_n dX12_run_67 rfl 0 rfl ?_
          refine tm_get (k := 73) (v := .ref (b + 1 + 44)) lay_12 dX12_run_68 (by decide) fl12_152 rfl ?_
          refine tm_iconst dX12_run_71 ?_
          refine tm_iald (z := 0) (v := σ.2.1 73 0) dX12_run_72 (show mT[44]? = some (73, 0, 3) from rfl) (by omega) (by omega) (by decide) (ra_S (rfl)) ?_
          have g6 := RG.a hR 73 (0)
          refine tm_iconst dX12_run_73 ?_
          refine tm_isub dX12_run_74 ?_
          refine tm_iald (z := (σ.2.1 73 0) - 1) (v := σ.2.1 79 ((σ.2.1 73 0) - 1)) dX12_run_75 (show mT[50]? = some (79, 0, 27) from rfl) (by omega) (by omega) (by decide) (ra_S (rfl)) ?_
          have g7 := RG.a hR 79 ((σ.2.1 73 0) - 1)
          exact tm_iret rfl dX12_run_76 (⟨_, rfl, (Fr.rfl.S (by decide)), (hR.S (by omega)), by first | exact Or.inl ⟨by omega, by omega⟩ | exact Or.inr ⟨by omega, Or.inl ⟨by omega, by omega, by omega⟩⟩ | exact Or.inr ⟨by omega, Or.inr (Or.inl ⟨by omega, by omega, by omega⟩)⟩ | exact Or.inr ⟨by omega, Or.inr (Or.inr (Or.inl ⟨by omega, by omega⟩))⟩ | exact Or.inr ⟨by omega, Or.inr (Or.inr (Or.inr (Or.inl ⟨by omega, by omega⟩)))⟩ | exact Or.inr ⟨by omega, Or.inr (Or.inr (Or.inr (Or.inr (Or.inl ⟨by omega, by omega⟩))))⟩ | exact Or.inr ⟨by omega, Or.inr (Or.inr (Or.inr (Or.inr (Or.inr (Or.inl ⟨by omega, by omega, by omega⟩)))))⟩ | exact Or.inr ⟨by omega, Or.inr (Or.inr (Or.inr (Or.inr (Or.inr (Or.inr (Or.inl ⟨by omega, by omega, by omega⟩))))))⟩ | exact Or.inr ⟨by omega, Or.inr (Or.inr (Or.inr (Or.inr (Or.inr (Or.inr (Or.inr (Or.inl ⟨by omega, by omega, by omega⟩)))))))⟩ | exact Or.inr ⟨by omega, Or.inr (Or.inr (Or.inr (Or.inr (Or.inr (Or.inr (Or.inr (Or.inr (Or.inl ⟨by omega, by omega, by omega⟩))))))))⟩ | exact Or.inr ⟨by omega, Or.inr (Or.inr (Or.inr (Or.inr (Or.inr (Or.inr (Or.inr (Or.inr (Or.inr (⟨by omega, by omega⟩)))))))))⟩⟩)
        · refine tm_iconst dX12_run_59 ?_
          refine tm_goto (tgt := 76) dX12_run_60 (by decide) ?_
          exact tm_iret rfl dX12_run_76 (⟨_, rfl, (Fr.rfl.S (by decide)), (hR.S (by omega)), by first | exact Or.inl ⟨by omega, by omega⟩ | exact Or.inr ⟨by omega, Or.inl ⟨by omega, by omega, by omega⟩⟩ | exact Or.inr ⟨by omega, Or.inr (Or.inl ⟨by omega, by omega, by omega⟩)⟩ | exact Or.inr ⟨by omega, Or.inr (Or.inr (Or.inl ⟨by omega, by omega⟩))⟩ | exact Or.inr ⟨by omega, Or.inr (Or.inr (Or.inr (Or.inl ⟨by omega, by omega⟩)))⟩ | exact Or.inr ⟨by omega, Or.inr (Or.inr (Or.inr (Or.inr (Or.inl ⟨by omega, by omega⟩))))⟩ | exact Or.inr ⟨by omega, Or.inr (Or.inr (Or.inr (Or.inr (Or.inr (Or.inl ⟨by omega, by omega, by omega⟩)))))⟩ | exact Or.inr ⟨by omega, Or.inr (Or.inr (Or.inr (Or.inr (Or.inr (Or.inr (Or.inl ⟨by omega, by omega, by omega⟩))))))⟩ | exact Or.inr ⟨by omega, Or.inr (Or.inr (Or.inr (Or.inr (Or.inr (Or.inr (Or.inr (Or.inl ⟨by omega, by omega, by omega⟩)))))))⟩ | exact Or.inr ⟨by omega, Or.inr (Or.inr (Or.inr (Or.inr (Or.inr (Or.inr (Or.inr (Or.inr (Or.inl ⟨by omega, by omega, by omega⟩))))))))⟩ | exact Or.inr ⟨by omega, Or.inr (Or.inr (Or.inr (Or.inr (Or.inr (Or.inr (Or.inr (Or.inr (Or.inr (⟨by omega, by omega⟩)))))))))⟩⟩)
      · refine tm_tableIn (tgt := 77) dX12_run_15 ⟨by omega, by omega⟩ (by omega) (by omega) (show _ = some (62) by rw [h3v]; rfl) (by decide) ?_
        refine tm_aload_n dX12_run_77 rfl 0 rfl ?_
        refine tm_get (k := 76) (v := .ref (b + 1 + 47)) lay_12 dX12_run_78 (by decide) fl12_161 rfl ?_
        refine tm_iconst dX12_run_81 ?_
        refine tm_iald (z := 0) (v := σ.2.1 76 0) dX12_run_82 (show mT[47]? = some (76, 0, 3) from rfl) (by omega) (by omega) (by decide) (ra_S (rfl)) ?_
        have g8 := RG.a hR 76 (0)
        exact tm_iret rfl dX12_run_83 (⟨_, rfl, (Fr.rfl.S (by decide)), (hR.S (by omega)), by first | exact Or.inl ⟨by omega, by omega⟩ | exact Or.inr ⟨by omega, Or.inl ⟨by omega, by omega, by omega⟩⟩ | exact Or.inr ⟨by omega, Or.inr (Or.inl ⟨by omega, by omega, by omega⟩)⟩ | exact Or.inr ⟨by omega, Or.inr (Or.inr (Or.inl ⟨by omega, by omega⟩))⟩ | exact Or.inr ⟨by omega, Or.inr (Or.inr (Or.inr (Or.inl ⟨by omega, by omega⟩)))⟩ | exact Or.inr ⟨by omega, Or.inr (Or.inr (Or.inr (Or.inr (Or.inl ⟨by omega, by omega⟩))))⟩ | exact Or.inr ⟨by omega, Or.inr (Or.inr (Or.inr (Or.inr (Or.inr (Or.inl ⟨by omega, by omega, by omega⟩)))))⟩ | exact Or.inr ⟨by omega, Or.inr (Or.inr (Or.inr (Or.inr (Or.inr (Or.inr (Or.inl ⟨by omega, by omega, by omega⟩))))))⟩ | exact Or.inr ⟨by omega, Or.inr (Or.inr (Or.inr (Or.inr (Or.inr (Or.inr (Or.inr (Or.inl ⟨by omega, by omega, by omega⟩)))))))⟩ | exact Or.inr ⟨by omega, Or.inr (Or.inr (Or.inr (Or.inr (Or.inr (Or.inr (Or.inr (Or.inr (Or.inl ⟨by omega, by omega, by omega⟩))))))))⟩ | exact Or.inr ⟨by omega, Or.inr (Or.inr (Or.inr (Or.inr (Or.inr (Or.inr (Or.inr (Or.inr (Or.inr (⟨by omega, by omega⟩)))))))))⟩⟩)
      · refine tm_tableIn (tgt := 84) dX12_run_15 ⟨by omega, by omega⟩ (by omega) (by omega) (show _ = some (69) by rw [h3v]; rfl) (by decide) ?_
        refine tm_aload_n dX12_run_84 rfl 0 rfl ?_
        refine tm_getS (k := 70) (t := σ.1 70) dX12_run_85 (by decide) fl12_566 rfl (rs_o (by decide) (rfl)) ?_
        have g9 := RG.s hR 70
        exact tm_iret rfl dX12_run_88 (⟨_, rfl, (Fr.rfl.S (by decide)), (hR.S (by omega)), by first | exact Or.inl ⟨by omega, by omega⟩ | exact Or.inr ⟨by omega, Or.inl ⟨by omega, by omega, by omega⟩⟩ | exact Or.inr ⟨by omega, Or.inr (Or.inl ⟨by omega, by omega, by omega⟩)⟩ | exact Or.inr ⟨by omega, Or.inr (Or.inr (Or.inl ⟨by omega, by omega⟩))⟩ | exact Or.inr ⟨by omega, Or.inr (Or.inr (Or.inr (Or.inl ⟨by omega, by omega⟩)))⟩ | exact Or.inr ⟨by omega, Or.inr (Or.inr (Or.inr (Or.inr (Or.inl ⟨by omega, by omega⟩))))⟩ | exact Or.inr ⟨by omega, Or.inr (Or.inr (Or.inr (Or.inr (Or.inr (Or.inl ⟨by omega, by omega, by omega⟩)))))⟩ | exact Or.inr ⟨by omega, Or.inr (Or.inr (Or.inr (Or.inr (Or.inr (Or.inr (Or.inl ⟨by omega, by omega, by omega⟩))))))⟩ | exact Or.inr ⟨by omega, Or.inr (Or.inr (Or.inr (Or.inr (Or.inr (Or.inr (Or.inr (Or.inl ⟨by omega, by omega, by omega⟩)))))))⟩ | exact Or.inr ⟨by omega, Or.inr (Or.inr (Or.inr (Or.inr (Or.inr (Or.inr (Or.inr (Or.inr (Or.inl ⟨by omega, by omega, by omega⟩))))))))⟩ | exact Or.inr ⟨by omega, Or.inr (Or.inr (Or.inr (Or.inr (Or.inr (Or.inr (Or.inr (Or.inr (Or.inr (⟨by omega, by omega⟩)))))))))⟩⟩)
      · refine tm_tableIn (tgt := 89) dX12_run_15 ⟨by omega, by omega⟩ (by omega) (by omega) (show _ = some (74) by rw [h3v]; rfl) (by decide) ?_
        refine tm_aload_n dX12_run_89 rfl 0 rfl ?_
        refine tm_get (k := 75) (v := .ref (b + 1 + 46)) lay_12 dX12_run_90 (by decide) fl12_158 rfl ?_
        refine tm_iconst dX12_run_93 ?_
        refine tm_iald (z := 0) (v := σ.2.1 75 0) dX12_run_94 (show mT[46]? = some (75, 0, 3) from rfl) (by omega) (by omega) (by decide) (ra_S (rfl)) ?_
        have g10 := RG.a hR 75 (0)
        exact tm_iret rfl dX12_run_95 (⟨_, rfl, (Fr.rfl.S (by decide)), (hR.S (by omega)), by first | exact Or.inl ⟨by omega, by omega⟩ | exact Or.inr ⟨by omega, Or.inl ⟨by omega, by omega, by omega⟩⟩ | exact Or.inr ⟨by omega, Or.inr (Or.inl ⟨by omega, by omega, by omega⟩)⟩ | exact Or.inr ⟨by omega, Or.inr (Or.inr (Or.inl ⟨by omega, by omega⟩))⟩ | exact Or.inr ⟨by omega, Or.inr (Or.inr (Or.inr (Or.inl ⟨by omega, by omega⟩)))⟩ | exact Or.inr ⟨by omega, Or.inr (Or.inr (Or.inr (Or.inr (Or.inl ⟨by omega, by omega⟩))))⟩ | exact Or.inr ⟨by omega, Or.inr (Or.inr (Or.inr (Or.inr (Or.inr (Or.inl ⟨by omega, by omega, by omega⟩)))))⟩ | exact Or.inr ⟨by omega, Or.inr (Or.inr (Or.inr (Or.inr (Or.inr (Or.inr (Or.inl ⟨by omega, by omega, by omega⟩))))))⟩ | exact Or.inr ⟨by omega, Or.inr (Or.inr (Or.inr (Or.inr (Or.inr (Or.inr (Or.inr (Or.inl ⟨by omega, by omega, by omega⟩)))))))⟩ | exact Or.inr ⟨by omega, Or.inr (Or.inr (Or.inr (Or.inr (Or.inr (Or.inr (Or.inr (Or.inr (Or.inl ⟨by omega, by omega, by omega⟩))))))))⟩ | exact Or.inr ⟨by omega, Or.inr (Or.inr (Or.inr (Or.inr (Or.inr (Or.inr (Or.inr (Or.inr (Or.inr (⟨by omega, by omega⟩)))))))))⟩⟩)
      · refine tm_tableIn (tgt := 96) dX12_run_15 ⟨by omega, by omega⟩ (by omega) (by omega) (show _ = some (81) by rw [h3v]; rfl) (by decide) ?_
        refine tm_aload_n dX12_run_96 rfl 0 rfl ?_
        refine tm_getS (k := 68) (t := σ.1 68) dX12_run_97 (by decide) fl12_560 rfl (rs_o (by decide) (rfl)) ?_
        have g11 := RG.s hR 68
        refine tm_if_eq (tgt := 107) dX12_run_100 (by decide) ⟨by omega, by omega⟩ (fun h12 => ?_) (fun h12 => ?_)
        · have hrr := hr7 (by omega) (by omega)
          have hmc := hrr.1.1
          have ed9 : dpt (sS 0 0 σ) 0 = dpt σ 0 := rfl
          refine tm_aload_n dX12_run_107 rfl 0 rfl ?_
          refine tm_iconst dX12_run_108 ?_
          refine tm_callV (M := m_X12_run) (pc := 109) (ix := 554) (M' := m_X12_depth) (As := [.int (iI 0)]) (rest := []) dX12_run_109 ok_X12_depth im_X12_depth se_X12_depth ml12_554 np_X12_depth rfl rfl (Nat.le_of_ble_eq_true rfl) (Nat.le_of_ble_eq_true rfl) rfl (c_X12_depth (d) (σ := (sS 0 0 σ)) (m := 0) (hR.S (by omega)) (by decide) hmc (fun c a e => ⟨_, hrr.1.2 c a e⟩)) (fun r13 σ14 hp => ?_)
          obtain ⟨v15, rfl, rfl, f16, f17⟩ := hp
          show Tm _ _ 112 b (sS 0 0 σ) [(0, .ref b), (1, .int (iI w))] [.int (iI v15)] _
          exact tm_iret rfl dX12_run_112 (⟨_, rfl, (Fr.rfl.S (by decide)), (hR.S (by omega)), by first | exact Or.inl ⟨by omega, by omega⟩ | exact Or.inr ⟨by omega, Or.inl ⟨by omega, by omega, by omega⟩⟩ | exact Or.inr ⟨by omega, Or.inr (Or.inl ⟨by omega, by omega, by omega⟩)⟩ | exact Or.inr ⟨by omega, Or.inr (Or.inr (Or.inl ⟨by omega, by omega⟩))⟩ | exact Or.inr ⟨by omega, Or.inr (Or.inr (Or.inr (Or.inl ⟨by omega, by omega⟩)))⟩ | exact Or.inr ⟨by omega, Or.inr (Or.inr (Or.inr (Or.inr (Or.inl ⟨by omega, by omega⟩))))⟩ | exact Or.inr ⟨by omega, Or.inr (Or.inr (Or.inr (Or.inr (Or.inr (Or.inl ⟨by omega, by omega, by omega⟩)))))⟩ | exact Or.inr ⟨by omega, Or.inr (Or.inr (Or.inr (Or.inr (Or.inr (Or.inr (Or.inl ⟨by omega, by omega, by omega⟩))))))⟩ | exact Or.inr ⟨by omega, Or.inr (Or.inr (Or.inr (Or.inr (Or.inr (Or.inr (Or.inr (Or.inl ⟨by omega, by omega, by omega⟩)))))))⟩ | exact Or.inr ⟨by omega, Or.inr (Or.inr (Or.inr (Or.inr (Or.inr (Or.inr (Or.inr (Or.inr (Or.inl ⟨by omega, by omega, by omega⟩))))))))⟩ | exact Or.inr ⟨by omega, Or.inr (Or.inr (Or.inr (Or.inr (Or.inr (Or.inr (Or.inr (Or.inr (Or.inr (⟨by omega, by omega⟩)))))))))⟩⟩)
        · refine tm_iconst dX12_run_103 ?_
          refine tm_goto (tgt := 112) dX12_run_104 (by decide) ?_
          exact tm_iret rfl dX12_run_112 (⟨_, rfl, (Fr.rfl.S (by decide)), (hR.S (by omega)), by first | exact Or.inl ⟨by omega, by omega⟩ | exact Or.inr ⟨by omega, Or.inl ⟨by omega, by omega, by omega⟩⟩ | exact Or.inr ⟨by omega, Or.inr (Or.inl ⟨by omega, by omega, by omega⟩)⟩ | exact Or.inr ⟨by omega, Or.inr (Or.inr (Or.inl ⟨by omega, by omega⟩))⟩ | exact Or.inr ⟨by omega, Or.inr (Or.inr (Or.inr (Or.inl ⟨by omega, by omega⟩)))⟩ | exact Or.inr ⟨by omega, Or.inr (Or.inr (Or.inr (Or.inr (Or.inl ⟨by omega, by omega⟩))))⟩ | exact Or.inr ⟨by omega, Or.inr (Or.inr (Or.inr (Or.inr (Or.inr (Or.inl ⟨by omega, by omega, by omega⟩)))))⟩ | exact Or.inr ⟨by omega, Or.inr (Or.inr (Or.inr (Or.inr (Or.inr (Or.inr (Or.inl ⟨by omega, by omega, by omega⟩))))))⟩ | exact Or.inr ⟨by omega, Or.inr (Or.inr (Or.inr (Or.inr (Or.inr (Or.inr (Or.inr (Or.inl ⟨by omega, by omega, by omega⟩)))))))⟩ | exact Or.inr ⟨by omega, Or.inr (Or.inr (Or.inr (Or.inr (Or.inr (Or.inr (Or.inr (Or.inr (Or.inl ⟨by omega, by omega, by omega⟩))))))))⟩ | exact Or.inr ⟨by omega, Or.inr (Or.inr (Or.inr (Or.inr (Or.inr (Or.inr (Or.inr (Or.inr (Or.inr (⟨by omega, by omega⟩)))))))))⟩⟩)
      · refine tm_tableIn (tgt := 113) dX12_run_15 ⟨by omega, by omega⟩ (by omega) (by omega) (show _ = some (98) by rw [h3v]; rfl) (by decide) ?_
        refine tm_aload_n dX12_run_113 rfl 0 rfl ?_
        refine tm_getS (k := 69) (t := σ.1 69) dX12_run_114 (by decide) fl12_563 rfl (rs_o (by decide) (rfl)) ?_
        have g18 := RG.s hR 69
        refine tm_if_eq (tgt := 124) dX12_run_117 (by decide) ⟨by omega, by omega⟩ (fun h19 => ?_) (fun h19 => ?_)
        · refine tm_iconst dX12_run_124 ?_
          exact tm_iret rfl dX12_run_125 (⟨_, rfl, (Fr.rfl.S (by decide)), (hR.S (by omega)), by first | exact Or.inl ⟨by omega, by omega⟩ | exact Or.inr ⟨by omega, Or.inl ⟨by omega, by omega, by omega⟩⟩ | exact Or.inr ⟨by omega, Or.inr (Or.inl ⟨by omega, by omega, by omega⟩)⟩ | exact Or.inr ⟨by omega, Or.inr (Or.inr (Or.inl ⟨by omega, by omega⟩))⟩ | exact Or.inr ⟨by omega, Or.inr (Or.inr (Or.inr (Or.inl ⟨by omega, by omega⟩)))⟩ | exact Or.inr ⟨by omega, Or.inr (Or.inr (Or.inr (Or.inr (Or.inl ⟨by omega, by omega⟩))))⟩ | exact Or.inr ⟨by omega, Or.inr (Or.inr (Or.inr (Or.inr (Or.inr (Or.inl ⟨by omega, by omega, by omega⟩)))))⟩ | exact Or.inr ⟨by omega, Or.inr (Or.inr (Or.inr (Or.inr (Or.inr (Or.inr (Or.inl ⟨by omega, by omega, by omega⟩))))))⟩ | exact Or.inr ⟨by omega, Or.inr (Or.inr (Or.inr (Or.inr (Or.inr (Or.inr (Or.inr (Or.inl ⟨by omega, by omega, by omega⟩)))))))⟩ | exact Or.inr ⟨by omega, Or.inr (Or.inr (Or.inr (Or.inr (Or.inr (Or.inr (Or.inr (Or.inr (Or.inl ⟨by omega, by omega, by omega⟩))))))))⟩ | exact Or.inr ⟨by omega, Or.inr (Or.inr (Or.inr (Or.inr (Or.inr (Or.inr (Or.inr (Or.inr (Or.inr (⟨by omega, by omega⟩)))))))))⟩⟩)
        · refine tm_iconst dX12_run_120 ?_
          refine tm_goto (tgt := 125) dX12_run_121 (by decide) ?_
          exact tm_iret rfl dX12_run_125 (⟨_, rfl, (Fr.rfl.S (by decide)), (hR.S (by omega)), by first | exact Or.inl ⟨by omega, by omega⟩ | exact Or.inr ⟨by omega, Or.inl ⟨by omega, by omega, by omega⟩⟩ | exact Or.inr ⟨by omega, Or.inr (Or.inl ⟨by omega, by omega, by omega⟩)⟩ | exact Or.inr ⟨by omega, Or.inr (Or.inr (Or.inl ⟨by omega, by omega⟩))⟩ | exact Or.inr ⟨by omega, Or.inr (Or.inr (Or.inr (Or.inl ⟨by omega, by omega⟩)))⟩ | exact Or.inr ⟨by omega, Or.inr (Or.inr (Or.inr (Or.inr (Or.inl ⟨by omega, by omega⟩))))⟩ | exact Or.inr ⟨by omega, Or.inr (Or.inr (Or.inr (Or.inr (Or.inr (Or.inl ⟨by omega, by omega, by omega⟩)))))⟩ | exact Or.inr ⟨by omega, Or.inr (Or.inr (Or.inr (Or.inr (Or.inr (Or.inr (Or.inl ⟨by omega, by omega, by omega⟩))))))⟩ | exact Or.inr ⟨by omega, Or.inr (Or.inr (Or.inr (Or.inr (Or.inr (Or.inr (Or.inr (Or.inl ⟨by omega, by omega, by omega⟩)))))))⟩ | exact Or.inr ⟨by omega, Or.inr (Or.inr (Or.inr (Or.inr (Or.inr (Or.inr (Or.inr (Or.inr (Or.inl ⟨by omega, by omega, by omega⟩))))))))⟩ | exact Or.inr ⟨by omega, Or.inr (Or.inr (Or.inr (Or.inr (Or.inr (Or.inr (Or.inr (Or.inr (Or.inr (⟨by omega, by omega⟩)))))))))⟩⟩)
  · refine tm_iconst dX12_run_12 ?_
    exact tm_iret rfl dX12_run_13 (⟨_, rfl, (Fr.rfl.S (by decide)), (hR.S (by omega)), by first | exact Or.inl ⟨by omega, by omega⟩ | exact Or.inr ⟨by omega, Or.inl ⟨by omega, by omega, by omega⟩⟩ | exact Or.inr ⟨by omega, Or.inr (Or.inl ⟨by omega, by omega, by omega⟩)⟩ | exact Or.inr ⟨by omega, Or.inr (Or.inr (Or.inl ⟨by omega, by omega⟩))⟩ | exact Or.inr ⟨by omega, Or.inr (Or.inr (Or.inr (Or.inl ⟨by omega, by omega⟩)))⟩ | exact Or.inr ⟨by omega, Or.inr (Or.inr (Or.inr (Or.inr (Or.inl ⟨by omega, by omega⟩))))⟩ | exact Or.inr ⟨by omega, Or.inr (Or.inr (Or.inr (Or.inr (Or.inr (Or.inl ⟨by omega, by omega, by omega⟩)))))⟩ | exact Or.inr ⟨by omega, Or.inr (Or.inr (Or.inr (Or.inr (Or.inr (Or.inr (Or.inl ⟨by omega, by omega, by omega⟩))))))⟩ | exact Or.inr ⟨by omega, Or.inr (Or.inr (Or.inr (Or.inr (Or.inr (Or.inr (Or.inr (Or.inl ⟨by omega, by omega, by omega⟩)))))))⟩ | exact Or.inr ⟨by omega, Or.inr (Or.inr (Or.inr (Or.inr (Or.inr (Or.inr (Or.inr (Or.inr (Or.inl ⟨by omega, by omega, by omega⟩))))))))⟩ | exact Or.inr ⟨by omega, Or.inr (Or.inr (Or.inr (Or.inr (Or.inr (Or.inr (Or.inr (Or.inr (Or.inr (⟨by omega, by omega⟩)))))))))⟩⟩)
set_option maxHeartbeats 4000000 in
set_option maxRecDepth 20000 in
theorem f_X12_printed (d : Nat) {b : Nat} {σ : MS} {x : Int} (hR : RG σ) (h_x : -2147483648 ≤ x ∧ x ≤ 2147483647) : Tm (d + 1) m_X12_printed 0 b σ [(0, .ref b), (1, .int (iI x))] [] (fun ro σ2 => ∃ v : Int, ro = some (.int (iI v)) ∧ (Fr [0] [] [] σ σ2) ∧ (RG σ2) ∧ (PRA σ x v)) := by
  refine tm_aload_n dX12_printed_0 rfl 0 rfl ?_
  refine tm_iconst dX12_printed_1 ?_
  refine tm_putS (k := 0) (v := 0) lay_12 dX12_printed_2 (by decide) fl12_185 rfl (tyX12_ok 0 (by decide)) rfl rfl rfl ?_
  refine tm_aload_n dX12_printed_5 rfl 0 rfl ?_
  refine tm_getS (k := 67) (t := σ.1 67) dX12_printed_6 (by decide) fl12_397 rfl (rs_o (by decide) (rfl)) ?_
  have g1 := RG.s hR 67
  refine tm_if_eq (tgt := 42) dX12_printed_9 (by decide) ⟨by omega, by omega⟩ (fun h2 => ?_) (fun h2 => ?_)
  · refine tm_iconst dX12_printed_42 ?_
    exact tm_iret rfl dX12_printed_43 (⟨_, rfl, (Fr.rfl.S (by decide)), (hR.S (by omega)), by first | exact Or.inl ⟨⟨by omega, by omega, by omega, by omega⟩, rfl⟩ | exact Or.inr ⟨by omega, by omega⟩⟩)
  · refine tm_iload_n dX12_printed_12 rfl 1 rfl ?_
    refine tm_if_lt (tgt := 42) dX12_printed_13 (by decide) ⟨by omega, by omega⟩ (fun h3 => ?_) (fun h3 => ?_)
    · refine tm_iconst dX12_printed_42 ?_
      exact tm_iret rfl dX12_printed_43 (⟨_, rfl, (Fr.rfl.S (by decide)), (hR.S (by omega)), by first | exact Or.inl ⟨⟨by omega, by omega, by omega, by omega⟩, rfl⟩ | exact Or.inr ⟨by omega, by omega⟩⟩)
    · refine tm_iload_n dX12_printed_16 rfl 1 rfl ?_
      refine tm_sipush dX12_printed_17 (by decide) ?_
      refine tm_icmp_ge (tgt := 42) dX12_printed_20 (by decide) ⟨by omega, by omega⟩ ⟨by decide, by decide⟩ (fun h4 => ?_) (fun h4 => ?_)
      · refine tm_iconst dX12_printed_42 ?_
        exact tm_iret rfl dX12_printed_43 (⟨_, rfl, (Fr.rfl.S (by decide)), (hR.S (by omega)), by first | exact Or.inl ⟨⟨by omega, by omega, by omega, by omega⟩, rfl⟩ | exact Or.inr ⟨by omega, by omega⟩⟩)
      · refine tm_iload_n dX12_printed_23 rfl 1 rfl ?_
        refine tm_aload_n dX12_printed_24 rfl 0 rfl ?_
        refine tm_get (k := 76) (v := .ref (b + 1 + 47)) lay_12 dX12_printed_25 (by decide) fl12_161 rfl ?_
        refine tm_iconst dX12_printed_28 ?_
        refine tm_iald (z := 0) (v := σ.2.1 76 0) dX12_printed_29 (show mT[47]? = some (76, 0, 3) from rfl) (by omega) (by omega) (by decide) (ra_S (rfl)) ?_
        have g5 := RG.a hR 76 (0)
        refine tm_icmp_ge (tgt := 42) dX12_printed_30 (by decide) ⟨by omega, by omega⟩ ⟨by omega, by omega⟩ (fun h6 => ?_) (fun h6 => ?_)
        · refine tm_iconst dX12_printed_42 ?_
          exact tm_iret rfl dX12_printed_43 (⟨_, rfl, (Fr.rfl.S (by decide)), (hR.S (by omega)), by first | exact Or.inl ⟨⟨by omega, by omega, by omega, by omega⟩, rfl⟩ | exact Or.inr ⟨by omega, by omega⟩⟩)
        · refine tm_aload_n dX12_printed_33 rfl 0 rfl ?_
          refine tm_get (k := 77) (v := .ref (b + 1 + 48)) lay_12 dX12_printed_34 (by decide) fl12_164 rfl ?_
          refine tm_iload_n dX12_printed_37 rfl 1 rfl ?_
          refine tm_iald (z := x) (v := σ.2.1 77 x) dX12_printed_38 (show mT[48]? = some (77, 0, 600) from rfl) (by omega) (by omega) (by decide) (ra_S (rfl)) ?_
          have g7 := RG.a hR 77 (x)
          refine tm_goto (tgt := 43) dX12_printed_39 (by decide) ?_
          exact tm_iret rfl dX12_printed_43 (⟨_, rfl, (Fr.rfl.S (by decide)), (hR.S (by omega)), by first | exact Or.inl ⟨⟨by omega, by omega, by omega, by omega⟩, rfl⟩ | exact Or.inr ⟨by omega, by omega⟩⟩)
end
section
def itU (P : Int → Int) : Nat → Int → Int
  | 0, f => f
  | n + 1, f => if f < 0 then f else itU P n (P f)
theorem itU_nx {P : Int → Int} : ∀ (n : Nat) (f : Int), 0 ≤ itU P n f → itU P (n + 1) f = P (itU P n f) := by
  intro n
  induction n with
  | zero =>
    intro f h
    have h : 0 ≤ f := h
    show (if f < 0 then f else P f) = P f
    rw [if_neg (by omega)]
  | succ n ih =>
    intro f h
    have e : ∀ m : Nat, itU P (m + 1) f = if f < 0 then f else itU P m (P f) := fun _ => rfl
    by_cases z : f < 0
    · rw [e n, if_pos z] at h
      omega
    · rw [e n, if_neg z] at h
      rw [e (n + 1), if_neg z, e n, if_neg z]
      exact ih (P f) h
def AB (σ : MS) (m c : Int) : Int := dpt σ m - dsum σ m (σ.2.1 78) (σ.2.1 80) (c + 1 - 9 * m).toNat
def FNDS (σ : MS) (m k c f : Int) : Prop := (9 * m ≤ c ∧ c < 9 * m + σ.2.1 73 m) ∧ ∃ i : Nat, k = AB σ m c + i ∧ (i : Int) < dch σ m c ∧ f = itU (pr σ m c) i (σ.2.1 80 c)
def FNI (σ : MS) (m k c w f : Int) : Prop := ∃ i : Nat, w = k - AB σ m c - i ∧ (i : Int) + ch (pr σ m c) 13 f = dch σ m c ∧ f = itU (pr σ m c) i (σ.2.1 80 c)
section FND0
variable {σ : MS} {m k c w f g F c2 w2 v : Int}
theorem ABW (h : w = k - AB σ m c) (e : c2 = c) : w = k - AB σ m c2 := by rw [e]; exact h
theorem AB.top (h0 : 0 ≤ σ.2.1 73 m) (hc : c = 9 * m + σ.2.1 73 m - 1) : AB σ m c = 0 := by
  unfold AB
  rw [dpt_dsum, show c + 1 - 9 * m = σ.2.1 73 m by omega]
  omega
theorem AB.bot (hc : c = 9 * m - 1) : AB σ m c = dpt σ m := by
  unfold AB
  rw [show (c + 1 - 9 * m).toNat = 0 by omega]
  show dpt σ m - 0 = dpt σ m
  omega
theorem AB.nx (hc : 9 * m ≤ c) : AB σ m (c - 1) = AB σ m c + dch σ m c := by
  unfold AB
  have q := dsum_s (σ := σ) (m := m) (R := σ.2.1 78) (P := σ.2.1 80) (n := c + 1 - 9 * m) (by omega)
  rw [show 9 * m + (c + 1 - 9 * m - 1) = c by omega, show c + 1 - 9 * m - 1 = c - 1 + 1 - 9 * m by omega] at q
  rw [q, dch_dp]
  omega
theorem FNI.z (h : w = k - AB σ m c) (hf : f = σ.2.1 80 c) : FNI σ m k c w f := ⟨0, by omega, by rw [hf]; unfold dch; omega, hf⟩
theorem FNI.nx (h : FNI σ m k c w f) (hd : DEC σ m c F) (h0 : 0 ≤ f) (h1 : f < F) (hw : w2 = w - 1) (hg : pr σ m c f = g) : FNI σ m k c w2 g := by
  obtain ⟨i, e1, e2, e3⟩ := h
  have s := dch_step hd h0 h1
  have z : 0 ≤ itU (pr σ m c) i (σ.2.1 80 c) := by rw [← e3]; exact h0
  refine ⟨i + 1, by omega, by rw [hg] at s; omega, ?_⟩
  rw [itU_nx i _ z, ← e3, hg]
theorem FNI.fnd (h : FNI σ m k c w f) (hd : DEC σ m c F) (hc : 9 * m ≤ c ∧ c < 9 * m + σ.2.1 73 m) (h0 : 0 ≤ f) (h1 : f < F) (hw : w = 0) : FNDS σ m k c f := by
  obtain ⟨i, e1, e2, e3⟩ := h
  have s := dch_step hd h0 h1
  have r := (ch_rng (p := pr σ m c) 13 (pr σ m c f)).1
  exact ⟨hc, i, by omega, by omega, e3⟩
theorem FNI.out (h : FNI σ m k c w f) (hf : f = -1) (hc : 9 * m ≤ c) : w = k - AB σ m (c - 1) := by
  obtain ⟨i, e1, e2, e3⟩ := h
  rw [hf, ch_m1] at e2
  rw [AB.nx hc]
  omega
theorem fnd_no (h : w = k - AB σ m c ∧ (k < 0 ∨ 0 ≤ w)) (h0 : 9 * m - 1 ≤ c) (e : c < 9 * m ∨ w < 0) : k < 0 ∨ dpt σ m ≤ k := by
  rcases e with e | e
  · have q := AB.bot (σ := σ) (m := m) (c := c) (by omega)
    omega
  · omega
def IFR (σ : MS) (m k v c f : Int) : Prop := (v = 1 ∧ FNDS σ m k c f) ∨ (v = 0 ∧ (k < 0 ∨ dpt σ m ≤ k))
theorem IFR.one (h : IFR σ m k v c f) (e : v = 1) : FNDS σ m k c f := by
  rcases h with h | h
  · exact h.2
  · omega
theorem IFR.no (h : IFR σ m k v c f) (e : v = 0) : k < 0 ∨ dpt σ m ≤ k := by
  rcases h with h | h
  · omega
  · exact h.2
def ISK (σ : MS) (k v c f : Int) : Prop := (v = 1 ∧ (σ.1 67 ≠ 0 ∧ σ.1 68 = 0 ∧ 0 ≤ k) ∧ FNDS σ 0 k c f) ∨ (v = 0 ∧ (σ.1 67 = 0 ∨ σ.1 68 ≠ 0 ∨ k < 0 ∨ dpt σ 0 ≤ k))
theorem ISK.one (h : ISK σ k v c f) (e : v = 1) : (σ.1 67 ≠ 0 ∧ σ.1 68 = 0 ∧ 0 ≤ k) ∧ FNDS σ 0 k c f := by
  rcases h with h | h
  · exact h.2
  · omega
theorem ISK.no (h : ISK σ k v c f) (e : v = 0) : σ.1 67 = 0 ∨ σ.1 68 ≠ 0 ∨ k < 0 ∨ dpt σ 0 ≤ k := by
  rcases h with h | h
  · omega
  · exact h.2
theorem AB.s0 : AB (sS 0 0 σ) m c = AB σ m c := by
  unfold AB
  rw [dsum_fr (σ := σ) (τ := sS 0 0 σ) (ss := [0]) (ks := []) (js := []) (Fr.rfl.S (by decide)) (by decide)]
  rfl
theorem ISK.s0 (h : ISK (sS 0 0 σ) k v c f) : ISK σ k v c f := by
  unfold ISK FNDS at h ⊢
  simp only [AB.s0] at h
  exact h
end FND0
def SKA (σ : MS) (k w v : Int) : Prop := (v = -1 ∧ (σ.1 67 = 0 ∨ σ.1 68 ≠ 0 ∨ k < 0 ∨ dpt σ 0 ≤ k)) ∨ ((σ.1 67 ≠ 0 ∧ σ.1 68 = 0 ∧ 0 ≤ k) ∧ ∃ c f, FNDS σ 0 k c f ∧ ((w = 0 ∧ v = σ.2.1 15 (12 * σ.2.1 78 c + f)) ∨ (w = 1 ∧ v = σ.2.1 81 (12 * c + f)) ∨ (w = 2 ∧ v = σ.2.1 12 (σ.2.1 15 (12 * σ.2.1 78 c + f))) ∨ ((w < 0 ∨ 2 < w) ∧ v = -1)))
end
section
set_option maxHeartbeats 4000000 in
set_option maxRecDepth 20000 in
theorem f_isFr2 (d : Nat) {b : Nat} {σ : MS} {m : Int} {k : Int} {c : Int} {post : Option Value → MS → Prop} (hR : RG σ) (hm2 : 0 ≤ m ∧ m ≤ 2) (hmc : 0 ≤ σ.2.1 73 m ∧ σ.2.1 73 m ≤ 9) (hde : ∀ c, 9 * m ≤ c → c < 9 * m + σ.2.1 73 m → DEC σ m c (fn σ m c)) (hc : 9 * m ≤ c ∧ c < 9 * m + σ.2.1 73 m) (hx_98 : ∀ (w : Int) (f : Int) , (0 ≤ w ∧ w ≤ 2147483647) → (w = k - AB σ m (c - 1)) → Tm (d + 1) m_X12_isFrame 98 b σ [(5, .int (iI f)), (4, .int (iI c)), (3, .int (iI w)), (0, .ref b), (1, .int (iI m)), (2, .int (iI k))] [] post) (hr1 : ∀ c f, 9 * m ≤ c → c < 9 * m + σ.2.1 73 m → 0 ≤ f → f < fn σ m c → FNDS σ m k c f → post (some (.int (iI 1))) (sS 84 f (sS 83 c σ))) : ∀ (n : Nat) (w : Int) (f : Int) , (-1 ≤ f ∧ f < fn σ m c ∧ 0 ≤ w ∧ w ≤ 2147483647) → (FNI σ m k c w f) → (f + 1).toNat = n → Tm (d + 1) m_X12_isFrame 39 b σ [(5, .int (iI f)), (4, .int (iI c)), (3, .int (iI w)), (0, .ref b), (1, .int (iI m)), (2, .int (iI k))] [] post := by
  intro n
  induction n using Nat.strongRecOn with
  | _ n ih =>
    intro w f h0 hf hm
    have hd := hde c hc.1 hc.2
    have hd1 := hd.1
    have hd2 := hd.2.1
    refine tm_iload dX12_isFrame_39 0 rfl ?_
    refine tm_iconst dX12_isFrame_41 ?_
    refine tm_icmp_eq (tgt := 98) dX12_isFrame_42 (by decide) ⟨by omega, by omega⟩ ⟨by decide, by decide⟩ (fun h1 => ?_) (fun h1 => ?_)
    · exact tm_sub [0, 1, 2, 3, 4, 5] rfl (hx_98 (w) (f) (by omega) (hf.out (by omega) hc.1))
    · refine tm_iload_n dX12_isFrame_45 rfl 2 rfl ?_
      refine tm_if_ne (tgt := 63) dX12_isFrame_46 (by decide) ⟨by omega, by omega⟩ (fun h2 => ?_) (fun h2 => ?_)
      · have hdd := hd.2.2 f (by omega) (by omega)
        refine tm_iinc (q0 := 2) (L' := [(3, .int (iI (w + (-1)))), (5, .int (iI f)), (4, .int (iI c)), (0, .ref b), (1, .int (iI m)), (2, .int (iI k))]) dX12_isFrame_63 rfl (by decide) rfl ?_
        refine tm_iload_n dX12_isFrame_66 rfl 4 rfl ?_
        refine tm_iconst dX12_isFrame_67 ?_
        refine tm_icmp_ne (tgt := 75) dX12_isFrame_68 (by decide) ⟨by omega, by omega⟩ ⟨by decide, by decide⟩ (fun h3 => ?_) (fun h3 => ?_)
        · have hpr : pr σ m c f = σ.2.1 16 (12 * σ.2.1 78 c + f) := if_neg (by omega)
          rw [hpr] at hdd
          refine tm_aload_n dX12_isFrame_75 rfl 3 rfl ?_
          refine tm_get (k := 16) (v := .ref (b + 1 + 13)) lay_12 dX12_isFrame_76 (by decide) fl12_50 rfl ?_
          refine tm_bipush dX12_isFrame_79 (by decide) ?_
          refine tm_aload_n dX12_isFrame_81 rfl 3 rfl ?_
          refine tm_get (k := 78) (v := .ref (b + 1 + 49)) lay_12 dX12_isFrame_82 (by decide) fl12_167 rfl ?_
          refine tm_iload dX12_isFrame_85 2 rfl ?_
          refine tm_iald (z := c) (v := σ.2.1 78 c) dX12_isFrame_87 (show mT[49]? = some (78, 0, 27) from rfl) (by omega) (by omega) (by decide) (rfl) ?_
          have g4 := RG.a hR 78 (c)
          refine tm_imul dX12_isFrame_88 ?_
          refine tm_iload dX12_isFrame_89 1 rfl ?_
          refine tm_iadd dX12_isFrame_91 ?_
          refine tm_iald (z := (12 * (σ.2.1 78 c)) + f) (v := σ.2.1 16 ((12 * (σ.2.1 78 c)) + f)) dX12_isFrame_92 (show mT[13]? = some (16, 0, 72) from rfl) (by omega) (by omega) (by decide) (rfl) ?_
          have g5 := RG.a hR 16 ((12 * (σ.2.1 78 c)) + f)
          refine tm_istore (L' := [(5, .int (iI (σ.2.1 16 ((12 * (σ.2.1 78 c)) + f)))), (3, .int (iI (w + (-1)))), (4, .int (iI c)), (0, .ref b), (1, .int (iI m)), (2, .int (iI k))]) dX12_isFrame_93 (by decide) rfl ?_
          refine tm_goto (tgt := 39) dX12_isFrame_95 (by decide) ?_
          exact tm_sub [0, 2, 1, 3, 4, 5] rfl (ih _ (by omega) (w + (-1)) (σ.2.1 16 ((12 * (σ.2.1 78 c)) + f)) (by omega) (hf.nx hd (by omega) (by omega) (by omega) hpr) rfl)
        · have hpr : pr σ m c f = -1 := if_pos (by omega)
          rw [hpr] at hdd
          refine tm_iconst dX12_isFrame_71 ?_
          refine tm_goto (tgt := 93) dX12_isFrame_72 (by decide) ?_
          refine tm_istore (L' := [(5, .int (iI (-1))), (3, .int (iI (w + (-1)))), (4, .int (iI c)), (0, .ref b), (1, .int (iI m)), (2, .int (iI k))]) dX12_isFrame_93 (by decide) rfl ?_
          refine tm_goto (tgt := 39) dX12_isFrame_95 (by decide) ?_
          exact tm_sub [0, 2, 1, 3, 4, 5] rfl (ih _ (by omega) (w + (-1)) (-1) (by omega) (hf.nx hd (by omega) (by omega) (by omega) hpr) rfl)
      · refine tm_aload_n dX12_isFrame_49 rfl 3 rfl ?_
        refine tm_iload dX12_isFrame_50 1 rfl ?_
        refine tm_putS (k := 83) (v := c) lay_12 dX12_isFrame_52 (by decide) fl12_572 rfl (tyX12_ok 83 (by decide)) rfl rfl rfl ?_
        refine tm_aload_n dX12_isFrame_55 rfl 3 rfl ?_
        refine tm_iload dX12_isFrame_56 0 rfl ?_
        refine tm_putS (k := 84) (v := f) lay_12 dX12_isFrame_58 (by decide) fl12_575 rfl (tyX12_ok 84 (by decide)) rfl rfl rfl ?_
        refine tm_iconst dX12_isFrame_61 ?_
        exact tm_zret (v := 1) rfl (by decide) dX12_isFrame_62 (hr1 c f hc.1 hc.2 (by omega) (by omega) (hf.fnd hd hc (by omega) (by omega) (by omega)))
set_option maxHeartbeats 4000000 in
set_option maxRecDepth 20000 in
theorem f_isFr1 (d : Nat) {b : Nat} {σ : MS} {m : Int} {k : Int} {post : Option Value → MS → Prop} (hR : RG σ) (hm2 : 0 ≤ m ∧ m ≤ 2) (hmc : 0 ≤ σ.2.1 73 m ∧ σ.2.1 73 m ≤ 9) (hde : ∀ c, 9 * m ≤ c → c < 9 * m + σ.2.1 73 m → DEC σ m c (fn σ m c)) (hx_104 : ∀ (w : Int) (c : Int) , (k < 0 ∨ dpt σ m ≤ k) → Tm (d + 1) m_X12_isFrame 104 b σ [(4, .int (iI c)), (3, .int (iI w)), (0, .ref b), (1, .int (iI m)), (2, .int (iI k))] [] post) (hr1 : ∀ c f, 9 * m ≤ c → c < 9 * m + σ.2.1 73 m → 0 ≤ f → f < fn σ m c → FNDS σ m k c f → post (some (.int (iI 1))) (sS 84 f (sS 83 c σ))) : ∀ (n : Nat) (w : Int) (c : Int) , (9 * m - 1 ≤ c ∧ c < 9 * m + σ.2.1 73 m ∧ -2147483648 ≤ w ∧ w ≤ 2147483647) → (w = k - AB σ m c ∧ (k < 0 ∨ 0 ≤ w)) → (c + 1 - 9 * m).toNat = n → Tm (d + 1) m_X12_isFrame 17 b σ [(4, .int (iI c)), (3, .int (iI w)), (0, .ref b), (1, .int (iI m)), (2, .int (iI k))] [] post := by
  intro n
  induction n using Nat.strongRecOn with
  | _ n ih =>
    intro w c h0 hw9 hm
    refine tm_iload dX12_isFrame_17 0 rfl ?_
    refine tm_bipush dX12_isFrame_19 (by decide) ?_
    refine tm_iload_n dX12_isFrame_21 rfl 3 rfl ?_
    refine tm_imul dX12_isFrame_22 ?_
    refine tm_icmp_lt (tgt := 104) dX12_isFrame_23 (by decide) ⟨by omega, by omega⟩ ⟨by omega, by omega⟩ (fun h1 => ?_) (fun h1 => ?_)
    · exact tm_sub [0, 1, 2, 3, 4] rfl (hx_104 (w) (c) (fnd_no hw9 (by omega) (by omega)))
    · refine tm_iload_n dX12_isFrame_26 rfl 1 rfl ?_
      refine tm_if_lt (tgt := 104) dX12_isFrame_27 (by decide) ⟨by omega, by omega⟩ (fun h2 => ?_) (fun h2 => ?_)
      · exact tm_sub [0, 1, 2, 3, 4] rfl (hx_104 (w) (c) (fnd_no hw9 (by omega) (by omega)))
      · have hd := hde c (by omega) (by omega)
        have hd2 := hd.2.1
        refine tm_aload_n dX12_isFrame_30 rfl 2 rfl ?_
        refine tm_get (k := 80) (v := .ref (b + 1 + 51)) lay_12 dX12_isFrame_31 (by decide) fl12_173 rfl ?_
        refine tm_iload dX12_isFrame_34 0 rfl ?_
        refine tm_iald (z := c) (v := σ.2.1 80 c) dX12_isFrame_36 (show mT[51]? = some (80, 0, 27) from rfl) (by omega) (by omega) (by decide) (rfl) ?_
        have g3 := RG.a hR 80 (c)
        refine tm_istore (L' := [(5, .int (iI (σ.2.1 80 c))), (4, .int (iI c)), (3, .int (iI w)), (0, .ref b), (1, .int (iI m)), (2, .int (iI k))]) dX12_isFrame_37 (by decide) rfl ?_
        refine tm_sub [0, 1, 2, 3, 4, 5] rfl (f_isFr2 (d) (σ := σ) (m := m) (k := k) (c := c) hR hm2 hmc hde ⟨by omega, by omega⟩ (fun w10 f11 f8 f9 => ?_) hr1 _ (w) (σ.2.1 80 c) (by omega) (FNI.z hw9.1 rfl) rfl)
        show Tm _ _ 98 b σ [(5, .int (iI f11)), (4, .int (iI c)), (3, .int (iI w10)), (0, .ref b), (1, .int (iI m)), (2, .int (iI k))] [] _
        refine tm_iinc (q0 := 1) (L' := [(4, .int (iI (c + (-1)))), (5, .int (iI f11)), (3, .int (iI w10)), (0, .ref b), (1, .int (iI m)), (2, .int (iI k))]) dX12_isFrame_98 rfl (by decide) rfl ?_
        refine tm_goto (tgt := 17) dX12_isFrame_101 (by decide) ?_
        exact tm_sub [0, 2, 3, 4, 5] rfl (ih _ (by omega) (w10) (c + (-1)) (by omega) ⟨ABW f9 (by omega), Or.inr (by omega)⟩ rfl)
set_option maxHeartbeats 4000000 in
set_option maxRecDepth 20000 in
theorem f_X12_isFrame (d : Nat) {b : Nat} {σ : MS} {m : Int} {k : Int} (hR : RG σ) (hm2 : 0 ≤ m ∧ m ≤ 2) (hmc : 0 ≤ σ.2.1 73 m ∧ σ.2.1 73 m ≤ 9) (hde : ∀ c, 9 * m ≤ c → c < 9 * m + σ.2.1 73 m → DEC σ m c (fn σ m c)) (h_k : -2147483648 ≤ k ∧ k ≤ 2147483647) : Tm (d + 1) m_X12_isFrame 0 b σ [(0, .ref b), (1, .int (iI m)), (2, .int (iI k))] [] (fun ro σ2 => ∃ v : Int, ro = some (.int (iI v)) ∧ ((v = 0 ∨ v = 1)) ∧ (Fr [83, 84] [] [] σ σ2) ∧ (RG σ2) ∧ (v = 1 → 9 * m ≤ σ2.1 83 ∧ σ2.1 83 < 9 * m + σ.2.1 73 m ∧ 0 ≤ σ2.1 84 ∧ σ2.1 84 < fn σ m (σ2.1 83)) ∧ (IFR σ m k v (σ2.1 83) (σ2.1 84))) := by
  refine tm_iload_n dX12_isFrame_0 rfl 2 rfl ?_
  refine tm_istore_n (L' := [(3, .int (iI k)), (0, .ref b), (1, .int (iI m)), (2, .int (iI k))]) dX12_isFrame_1 rfl (by decide) rfl ?_
  refine tm_bipush dX12_isFrame_2 (by decide) ?_
  refine tm_iload_n dX12_isFrame_4 rfl 2 rfl ?_
  refine tm_imul dX12_isFrame_5 ?_
  refine tm_aload_n dX12_isFrame_6 rfl 1 rfl ?_
  refine tm_get (k := 73) (v := .ref (b + 1 + 44)) lay_12 dX12_isFrame_7 (by decide) fl12_152 rfl ?_
  refine tm_iload_n dX12_isFrame_10 rfl 2 rfl ?_
  refine tm_iald (z := m) (v := σ.2.1 73 m) dX12_isFrame_11 (show mT[44]? = some (73, 0, 3) from rfl) (by omega) (by omega) (by decide) (rfl) ?_
  have g1 := RG.a hR 73 (m)
  refine tm_iadd dX12_isFrame_12 ?_
  refine tm_iconst dX12_isFrame_13 ?_
  refine tm_isub dX12_isFrame_14 ?_
  refine tm_istore (L' := [(4, .int (iI (((9 * m) + (σ.2.1 73 m)) - 1))), (3, .int (iI k)), (0, .ref b), (1, .int (iI m)), (2, .int (iI k))]) dX12_isFrame_15 (by decide) rfl ?_
  refine tm_sub [0, 1, 2, 3, 4] rfl (f_isFr1 (d) (σ := σ) (m := m) (k := k) hR hm2 hmc hde (fun w7 c8 f6 => ?_) (fun c f a e g i z9 => ⟨_, rfl, by omega, (Fr.rfl.S (by decide)).S (by decide), (hR.S (by omega)).S (by have := (hde c a e).2.1; omega), fun _ => ⟨a, e, g, i⟩, Or.inl ⟨rfl, z9⟩⟩) _ (k) (((9 * m) + (σ.2.1 73 m)) - 1) (by omega) ⟨by rw [AB.top (by omega) (by omega)]; omega, by omega⟩ rfl)
  show Tm _ _ 104 b σ [(4, .int (iI c8)), (3, .int (iI w7)), (0, .ref b), (1, .int (iI m)), (2, .int (iI k))] [] _
  refine tm_iconst dX12_isFrame_104 ?_
  exact tm_zret (v := 0) rfl (by decide) dX12_isFrame_105 (⟨_, rfl, by omega, Fr.rfl, hR, fun q => absurd q (by decide), Or.inr ⟨rfl, f6⟩⟩)
set_option maxHeartbeats 4000000 in
set_option maxRecDepth 20000 in
theorem f_X12_isStack (d : Nat) {b : Nat} {σ : MS} {k : Int} (hR : RG σ) (hru : σ.1 67 ≠ 0 → σ.1 68 = 0 → RUD σ 0) (h_k : -2147483648 ≤ k ∧ k ≤ 2147483647) : Tm (d + 2) m_X12_isStack 0 b σ [(0, .ref b), (1, .int (iI k))] [] (fun ro σ2 => ∃ v : Int, ro = some (.int (iI v)) ∧ ((v = 0 ∨ v = 1)) ∧ (Fr [83, 84] [] [] σ σ2) ∧ (RG σ2) ∧ (v = 1 → σ.1 67 ≠ 0 ∧ σ.1 68 = 0 ∧ 9 * 0 ≤ σ2.1 83 ∧ σ2.1 83 < 9 * 0 + σ.2.1 73 0 ∧ 0 ≤ σ2.1 84 ∧ σ2.1 84 < fn σ 0 (σ2.1 83)) ∧ (ISK σ k v (σ2.1 83) (σ2.1 84))) := by
  refine tm_aload_n dX12_isStack_0 rfl 0 rfl ?_
  refine tm_getS (k := 67) (t := σ.1 67) dX12_isStack_1 (by decide) fl12_397 rfl (rfl) ?_
  have g1 := RG.s hR 67
  refine tm_if_eq (tgt := 31) dX12_isStack_4 (by decide) ⟨by omega, by omega⟩ (fun h2 => ?_) (fun h2 => ?_)
  · refine tm_iconst dX12_isStack_31 ?_
    exact tm_zret (v := 0) rfl (by decide) dX12_isStack_32 (⟨_, rfl, by omega, Fr.rfl, hR, fun q => absurd q (by decide), Or.inr ⟨rfl, by omega⟩⟩)
  · refine tm_aload_n dX12_isStack_7 rfl 0 rfl ?_
    refine tm_getS (k := 68) (t := σ.1 68) dX12_isStack_8 (by decide) fl12_560 rfl (rfl) ?_
    have g3 := RG.s hR 68
    refine tm_if_ne (tgt := 31) dX12_isStack_11 (by decide) ⟨by omega, by omega⟩ (fun h4 => ?_) (fun h4 => ?_)
    · refine tm_iconst dX12_isStack_31 ?_
      exact tm_zret (v := 0) rfl (by decide) dX12_isStack_32 (⟨_, rfl, by omega, Fr.rfl, hR, fun q => absurd q (by decide), Or.inr ⟨rfl, by omega⟩⟩)
    · refine tm_iload_n dX12_isStack_14 rfl 1 rfl ?_
      refine tm_if_lt (tgt := 31) dX12_isStack_15 (by decide) ⟨by omega, by omega⟩ (fun h5 => ?_) (fun h5 => ?_)
      · refine tm_iconst dX12_isStack_31 ?_
        exact tm_zret (v := 0) rfl (by decide) dX12_isStack_32 (⟨_, rfl, by omega, Fr.rfl, hR, fun q => absurd q (by decide), Or.inr ⟨rfl, by omega⟩⟩)
      · have hr0 := hru (by omega) (by omega)
        refine tm_aload_n dX12_isStack_18 rfl 0 rfl ?_
        refine tm_iconst dX12_isStack_19 ?_
        refine tm_iload_n dX12_isStack_20 rfl 1 rfl ?_
        refine tm_callV (M := m_X12_isStack) (pc := 21) (ix := 578) (M' := m_X12_isFrame) (As := [.int (iI 0), .int (iI k)]) (rest := []) dX12_isStack_21 ok_X12_isFrame im_X12_isFrame se_X12_isFrame ml12_578 np_X12_isFrame rfl rfl (Nat.le_of_ble_eq_true rfl) (Nat.le_of_ble_eq_true rfl) rfl (f_X12_isFrame (d) (σ := σ) (m := 0) (k := k) hR (by decide) hr0.1 hr0.2 (by omega)) (fun r6 σ7 hp => ?_)
        obtain ⟨v8, rfl, f9, f10, f11, f12, f13⟩ := hp
        show Tm _ _ 24 b σ7 [(0, .ref b), (1, .int (iI k))] [.int (iI v8)] _
        refine tm_if_eq (tgt := 31) dX12_isStack_24 (by decide) ⟨by omega, by omega⟩ (fun h14 => ?_) (fun h14 => ?_)
        · refine tm_iconst dX12_isStack_31 ?_
          exact tm_zret (v := 0) rfl (by decide) dX12_isStack_32 (⟨_, rfl, by omega, (Fr.rfl.trans (Fr.sub f10 (by decide) (by decide) (by decide))), f11, fun q => absurd q (by decide), Or.inr ⟨rfl, Or.inr (Or.inr (f13.no (by omega)))⟩⟩)
        · refine tm_iconst dX12_isStack_27 ?_
          refine tm_goto (tgt := 32) dX12_isStack_28 (by decide) ?_
          exact tm_zret (v := 1) rfl (by decide) dX12_isStack_32 (⟨_, rfl, by omega, (Fr.rfl.trans (Fr.sub f10 (by decide) (by decide) (by decide))), f11, fun _ => ⟨by omega, by omega, f12 (by omega)⟩, Or.inl ⟨rfl, ⟨by omega, by omega, by omega⟩, f13.one (by omega)⟩⟩)
set_option maxHeartbeats 4000000 in
set_option maxRecDepth 20000 in
theorem f_X12_stack (d : Nat) {b : Nat} {σ : MS} {k : Int} {w : Int} (hR : RG σ) (hit : ITM σ) (hpar : PAR σ) (hnam : NAM σ) (hrt : RTN σ) (hrn : σ.1 67 ≠ 0 → σ.1 68 = 0 → RUD σ 0 ∧ ∀ c, 0 ≤ c → c < σ.2.1 73 0 → (0 ≤ σ.2.1 78 c ∧ σ.2.1 78 c < σ.1 10) ∧ (0 ≤ σ.2.1 79 c ∧ σ.2.1 79 c ≤ 219)) (h_k : -2147483648 ≤ k ∧ k ≤ 2147483647) (h_w : -2147483648 ≤ w ∧ w ≤ 2147483647) : Tm (d + 3) m_X12_stack 0 b σ [(0, .ref b), (1, .int (iI k)), (2, .int (iI w))] [] (fun ro σ2 => ∃ v : Int, ro = some (.int (iI v)) ∧ (Fr [0, 83, 84] [] [] σ σ2) ∧ (RG σ2) ∧ (SKA σ k w v)) := by
  refine tm_aload_n dX12_stack_0 rfl 0 rfl ?_
  refine tm_iconst dX12_stack_1 ?_
  refine tm_putS (k := 0) (v := 0) lay_12 dX12_stack_2 (by decide) fl12_185 rfl (tyX12_ok 0 (by decide)) rfl rfl rfl ?_
  refine tm_aload_n dX12_stack_5 rfl 0 rfl ?_
  refine tm_iload_n dX12_stack_6 rfl 1 rfl ?_
  refine tm_callV (M := m_X12_stack) (pc := 7) (ix := 581) (M' := m_X12_isStack) (As := [.int (iI k)]) (rest := []) dX12_stack_7 ok_X12_isStack im_X12_isStack se_X12_isStack ml12_581 np_X12_isStack rfl rfl (Nat.le_of_ble_eq_true rfl) (Nat.le_of_ble_eq_true rfl) rfl (f_X12_isStack (d) (σ := (sS 0 0 σ)) (k := k) (hR.S (by omega)) (fun a c => (hrn a c).1) (by omega)) (fun r1 σ2 hp => ?_)
  obtain ⟨v3, rfl, f4, f5, f6, f7, f8⟩ := hp
  show Tm _ _ 10 b σ2 [(0, .ref b), (1, .int (iI k)), (2, .int (iI w))] [.int (iI v3)] _
  refine tm_if_ne (tgt := 15) dX12_stack_10 (by decide) ⟨by omega, by omega⟩ (fun h10 => ?_) (fun h10 => ?_)
  · have hq := f7 (by omega)
    have hrr := hrn hq.1 hq.2.1
    have e73 : (sS 0 0 σ).2.1 73 0 = σ.2.1 73 0 := rfl
    have hmc := hrr.1.1
    have hfn : fn (sS 0 0 σ) 0 (σ2.1 83) = σ.2.1 14 (σ.2.1 78 (σ2.1 83)) := if_neg (by decide)
    have hc := hrr.2 (σ2.1 83) (by omega) (by omega)
    have hrt1 := hrt.1
    have hri := hrt.2 (σ.2.1 78 (σ2.1 83)) (by omega) (by omega)
    have hof := hri.2.1
    have q1 := hof.1
    have q2 := (hof.2 (σ2.1 84) (by omega) (by omega)).1
    have q3 := hnam _ q2.1 q2.2
    have j78 : σ2.2.1 78 = σ.2.1 78 := f5.2.1 78 (by decide)
    have j15 : σ2.2.1 15 = σ.2.1 15 := f5.2.1 15 (by decide)
    have j79 : σ2.2.1 79 = σ.2.1 79 := f5.2.1 79 (by decide)
    have j10 : σ2.1 10 = σ.1 10 := f5.1 10 (by decide)
    have hsk : _ ∧ FNDS σ 0 k (σ2.1 83) (σ2.1 84) := ISK.one f8.s0 (by omega)
    have j81 : σ2.2.1 81 = σ.2.1 81 := f5.2.1 81 (by decide)
    have j12 : σ2.2.1 12 = σ.2.1 12 := f5.2.1 12 (by decide)
    refine tm_aload_n dX12_stack_15 rfl 0 rfl ?_
    refine tm_iconst dX12_stack_16 ?_
    refine tm_callV (M := m_X12_stack) (pc := 17) (ix := 584) (M' := m_X12_routineIn) (As := [.int (iI 0)]) (rest := []) dX12_stack_17 ok_X12_routineIn im_X12_routineIn se_X12_routineIn ml12_584 np_X12_routineIn rfl rfl (Nat.le_of_ble_eq_true rfl) (Nat.le_of_ble_eq_true rfl) rfl (c_X12_routineIn (d + 1) (σ := σ2) (m := 0) f6 (by omega) (fun _ => by rw [j78]; omega) (by omega)) (fun r11 σ12 hp => ?_)
    obtain ⟨v13, rfl, rfl, f14, f15⟩ := hp
    show Tm _ _ 20 b σ2 [(0, .ref b), (1, .int (iI k)), (2, .int (iI w))] [.int (iI v13)] _
    have hv := f15 (by decide)
    rw [j78, j15] at hv
    refine tm_istore_n (L' := [(3, .int (iI v13)), (0, .ref b), (1, .int (iI k)), (2, .int (iI w))]) dX12_stack_20 rfl (by decide) rfl ?_
    refine tm_iload_n dX12_stack_21 rfl 3 rfl ?_
    refine tm_if_ne (tgt := 29) dX12_stack_22 (by decide) ⟨by omega, by omega⟩ (fun h16 => ?_) (fun h16 => ?_)
    · refine tm_iload_n dX12_stack_29 rfl 3 rfl ?_
      refine tm_iconst dX12_stack_30 ?_
      refine tm_icmp_ne (tgt := 54) dX12_stack_31 (by decide) ⟨by omega, by omega⟩ ⟨by decide, by decide⟩ (fun h17 => ?_) (fun h17 => ?_)
      · refine tm_iload_n dX12_stack_54 rfl 3 rfl ?_
        refine tm_iconst dX12_stack_55 ?_
        refine tm_icmp_ne (tgt := 68) dX12_stack_56 (by decide) ⟨by omega, by omega⟩ ⟨by decide, by decide⟩ (fun h18 => ?_) (fun h18 => ?_)
        · refine tm_iconst dX12_stack_68 ?_
          exact tm_iret rfl dX12_stack_69 (⟨_, rfl, ((Fr.rfl.S (by decide)).trans (Fr.sub f5 (by decide) (by decide) (by decide))), f6, Or.inr ⟨hsk.1, _, _, hsk.2, by first | exact Or.inl ⟨by omega, hv⟩ | exact Or.inr (Or.inl ⟨by omega, rfl⟩) | exact Or.inr (Or.inr (Or.inl ⟨by omega, by rw [← hv]⟩)) | exact Or.inr (Or.inr (Or.inr ⟨by omega, rfl⟩))⟩⟩)
        · refine tm_aload_n dX12_stack_59 rfl 1 rfl ?_
          refine tm_get (k := 12) (v := .ref (b + 1 + 9)) lay_12 dX12_stack_60 (by decide) fl12_38 rfl ?_
          refine tm_iload_n dX12_stack_63 rfl 0 rfl ?_
          refine tm_iald (z := v13) (v := σ.2.1 12 v13) dX12_stack_64 (show mT[9]? = some (12, 0, 6) from rfl) (by omega) (by omega) (by decide) (ra_F f5 (by decide) (ra_S (rfl))) ?_
          have g19 := RG.a hR 12 (v13)
          refine tm_goto (tgt := 69) dX12_stack_65 (by decide) ?_
          exact tm_iret rfl dX12_stack_69 (⟨_, rfl, ((Fr.rfl.S (by decide)).trans (Fr.sub f5 (by decide) (by decide) (by decide))), f6, Or.inr ⟨hsk.1, _, _, hsk.2, by first | exact Or.inl ⟨by omega, hv⟩ | exact Or.inr (Or.inl ⟨by omega, rfl⟩) | exact Or.inr (Or.inr (Or.inl ⟨by omega, by rw [← hv]⟩)) | exact Or.inr (Or.inr (Or.inr ⟨by omega, rfl⟩))⟩⟩)
      · refine tm_aload_n dX12_stack_34 rfl 1 rfl ?_
        refine tm_get (k := 81) (v := .ref (b + 1 + 52)) lay_12 dX12_stack_35 (by decide) fl12_176 rfl ?_
        refine tm_bipush dX12_stack_38 (by decide) ?_
        refine tm_aload_n dX12_stack_40 rfl 1 rfl ?_
        refine tm_getS (k := 83) (t := σ2.1 83) dX12_stack_41 (by decide) fl12_572 rfl (rfl) ?_
        have g20 := RG.s f6 83
        refine tm_imul dX12_stack_44 ?_
        refine tm_aload_n dX12_stack_45 rfl 1 rfl ?_
        refine tm_getS (k := 84) (t := σ2.1 84) dX12_stack_46 (by decide) fl12_575 rfl (rfl) ?_
        have g21 := RG.s f6 84
        refine tm_iadd dX12_stack_49 ?_
        refine tm_iald (z := (12 * (σ2.1 83)) + (σ2.1 84)) (v := σ.2.1 81 ((12 * (σ2.1 83)) + (σ2.1 84))) dX12_stack_50 (show mT[52]? = some (81, 0, 324) from rfl) (by omega) (by omega) (by decide) (ra_F f5 (by decide) (ra_S (rfl))) ?_
        have g22 := RG.a hR 81 ((12 * (σ2.1 83)) + (σ2.1 84))
        refine tm_goto (tgt := 69) dX12_stack_51 (by decide) ?_
        exact tm_iret rfl dX12_stack_69 (⟨_, rfl, ((Fr.rfl.S (by decide)).trans (Fr.sub f5 (by decide) (by decide) (by decide))), f6, Or.inr ⟨hsk.1, _, _, hsk.2, by first | exact Or.inl ⟨by omega, hv⟩ | exact Or.inr (Or.inl ⟨by omega, rfl⟩) | exact Or.inr (Or.inr (Or.inl ⟨by omega, by rw [← hv]⟩)) | exact Or.inr (Or.inr (Or.inr ⟨by omega, rfl⟩))⟩⟩)
    · refine tm_iload_n dX12_stack_25 rfl 0 rfl ?_
      refine tm_goto (tgt := 69) dX12_stack_26 (by decide) ?_
      exact tm_iret rfl dX12_stack_69 (⟨_, rfl, ((Fr.rfl.S (by decide)).trans (Fr.sub f5 (by decide) (by decide) (by decide))), f6, Or.inr ⟨hsk.1, _, _, hsk.2, by first | exact Or.inl ⟨by omega, hv⟩ | exact Or.inr (Or.inl ⟨by omega, rfl⟩) | exact Or.inr (Or.inr (Or.inl ⟨by omega, by rw [← hv]⟩)) | exact Or.inr (Or.inr (Or.inr ⟨by omega, rfl⟩))⟩⟩)
  · refine tm_iconst dX12_stack_13 ?_
    exact tm_iret rfl dX12_stack_14 (⟨_, rfl, ((Fr.rfl.S (by decide)).trans (Fr.sub f5 (by decide) (by decide) (by decide))), f6, Or.inl ⟨rfl, ISK.no f8.s0 (by omega)⟩⟩)
end
section
def RMC (σ τ : MS) : Prop := τ.2.1 75 0 = σ.2.1 75 0 ∧ (∀ i, 0 ≤ i → i < 200 → τ.2.1 77 i = σ.2.1 77 i) ∧ (∀ j, 0 ≤ j → j < 108 → τ.2.1 81 j = σ.2.1 81 j) ∧ ∀ j, 0 ≤ j → j < 1728 → τ.2.1 82 j = σ.2.1 82 j
def RQM (σ τ : MS) : Prop := ((τ.1 67 = σ.1 67 ∧ τ.1 68 = σ.1 68 ∧ τ.1 69 = σ.1 69 ∧ τ.1 70 = σ.1 70) ∧ τ.2.1 16 = σ.2.1 16) ∧ X0 0 σ τ ∧ RMC σ τ
theorem RMC.rfl {σ : MS} : RMC σ σ := ⟨_root_.rfl, fun _ _ _ => _root_.rfl, fun _ _ _ => _root_.rfl, fun _ _ _ => _root_.rfl⟩
theorem RMC.trans {σ τ υ : MS} (h : RMC σ τ) (g : RMC τ υ) : RMC σ υ := ⟨g.1.trans h.1, fun i a b => (g.2.1 i a b).trans (h.2.1 i a b), fun i a b => (g.2.2.1 i a b).trans (h.2.2.1 i a b), fun i a b => (g.2.2.2 i a b).trans (h.2.2.2 i a b)⟩
theorem RMC.pA {σ τ : MS} {k : Nat} {i v : Int} (h : RMC σ τ) (hk : (k = 75 → i ≠ 0) ∧ (k = 77 → 200 ≤ i) ∧ (k = 81 → 108 ≤ i) ∧ (k = 82 → 1728 ≤ i)) : RMC σ (sA k i v τ) := by
  have g : ∀ (q : Nat) (j : Int), (q = k → j ≠ i) → (sA k i v τ).2.1 q j = τ.2.1 q j := fun q j e => by
    by_cases z : q = k
    · subst z; exact ra_ne (e _root_.rfl) _root_.rfl
    · rw [sA_k z]
  refine ⟨(g 75 0 (fun e => ?_)).trans h.1, fun j a b => (g 77 j (fun e => ?_)).trans (h.2.1 j a b), fun j a b => (g 81 j (fun e => ?_)).trans (h.2.2.1 j a b), fun j a b => (g 82 j (fun e => ?_)).trans (h.2.2.2 j a b)⟩
  · have := hk.1 e.symm; omega
  · have := hk.2.1 e.symm; omega
  · have := hk.2.2.1 e.symm; omega
  · have := hk.2.2.2 e.symm; omega
theorem RMC.of {ss ks js : List Nat} {σ τ : MS} (f : Fr ss ks js σ τ) (hk : ∀ k ∈ [75, 77, 81, 82], k ∉ ks) : RMC σ τ := by
  refine ⟨?_, fun i _ _ => ?_, fun i _ _ => ?_, fun i _ _ => ?_⟩
  · rw [f.2.1 75 (hk 75 (by decide))]
  · rw [f.2.1 77 (hk 77 (by decide))]
  · rw [f.2.1 81 (hk 81 (by decide))]
  · rw [f.2.1 82 (hk 82 (by decide))]
theorem RQM.rfl {σ : MS} : RQM σ σ := ⟨⟨⟨_root_.rfl, _root_.rfl, _root_.rfl, _root_.rfl⟩, _root_.rfl⟩, X0.rfl, RMC.rfl⟩
theorem RQM.trans {σ τ υ : MS} (h : RQM σ τ) (g : RQM τ υ) : RQM σ υ := ⟨⟨⟨g.1.1.1.trans h.1.1.1, g.1.1.2.1.trans h.1.1.2.1, g.1.1.2.2.1.trans h.1.1.2.2.1, g.1.1.2.2.2.trans h.1.1.2.2.2⟩, g.1.2.trans h.1.2⟩, h.2.1.trans g.2.1, h.2.2.trans g.2.2⟩
theorem RQM.of {ss ks js : List Nat} {σ τ : MS} (f : Fr ss ks js σ τ) (hs : ∀ k ∈ [67, 68, 69, 70], k ∉ ss) (hk : ∀ k ∈ [16, 73, 75, 76, 77, 78, 79, 80, 81, 82], k ∉ ks) : RQM σ τ := ⟨⟨⟨f.1 67 (hs 67 (by decide)), f.1 68 (hs 68 (by decide)), f.1 69 (hs 69 (by decide)), f.1 70 (hs 70 (by decide))⟩, f.2.1 16 (hk 16 (by decide))⟩, X0.of f (fun k h => hk k ((by decide : ∀ k ∈ [73, 76, 78, 79, 80], k ∈ [16, 73, 75, 76, 77, 78, 79, 80, 81, 82]) k h)), RMC.of f (fun k h => hk k ((by decide : ∀ k ∈ [75, 77, 81, 82], k ∈ [16, 73, 75, 76, 77, 78, 79, 80, 81, 82]) k h))⟩
theorem RMC.stq {τ τ2 : MS} {m u : Int} (hs : STQ τ m u τ2) (hm : 1 ≤ m ∧ m ≤ 2) (hr : RUN τ m) (b : BKA τ m) (p0 : 0 ≤ τ.2.1 76 m) : RMC τ τ2 := by
  have h73 := hr.1
  obtain ⟨t, et⟩ : ∃ t, t = 9 * m + τ.2.1 73 m - 1 := ⟨_, _root_.rfl⟩
  unfold STQ at hs
  rw [← et] at hs
  have pl := hr.2.1 t (by omega) (by omega)
  have ok := (b.2 _ pl.1.1 pl.1.2).2.1 _ pl.2.1.1 pl.2.1.2
  obtain ⟨x, ex⟩ : ∃ x, x = 220 * (bkm m + τ.2.1 78 t) + τ.2.1 79 t := ⟨_, _root_.rfl⟩
  rw [← ex] at hs ok
  have n4 : ∀ (k : Nat), k ∉ [75, 77, 81, 82] → ∀ i : Int, (k = 75 → i ≠ 0) ∧ (k = 77 → 200 ≤ i) ∧ (k = 81 → 108 ≤ i) ∧ (k = 82 → 1728 ≤ i) := fun k hk i => by
    simp only [List.mem_cons, List.not_mem_nil, or_false] at hk
    omega
  rcases hs with hs | hs | hs | hs | hs | hs | hs | hs | hs | hs | hs
  · rw [hs.2.2.2]; exact RMC.rfl
  · rcases hs.2 with ⟨-, -, e⟩ | ⟨-, h2, e⟩
    · rw [e]; exact (RMC.rfl.pA (n4 73 (by decide) _)).pA ⟨fun _ => by omega, fun e => absurd e (by decide), fun e => absurd e (by decide), fun e => absurd e (by decide)⟩
    · have pl2 := hr.2.1 (t - 1) (by omega) (by omega)
      have ok2 := (b.2 _ pl2.1.1 pl2.1.2).2.1 _ pl2.2.1.1 pl2.2.1.2
      have kk := hr.2.2.1 (t - 1) (by omega) (by omega)
      unfold kdm at kk
      have d0 := (ok2.2.1 (Or.inr kk)).1
      rw [e]
      exact ((RMC.rfl.pA (n4 73 (by decide) _)).pA ⟨fun e => absurd e (by decide), fun e => absurd e (by decide), fun e => absurd e (by decide), fun _ => by omega⟩).pA (n4 79 (by decide) _)
  · have d0 := (ok.2.1 (Or.inl (by omega))).1
    rw [hs.2.2]
    exact (RMC.rfl.pA ⟨fun e => absurd e (by decide), fun e => absurd e (by decide), fun e => absurd e (by decide), fun _ => by omega⟩).pA (n4 79 (by decide) _)
  · have d0 := (ok.2.1 (Or.inl (by omega))).1
    rw [hs.2.2]
    exact (RMC.rfl.pA ⟨fun e => absurd e (by decide), fun e => absurd e (by decide), fun e => absurd e (by decide), fun _ => by omega⟩).pA (n4 79 (by decide) _)
  · rw [hs.2.2]
    split
    · exact ((RMC.rfl.pA ⟨fun e => absurd e (by decide), fun _ => by omega, fun e => absurd e (by decide), fun e => absurd e (by decide)⟩).pA (n4 76 (by decide) _)).pA (n4 79 (by decide) _)
    · exact (RMC.rfl.pA (n4 76 (by decide) _)).pA (n4 79 (by decide) _)
  · obtain ⟨-, -, j, -, e⟩ := hs
    rw [e]; exact RMC.rfl.pA (n4 79 (by decide) _)
  · rw [hs.2.2]; exact RMC.rfl.pA (n4 79 (by decide) _)
  · have d0 := (ok.2.2.2.2.2.1 (Or.inl hs.1)).1
    rw [hs.2.2]
    exact (RMC.rfl.pA ⟨fun e => absurd e (by decide), fun e => absurd e (by decide), fun _ => by omega, fun e => absurd e (by decide)⟩).pA (n4 79 (by decide) _)
  · have d0 := (ok.2.2.2.1 (Or.inl hs.1)).1
    rw [hs.2.2.2]
    exact ((RMC.rfl.pA (n4 80 (by decide) _)).pA ⟨fun e => absurd e (by decide), fun e => absurd e (by decide), fun _ => by omega, fun e => absurd e (by decide)⟩).pA (n4 79 (by decide) _)
  · rw [hs.2.2]; exact (RMC.rfl.pA (n4 80 (by decide) _)).pA (n4 79 (by decide) _)
  · obtain ⟨-, -, -, τ1, ec, f2, pw⟩ := hs
    obtain ⟨f1, -, -, -, -, z1, z2⟩ := ec
    have a : RMC τ τ1 := by
      refine ⟨by rw [f1.2.1 75 (by decide)], fun i _ _ => by rw [f1.2.1 77 (by decide)], fun j j0 j1 => ?_, fun j j0 j1 => ?_⟩
      · rw [z1 j, if_neg (by omega)]
      · rw [z2 j, if_neg (by omega)]
    refine a.trans ⟨by rw [f2.2.1 75 (by decide)], fun i _ _ => by rw [f2.2.1 77 (by decide)], fun j _ _ => by rw [f2.2.1 81 (by decide)], fun j j0 j1 => ?_⟩
    rw [pw j, if_neg (by omega)]
theorem RQM.stq {τ τ2 : MS} {m u : Int} (hs : STQ τ m u τ2) (f : Fr [] [73, 75, 76, 77, 78, 79, 80, 81, 82] [] τ τ2) (x : XM m τ τ2) (hm : 1 ≤ m ∧ m ≤ 2) (hr : RUN τ m) (b : BKA τ m) (p0 : 0 ≤ τ.2.1 76 m) : RQM τ τ2 := ⟨⟨⟨f.1 67 (by decide), f.1 68 (by decide), f.1 69 (by decide), f.1 70 (by decide)⟩, f.2.1 16 (by decide)⟩, x.x0 (by omega), RMC.stq hs hm hr b p0⟩
theorem RQM.sm {σ τ : MS} {m x a b c d : Int} (f : Fr [] [73, 74, 75, 76, 78, 79, 80, 81, 82] [] σ τ) (x0 : X0 0 σ τ) (h : SMQ7 σ m x a b c d τ) (hm : 1 ≤ m) : RQM σ τ := by
  obtain ⟨-, -, -, h82, h81, h75⟩ := h
  exact ⟨⟨⟨f.1 67 (by decide), f.1 68 (by decide), f.1 69 (by decide), f.1 70 (by decide)⟩, f.2.1 16 (by decide)⟩, x0, h75 0 (by omega), fun i _ _ => by rw [f.2.1 77 (by decide)], fun j j0 j1 => h81 j (by omega), fun j j0 j1 => h82 j (by omega)⟩
end
section
def jA (T : CT) (x : Nat) (i : Int) (σ : MS) : Int := if 0 ≤ i ∧ i < ((T x).2 : Int) then σ.2.1 (1000 + x) i else 0
def jP (T : CT) (x : Nat) (i y : Int) (σ : MS) : MS := if 0 ≤ i ∧ i < ((T x).2 : Int) then sA (1000 + x) i y σ else σ
def jC (σ : MS) (y : Nat) (r : Int) : Int := if 0 ≤ r ∧ r < 6 then σ.2.1 (1000 + y) r else -1
def jG (T : CT) (σ : MS) (c x : Nat) (k e : Int) : Int := if (0 ≤ k ∧ k < σ.2.1 6 c) ∧ k * 13 + e < ((T x).2 : Int) then σ.2.1 (1000 + x) (k * 13 + e) else 0
def jK (T : CT) (σ : MS) (c x : Nat) (k : Int) : Int := if (0 ≤ k ∧ k < σ.2.1 6 c) ∧ k * 13 < ((T x).2 : Int) then σ.2.1 (1000 + x) (k * 13) else -1
def rkn (e p b : Int) : Int := if 1 ≤ e ∧ e ≤ 5 then wkd e p b else p
def JHP (T : CT) (σ : MS) (a : Nat) (i v : Int) : Prop := (v = -1 ∧ (σ.2.1 69 a < 0 ∨ ∃ c : Nat, σ.2.1 69 a = (c : Int) ∧ σ.2.1 8 c ≤ i)) ∨ ∃ c xh : Nat, σ.2.1 69 a = (c : Int) ∧ i < σ.2.1 8 c ∧ σ.2.1 15 c = (xh : Int) ∧ v = w32 (σ.2.1 57 a * 192 + jA T xh (0 * 12 + i) σ)
def JOP (T : CT) (σ : MS) (a xe : Nat) (k c v : Int) : Prop := ∃ cc x : Nat, σ.2.1 69 a = (cc : Int) ∧ σ.2.1 5 cc = (x : Int) ∧ ((jG T σ cc x k c ≠ 2 ∧ v = jG T σ cc x k (c + 1)) ∨ (jG T σ cc x k c = 2 ∧ v = jA T xe (w32 (σ.2.1 57 a * 192 + jG T σ cc x k (c + 1))) σ))
def JEM (T : CT) (σ : MS) (a xf : Nat) (p : Int) (σ2 : MS) : Prop := σ2 = sA 65 a (w32 (σ.2.1 65 a + 1)) (sA 66 a p (jP T xf (σ.2.1 65 a) p σ))
def JW (w z : Int) : Prop := w = z ∨ (z < 0 ∧ w = -1)
def JOC (T : CT) (σ : MS) (a xa xb xc xd xe y : Nat) (c r : Int) (σ2 : MS) : Prop := ∃ (w : Int) (s : MS), JW w (jC (sA 58 a (w32 (σ.2.1 58 a + 1)) (sA 57 a c σ)) y r) ∧ s = jP T xd (c * 12) 0 (jP T xc c 0 (jP T xb c 0 (jP T xa c r (sA 69 a w (sA 58 a (w32 (σ.2.1 58 a + 1)) (sA 57 a c σ)))))) ∧ ((1728 < c * 192 + 192 ∧ σ2 = s) ∨ (c * 192 + 192 ≤ 1728 ∧ FLR s σ2 xe (c * 192) (c * 192 + 192) 0 ∧ CHX [] [xe] [] s σ2))
def JPW (T : CT) (s0 : MS) (a xe : Nat) (p q r s : Int) (σ2 : MS) : Prop := ∃ h0 h1 h2 h3, JHP T s0 a 0 h0 ∧ JHP T (jP T xe h0 p s0) a 1 h1 ∧ JHP T (jP T xe h1 q (jP T xe h0 p s0)) a 2 h2 ∧ JHP T (jP T xe h2 r (jP T xe h1 q (jP T xe h0 p s0))) a 3 h3 ∧ σ2 = jP T xe h3 s (jP T xe h2 r (jP T xe h1 q (jP T xe h0 p s0)))
def JRK (T : CT) (σ : MS) (a xe : Nat) (k e : Int) (σ2 : MS) : Prop := (¬ (0 ≤ e ∧ e ≤ 5) ∧ σ2 = σ) ∨ ((0 ≤ e ∧ e ≤ 5) ∧ ∃ (cc x : Nat) (p b : Int), σ.2.1 69 a = (cc : Int) ∧ σ.2.1 5 cc = (x : Int) ∧ JOP T σ a xe k 3 p ∧ ((e = 0 ∧ b = 0) ∨ (e ≠ 0 ∧ JOP T σ a xe k 5 b)) ∧ σ2 = jP T xe (w32 (σ.2.1 57 a * 192 + jG T σ cc x k 1)) (rkn e p b) σ)
def JCF (T : CT) (σ : MS) (a xa xb xc xd xe y : Nat) (k : Int) (σ2 : MS) : Prop := ∃ (p q r s : Int) (cc x : Nat) (s0 : MS), JOP T σ a xe k 3 p ∧ JOP T σ a xe k 5 q ∧ JOP T σ a xe k 7 r ∧ JOP T σ a xe k 9 s ∧ σ.2.1 69 a = (cc : Int) ∧ σ.2.1 5 cc = (x : Int) ∧ JOC T σ a xa xb xc xd xe y (σ.2.1 57 a + 1) (jG T σ cc x k 2) s0 ∧ JPW T s0 a xe p q r s σ2
def jL (P : Int → Int) : Nat → Int → Int → Int
  | 0, _, n => n
  | t + 1, f, n => if 0 < f ∧ n ≤ 12 then jL P t (P f) (n + 1) else n
theorem jL_s {P : Int → Int} {f n V : Int} (h : jL P (13 - n).toNat f n = V) (hf : 0 < f) (hn : n ≤ 12) (h1 : 1 ≤ n) : jL P (13 - (n + 1)).toNat (P f) (n + 1) = V := by
  rw [show (13 - n).toNat = (13 - (n + 1)).toNat + 1 by omega] at h
  rw [← h]
  show _ = if 0 < f ∧ n ≤ 12 then _ else _
  rw [if_pos ⟨hf, hn⟩]
theorem jL_e {P : Int → Int} {f n V : Int} (h : jL P (13 - n).toNat f n = V) (hf : f ≤ 0 ∨ 12 < n) (h1 : 1 ≤ n) : n = V := by
  by_cases z : 12 < n
  · rw [show (13 - n).toNat = 0 by omega] at h
    exact h
  · rw [show (13 - n).toNat = (12 - n).toNat + 1 by omega] at h
    rw [← h]
    show _ = if 0 < f ∧ n ≤ 12 then _ else _
    rw [if_neg (by omega)]
def jCV (T : CT) (σ : MS) (xa xc y : Nat) (c : Int) : Int := if jC σ y (jA T xa c σ) < 0 then 1 else jL (fun f => jA T (adN σ 12 (jC σ y (jA T xa c σ)).toNat) f σ) 12 (jA T xc c σ) 1
def JGB (T : CT) (σ : MS) (a xa xb xc xe y : Nat) (n : Int) (σ2 : MS) : Prop :=
  (σ.2.1 57 a = 0 ∧ σ2 = sA 58 a 0 (sA 68 a n (sA 56 a 2 (sA 58 a (w32 (σ.2.1 58 a - jCV T σ xa xc y (σ.2.1 57 a))) σ)))) ∨
  (σ.2.1 57 a ≠ 0 ∧ ∃ (w : Int) (s s1 : MS), s = sA 69 a w (sA 57 a (σ.2.1 57 a - 1) (sA 58 a (w32 (σ.2.1 58 a - jCV T σ xa xc y (σ.2.1 57 a))) σ)) ∧
    JW w (jC (sA 57 a (σ.2.1 57 a - 1) (sA 58 a (w32 (σ.2.1 58 a - jCV T σ xa xc y (σ.2.1 57 a))) σ)) y (jA T xa (σ.2.1 57 a - 1) (sA 57 a (σ.2.1 57 a - 1) (sA 58 a (w32 (σ.2.1 58 a - jCV T σ xa xc y (σ.2.1 57 a))) σ)))) ∧
    ((w < 0 ∧ s1 = s) ∨ ∃ c x : Nat, w = (c : Int) ∧ σ.2.1 5 c = (x : Int) ∧ s1 = jP T xe (w32 ((σ.2.1 57 a - 1) * 192 + jG T s c x (jA T xb (s.2.1 57 a) s) 1)) n s) ∧
    σ2 = jP T xb (σ.2.1 57 a - 1) (w32 (jA T xb (s1.2.1 57 a) s1 + 1)) s1)
def JCD (σ : MS) (a cc x : Nat) : Prop := σ.2.1 69 a = (cc : Int) ∧ σ.2.1 5 cc = (x : Int)
def JSB (T : CT) (s : MS) (a xa xb xc xd xe xf y : Nat) (t k K v : Int) (σ2 : MS) : Prop :=
  (K = 6 ∧ v = 0 ∧ ∃ p s1, JOP T s a xe k 3 p ∧ JEM T s a xf p s1 ∧ σ2 = jP T xb t (w32 (k + 1)) s1) ∨
  (K = 8 ∧ v = 0 ∧ ∃ cc x : Nat, JCD s a cc x ∧ σ2 = jP T xb t (jG T s cc x k 12) s) ∨
  (K = 9 ∧ v = 0 ∧ ∃ p, JOP T s a xe k 3 p ∧ ((p = 0 ∧ ∃ cc x : Nat, JCD s a cc x ∧ σ2 = jP T xb t (jG T s cc x k 12) s) ∨ (p ≠ 0 ∧ σ2 = jP T xb t (w32 (k + 1)) s))) ∨
  (K = 10 ∧ v = 0 ∧ JCF T s a xa xb xc xd xe y k σ2) ∨
  (K = 7 ∧ v = 0 ∧ ∃ p, JOP T s a xe k 3 p ∧ JGB T s a xa xb xc xe y p σ2) ∨
  (K = 11 ∧ v = 1 ∧ ∃ (cc x : Nat) (s1 : MS), JCD s a cc x ∧ s1 = jP T xd (w32 (t * 12 + jG T s cc x k 2)) (jG T s cc x k 1) s ∧ σ2 = jP T xb t (w32 (k + 1)) s1) ∨
  (K = 14 ∧ v = 0 ∧ ∃ (cc x : Nat) (s0 s1 s2 : MS), JCD s a cc x ∧ s0 = sA 58 a (w32 (s.2.1 58 a + 1)) s ∧ s1 = jP T xc t (jG T s0 cc x k 1) s0 ∧ s2 = jP T xd (w32 (t * 12 + jG T s1 cc x k 1)) 0 s1 ∧ σ2 = jP T xb t (w32 (k + 1)) s2) ∨
  (K = 15 ∧ v = 0 ∧ ∃ (cc x xp : Nat) (s0 s1 : MS), JCD s a cc x ∧ s.2.1 12 cc = (xp : Int) ∧ s0 = sA 58 a (w32 (s.2.1 58 a - 1)) s ∧ s1 = jP T xc t (jA T xp (jG T s0 cc x k 1) s0) s0 ∧ σ2 = jP T xb t (w32 (k + 1)) s1) ∨
  (K = -1 ∧ v = 0 ∧ JGB T s a xa xb xc xe y 0 σ2) ∨
  ((K < -1 ∨ (0 ≤ K ∧ K ≤ 5) ∨ K = 12 ∨ K = 13 ∨ 15 < K) ∧ v = 0 ∧ ∃ s1, JRK T s a xe k K s1 ∧ σ2 = jP T xb t (w32 (k + 1)) s1)
def JST (T : CT) (σ : MS) (a xa xb xc xd xe xf y : Nat) (v : Int) (σ2 : MS) : Prop := ∃ k K : Int, k = jA T xb (σ.2.1 57 a) σ ∧ ((σ.2.1 69 a < 0 ∧ K = -1) ∨ ∃ cc x : Nat, JCD σ a cc x ∧ K = jK T σ cc x k) ∧ (((K = 10 ∨ K = 14) ∧ 8 < σ.2.1 58 a ∧ v = 0 ∧ σ2 = sA 56 a 3 σ) ∨ (¬ ((K = 10 ∨ K = 14) ∧ 8 < σ.2.1 58 a) ∧ JSB T (sA 67 a (w32 (σ.2.1 67 a + 1)) σ) a xa xb xc xd xe xf y (σ.2.1 57 a) k K v σ2))
theorem js58 {σ : MS} {a : Nat} {V e : Int} (h : -2147483648 ≤ σ.2.1 58 a + e ∧ σ.2.1 58 a + e ≤ 2147483647) : sA 58 a (σ.2.1 58 a + e) (sA 67 a V σ) = sA 58 a (w32 ((sA 67 a V σ).2.1 58 a + e)) (sA 67 a V σ) := by
  rw [show (sA 67 a V σ).2.1 58 a = σ.2.1 58 a from rfl, show w32 (σ.2.1 58 a + e) = σ.2.1 58 a + e from iI_toInt h]
abbrev RNL (a : Nat) : List (Nat × Nat) := [(56, a), (57, a), (58, a), (65, a), (66, a), (67, a), (68, a), (69, a), (70, a), (71, a)]
def cST (w q d : Int) : Prop := w = 0 ∨ (w = 1 ∧ d ≤ q) ∨ (w ≠ 0 ∧ w ≠ 1 ∧ d < q)
def JCN (T : CT) (a xa xb xc xd xe xf y : Nat) (w q : Int) : Nat → MS → MS → Prop
  | 0, σ, τ => τ = σ
  | t + 1, σ, τ => ∃ (τ1 : MS) (v : Int), JCN T a xa xb xc xd xe xf y w q t σ τ1 ∧ CHX (RNL a) [xa, xb, xc, xd, xe, xf] [] σ τ1 ∧ τ1.2.1 56 a = 1 ∧ JST T τ1 a xa xb xc xd xe xf y v τ ∧ ¬ (τ.2.1 56 a = 1 ∧ v = 1 ∧ cST w q (τ.2.1 58 a))
theorem JCN.s {T : CT} {a xa xb xc xd xe xf y : Nat} {w q i v : Int} {σ τ1 τ : MS} (h : JCN T a xa xb xc xd xe xf y w q i.toNat σ τ1) (i0 : 0 ≤ i) (hc : CHX (RNL a) [xa, xb, xc, xd, xe, xf] [] σ τ1) (h1 : τ1.2.1 56 a = 1) (s : JST T τ1 a xa xb xc xd xe xf y v τ) (hn : ¬ (τ.2.1 56 a = 1 ∧ v = 1 ∧ cST w q (τ.2.1 58 a))) : JCN T a xa xb xc xd xe xf y w q (i + 1).toNat σ τ := by
  rw [show (i + 1).toNat = i.toNat + 1 by omega]
  exact ⟨τ1, v, h, hc, h1, s, hn⟩
def JAD (T : CT) (σ : MS) (a xa xb xc xd xe xf y : Nat) (w n v : Int) (σ2 : MS) : Prop := ∃ (t : Nat) (τ : MS), JCN T a xa xb xc xd xe xf y w (σ.2.1 58 a) t σ τ ∧ CHX (RNL a) [xa, xb, xc, xd, xe, xf] [] σ τ ∧ (((t : Int) < n ∧ τ.2.1 56 a = 1 ∧ v = 1 ∧ ∃ u, JST T τ a xa xb xc xd xe xf y u σ2 ∧ σ2.2.1 56 a = 1 ∧ u = 1 ∧ cST w (σ.2.1 58 a) (σ2.2.1 58 a)) ∨ (¬ ((t : Int) < n ∧ τ.2.1 56 a = 1) ∧ (t = 0 ∨ (t : Int) ≤ n) ∧ σ2 = τ ∧ ((τ.2.1 56 a = 1 ∧ v = 2) ∨ (τ.2.1 56 a = 2 ∧ v = 0) ∨ (τ.2.1 56 a ≠ 1 ∧ τ.2.1 56 a ≠ 2 ∧ v = 3))))
def JBG (T : CT) (σ : MS) (a xa xb xc xd xe y : Nat) (r p q u w : Int) (σ2 : MS) : Prop := ∃ s0, JOC T (sA 68 a 0 (sA 67 a 0 (sA 66 a 0 (sA 65 a 0 (sA 58 a 0 (sA 56 a 1 σ)))))) a xa xb xc xd xe y 0 r s0 ∧ JPW T s0 a xe p q u w σ2

def RNB (T : CT) (σ : MS) (rn xb : Nat) (w v : Int) : Prop := (σ.2.1 56 rn = 0 ∧ v = -1) ∨ (σ.2.1 56 rn ≠ 0 ∧ ((w = 0 ∧ σ.2.1 56 rn = 2 ∧ v = -1) ∨ (w = 0 ∧ σ.2.1 56 rn ≠ 2 ∧ v = jA T xb (σ.2.1 57 rn) σ) ∨ (w = 1 ∧ v = σ.2.1 65 rn) ∨ (w = 2 ∧ v = σ.2.1 67 rn) ∨ (w = 3 ∧ v = σ.2.1 68 rn) ∨ (w = 4 ∧ v = σ.2.1 58 rn) ∨ (w = 5 ∧ σ.2.1 56 rn = 3 ∧ v = 1) ∨ (w = 5 ∧ σ.2.1 56 rn ≠ 3 ∧ v = 0) ∨ ((w < 0 ∨ 5 < w) ∧ v = -1)))
def PRB (T : CT) (σ : MS) (rn xf : Nat) (i v : Int) : Prop := ((σ.2.1 56 rn ≠ 0 ∧ 0 ≤ i ∧ i < σ.2.1 65 rn) ∧ v = jA T xf i σ) ∨ (¬ (σ.2.1 56 rn ≠ 0 ∧ 0 ≤ i ∧ i < σ.2.1 65 rn) ∧ v = 0)
end
section
set_option maxHeartbeats 1000000 in
set_option maxRecDepth 20000 in
theorem k_X11_at_j (d : Nat) {T : CT} {σ : MS} {x : Nat} {i : Int} (h_x : IA T x) (l_x : (T x).2 ≤ 1000000) (h_i : -2147483648 ≤ i ∧ i ≤ 2147483647) (hw : WT T σ) : Tn (d + 1) m_X11_at 0 T σ [(0, .ref x), (1, .int (iI i))] [] (fun ro T2 σ2 => ∃ v : Int, ro = some (.int (iI v)) ∧ T = T2 ∧ σ = σ2 ∧ (-2147483648 ≤ v ∧ v ≤ 2147483647) ∧ (VOK (T x).1 i v) ∧ (v = jA T x i σ)) := by
  refine tn_aload_n dX11_at_0 rfl 0 rfl ?_
  refine tn_ifnull dX11_at_1 ?_
  refine tn_iload_n dX11_at_4 rfl 1 rfl ?_
  refine tn_if_lt (tgt := 20) dX11_at_5 (by decide) ⟨by omega, by omega⟩ (fun h1 => ?_) (fun h1 => ?_)
  · refine tn_iconst dX11_at_20 ?_
    exact tn_iret rfl dX11_at_21 ⟨_, rfl, rfl, rfl, by omega, vok_0, by unfold jA; rw [if_neg (by omega)]⟩
  · refine tn_iload_n dX11_at_8 rfl 1 rfl ?_
    refine tn_aload_n dX11_at_9 rfl 0 rfl ?_
    refine tn_alenX dX11_at_10 (Or.inl h_x) ?_
    refine tn_icmp_ge (tgt := 20) dX11_at_11 (by decide) ⟨by omega, by omega⟩ ⟨by omega, by omega⟩ (fun h2 => ?_) (fun h2 => ?_)
    · refine tn_iconst dX11_at_20 ?_
      exact tn_iret rfl dX11_at_21 ⟨_, rfl, rfl, rfl, by omega, vok_0, by unfold jA; rw [if_neg (by omega)]⟩
    · refine tn_aload_n dX11_at_14 rfl 0 rfl ?_
      refine tn_iload_n dX11_at_15 rfl 1 rfl ?_
      refine tn_ialdX (z := i) hw dX11_at_16 h_x (by omega) (by omega) (by omega) (fun v3 g4q g4 g4k => ?_)
      have g4u := g4k
      have g4w := g4q
      clear g4k g4q
      refine tn_goto (tgt := 21) dX11_at_17 (by decide) ?_
      exact tn_iret rfl dX11_at_21 ⟨_, rfl, rfl, rfl, by omega, by assumption, by unfold jA; rw [if_pos ⟨by omega, by omega⟩]; assumption⟩
end
section
set_option maxHeartbeats 1000000 in
set_option maxRecDepth 20000 in
theorem k_X1_get_j (d : Nat) {T : CT} {σ : MS} {a : Nat} {k : Int} {c : Int} {x : Nat} (ha : OB T a 1) (h_k : -2147483648 ≤ k ∧ k ≤ 2147483647) (h_c : -2147483648 ≤ c ∧ c ≤ 2147483647) (hw : WT T σ) (hx : σ.2.1 5 a = (x : Int)) (hc : 0 ≤ c ∧ c ≤ 12) : Tn (d + 1) m_X1_get 0 T σ [(0, .ref a), (1, .int (iI k)), (2, .int (iI c))] [] (fun ro T2 σ2 => ∃ v : Int, ro = some (.int (iI v)) ∧ T = T2 ∧ σ = σ2 ∧ (-2147483648 ≤ v ∧ v ≤ 2147483647) ∧ (v = jG T σ a x k c)) := by
  refine tn_iload_n dX1_get_0 rfl 1 rfl ?_
  refine tn_bipush dX1_get_1 (by decide) ?_
  refine tn_imul dX1_get_3 ?_
  refine tn_iload_n dX1_get_4 rfl 2 rfl ?_
  refine tn_iadd dX1_get_5 ?_
  refine tn_istore_n (L' := [(3, .int (iI ((k * 13) + c))), (0, .ref a), (1, .int (iI k)), (2, .int (iI c))]) dX1_get_6 rfl (by decide) rfl ?_
  refine tn_iload_n dX1_get_7 rfl 2 rfl ?_
  refine tn_if_lt (tgt := 41) dX1_get_8 (by decide) ⟨by omega, by omega⟩ (fun h1 => ?_) (fun h1 => ?_)
  · refine tn_iconst dX1_get_41 ?_
    exact tn_iret rfl dX1_get_42 ⟨_, rfl, rfl, rfl, by omega, by unfold jG; rw [if_neg (by omega)]⟩
  · refine tn_iload_n dX1_get_11 rfl 2 rfl ?_
    refine tn_aload_n dX1_get_12 rfl 1 rfl ?_
    refine tn_getI (ci := 1) (i := 1) (n := 6) (t := σ.2.1 6 a) dX1_get_13 rfl lay_1 (by decide) fl1_33 ha rfl rfl (rfl) ?_
    have g2 : ((0 : Int) ≤ σ.2.1 6 a ∧ σ.2.1 6 a ≤ 5000) ∧ ((T a).1 = 50 → σ.2.1 6 a ≤ 200) := wf_6 hw ha
    have g2x := g2.2
    replace g2 := g2.1
    clear g2x
    refine tn_icmp_ge (tgt := 41) dX1_get_16 (by decide) ⟨by omega, by omega⟩ ⟨by omega, by omega⟩ (fun h3 => ?_) (fun h3 => ?_)
    · refine tn_iconst dX1_get_41 ?_
      exact tn_iret rfl dX1_get_42 ⟨_, rfl, rfl, rfl, by omega, by unfold jG; rw [if_neg (by omega)]⟩
    · refine tn_iload_n dX1_get_19 rfl 0 rfl ?_
      refine tn_if_lt (tgt := 41) dX1_get_20 (by decide) ⟨by omega, by omega⟩ (fun h4 => ?_) (fun h4 => ?_)
      · refine tn_iconst dX1_get_41 ?_
        exact tn_iret rfl dX1_get_42 ⟨_, rfl, rfl, rfl, by omega, by unfold jG; rw [if_neg (by omega)]⟩
      · refine tn_iload_n dX1_get_23 rfl 0 rfl ?_
        refine tn_aload_n dX1_get_24 rfl 1 rfl ?_
        obtain ⟨hl8, hk7a, hk7b⟩ := cel_of (wf_5 hw ha) hx
        have hk7i : IA T x := by unfold IA; omega
        have hk7c : CELL T a x := ⟨hk7a, hk7b⟩
        clear hk7a hk7b
        refine tn_getR (ci := 1) (i := 0) (n := 5) (x := x) dX1_get_25 rfl lay_1 (by decide) fl1_9 ha rfl rfl (hx) ?_
        refine tn_alenX dX1_get_28 (Or.inl hk7i) ?_
        refine tn_icmp_ge (tgt := 41) dX1_get_29 (by decide) ⟨by omega, by omega⟩ ⟨by omega, by omega⟩ (fun h9 => ?_) (fun h9 => ?_)
        · refine tn_iconst dX1_get_41 ?_
          exact tn_iret rfl dX1_get_42 ⟨_, rfl, rfl, rfl, by omega, by unfold jG; rw [if_neg (by omega)]⟩
        · refine tn_aload_n dX1_get_32 rfl 1 rfl ?_
          refine tn_getR (ci := 1) (i := 0) (n := 5) (x := x) dX1_get_33 rfl lay_1 (by decide) fl1_9 ha rfl rfl (hx) ?_
          refine tn_iload_n dX1_get_36 rfl 0 rfl ?_
          refine tn_ialdX (z := (k * 13) + c) hw dX1_get_37 hk7i (by omega) (by omega) (by omega) (fun v10 g11q g11 g11k => ?_)
          have g11u := g11q
          clear g11k g11q
          refine tn_goto (tgt := 42) dX1_get_38 (by decide) ?_
          exact tn_iret rfl dX1_get_42 ⟨_, rfl, rfl, rfl, by omega, by unfold jG; rw [if_pos ⟨⟨by omega, by omega⟩, by omega⟩]; exact g11u⟩
end
section
set_option maxHeartbeats 1000000 in
set_option maxRecDepth 20000 in
theorem k_X1_kindAt_j (d : Nat) {T : CT} {σ : MS} {a : Nat} {k : Int} {x : Nat} (ha : OB T a 1) (h_k : -2147483648 ≤ k ∧ k ≤ 2147483647) (hw : WT T σ) (hx : σ.2.1 5 a = (x : Int)) : Tn (d + 1) m_X1_kindAt 0 T σ [(0, .ref a), (1, .int (iI k))] [] (fun ro T2 σ2 => ∃ v : Int, ro = some (.int (iI v)) ∧ T = T2 ∧ σ = σ2 ∧ (-2147483648 ≤ v ∧ v ≤ 2147483647) ∧ (v = jK T σ a x k)) := by
  refine tn_iload_n dX1_kindAt_0 rfl 1 rfl ?_
  refine tn_if_lt (tgt := 36) dX1_kindAt_1 (by decide) ⟨by omega, by omega⟩ (fun h1 => ?_) (fun h1 => ?_)
  · refine tn_iconst dX1_kindAt_36 ?_
    exact tn_iret rfl dX1_kindAt_37 ⟨_, rfl, rfl, rfl, by omega, by unfold jK; rw [if_neg (by omega)]⟩
  · refine tn_iload_n dX1_kindAt_4 rfl 1 rfl ?_
    refine tn_aload_n dX1_kindAt_5 rfl 0 rfl ?_
    refine tn_getI (ci := 1) (i := 1) (n := 6) (t := σ.2.1 6 a) dX1_kindAt_6 rfl lay_1 (by decide) fl1_33 ha rfl rfl (rfl) ?_
    have g2 : ((0 : Int) ≤ σ.2.1 6 a ∧ σ.2.1 6 a ≤ 5000) ∧ ((T a).1 = 50 → σ.2.1 6 a ≤ 200) := wf_6 hw ha
    have g2x := g2.2
    replace g2 := g2.1
    clear g2x
    refine tn_icmp_ge (tgt := 36) dX1_kindAt_9 (by decide) ⟨by omega, by omega⟩ ⟨by omega, by omega⟩ (fun h3 => ?_) (fun h3 => ?_)
    · refine tn_iconst dX1_kindAt_36 ?_
      exact tn_iret rfl dX1_kindAt_37 ⟨_, rfl, rfl, rfl, by omega, by unfold jK; rw [if_neg (by omega)]⟩
    · refine tn_iload_n dX1_kindAt_12 rfl 1 rfl ?_
      refine tn_bipush dX1_kindAt_13 (by decide) ?_
      refine tn_imul dX1_kindAt_15 ?_
      refine tn_aload_n dX1_kindAt_16 rfl 0 rfl ?_
      obtain ⟨hl7, hk6a, hk6b⟩ := cel_of (wf_5 hw ha) hx
      have hk6i : IA T x := by unfold IA; omega
      have hk6c : CELL T a x := ⟨hk6a, hk6b⟩
      clear hk6a hk6b
      refine tn_getR (ci := 1) (i := 0) (n := 5) (x := x) dX1_kindAt_17 rfl lay_1 (by decide) fl1_9 ha rfl rfl (hx) ?_
      refine tn_alenX dX1_kindAt_20 (Or.inl hk6i) ?_
      refine tn_icmp_ge (tgt := 36) dX1_kindAt_21 (by decide) ⟨by omega, by omega⟩ ⟨by omega, by omega⟩ (fun h8 => ?_) (fun h8 => ?_)
      · refine tn_iconst dX1_kindAt_36 ?_
        exact tn_iret rfl dX1_kindAt_37 ⟨_, rfl, rfl, rfl, by omega, by unfold jK; rw [if_neg (by omega)]⟩
      · refine tn_aload_n dX1_kindAt_24 rfl 0 rfl ?_
        refine tn_getR (ci := 1) (i := 0) (n := 5) (x := x) dX1_kindAt_25 rfl lay_1 (by decide) fl1_9 ha rfl rfl (hx) ?_
        refine tn_iload_n dX1_kindAt_28 rfl 1 rfl ?_
        refine tn_bipush dX1_kindAt_29 (by decide) ?_
        refine tn_imul dX1_kindAt_31 ?_
        refine tn_ialdX (z := k * 13) hw dX1_kindAt_32 hk6i (by omega) (by omega) (by omega) (fun v9 g10q g10 g10k => ?_)
        have g10u := g10q
        clear g10k g10q
        refine tn_goto (tgt := 37) dX1_kindAt_33 (by decide) ?_
        exact tn_iret rfl dX1_kindAt_37 ⟨_, rfl, rfl, rfl, by omega, by unfold jK; rw [if_pos ⟨⟨by omega, by omega⟩, by omega⟩]; exact g10u⟩
end
section
set_option maxHeartbeats 1000000 in
set_option maxRecDepth 20000 in
theorem k_X1_homeOf_j (d : Nat) {T : CT} {σ : MS} {a : Nat} {f : Int} {m : Int} {xh : Nat} (ha : OB T a 1) (h_f : -2147483648 ≤ f ∧ f ≤ 2147483647) (h_m : -2147483648 ≤ m ∧ m ≤ 2147483647) (hw : WT T σ) (hxh : σ.2.1 15 a = (xh : Int)) (hfm : (-10000 ≤ f ∧ f ≤ 10000) ∧ -10000 ≤ m ∧ m ≤ 10000) : Tn (d + 2) m_X1_homeOf 0 T σ [(0, .ref a), (1, .int (iI f)), (2, .int (iI m))] [] (fun ro T2 σ2 => ∃ v : Int, ro = some (.int (iI v)) ∧ T = T2 ∧ σ = σ2 ∧ (-2147483648 ≤ v ∧ v ≤ 2147483647) ∧ (v = jA T xh (f * 12 + m) σ)) := by
  refine tn_aload_n dX1_homeOf_0 rfl 0 rfl ?_
  obtain ⟨hk3, hl4⟩ : AR T xh 1 144 144 := ar_of (wf_15 hw ha) hxh
  have hk3i : IA T xh := by unfold IA; omega
  refine tn_getR (ci := 1) (i := 10) (n := 15) (x := xh) dX1_homeOf_1 rfl lay_1 (by decide) fl1_27 ha rfl rfl (hxh) ?_
  refine tn_iload_n dX1_homeOf_4 rfl 1 rfl ?_
  refine tn_bipush dX1_homeOf_5 (by decide) ?_
  refine tn_imul dX1_homeOf_7 ?_
  refine tn_iload_n dX1_homeOf_8 rfl 2 rfl ?_
  refine tn_iadd dX1_homeOf_9 ?_
  refine tn_callSN (M := m_X1_homeOf) (pc := 10) (ix := 53) (M' := m_X11_at) (As := [.ref xh, .int (iI ((f * 12) + m))]) (rest := []) dX1_homeOf_10 ok_X11_at stt_X11_at nl1_53 np_X11_at rfl (Nat.le_of_ble_eq_true rfl) (Nat.le_of_ble_eq_true rfl) rfl (k_X11_at_j (d) (T := T) (σ := σ) (x := xh) (i := (f * 12) + m) hk3i (by omega) (by omega) hw ) (fun r5 T7 σ6 gt8 hp => ?_)
  obtain ⟨v12, rfl, rfl, rfl, f9, f10, f11⟩ := hp
  clear gt8
  clear f10
  show Tn _ _ 13 T σ [(0, .ref a), (1, .int (iI f)), (2, .int (iI m))] [.int (iI v12)] _
  exact tn_iret rfl dX1_homeOf_13 ⟨_, rfl, rfl, rfl, by omega, f11⟩
end
section
set_option maxHeartbeats 1000000 in
set_option maxRecDepth 20000 in
theorem k_X7_codeAt_j (d : Nat) {T : CT} {σ : MS} {a : Nat} {r : Int} {y : Nat} (ha : OB T a 7) (h_r : -2147483648 ≤ r ∧ r ≤ 2147483647) (hw : WT T σ) (hy : σ.2.1 55 a = (y : Int)) : Tn (d + 1) m_X7_codeAt 0 T σ [(0, .ref a), (1, .int (iI r))] [] (fun ro T2 σ2 => ∃ v : Int, ro = some (vl true v) ∧ T = T2 ∧ σ = σ2 ∧ (v < 0 ∨ ∃ x : Nat, v = (x : Int) ∧ OB T2 x 1 ∧ RC T2 a x) ∧ (CAT r v) ∧ (v = jC σ y r)) := by
  refine tn_iload_n dX7_codeAt_0 rfl 1 rfl ?_
  refine tn_if_lt (tgt := 22) dX7_codeAt_1 (by decide) ⟨by omega, by omega⟩ (fun h1 => ?_) (fun h1 => ?_)
  · refine tn_null dX7_codeAt_22 ?_
    exact tn_aret rfl (Or.inl ⟨_, rfl⟩) (Or.inl rfl) dX7_codeAt_23 ⟨-1, congrArg some (vl_null (by decide)).symm, rfl, rfl, Or.inl (by decide), by unfold CAT; omega, by unfold jC; rw [if_neg (by omega)]⟩
  · refine tn_iload_n dX7_codeAt_4 rfl 1 rfl ?_
    refine tn_aload_n dX7_codeAt_5 rfl 0 rfl ?_
    obtain ⟨hl5, hk4a, hk4b⟩ := ex_at (wf_55 hw ha) hy
    have hk4i : (T y).1 = 4 ∨ (T y).1 = 5 := by omega
    have hk4c : RROW T a y := ⟨hk4a, hk4b⟩
    clear hk4a hk4b
    refine tn_getR (ci := 7) (i := 0) (n := 55) (x := y) dX7_codeAt_6 rfl lay_7 (by decide) fl7_30 ha rfl rfl (hy) ?_
    refine tn_alenX dX7_codeAt_9 (by have q9 := hk4i; omega) ?_
    refine tn_icmp_ge (tgt := 22) dX7_codeAt_10 (by decide) ⟨by omega, by omega⟩ ⟨by omega, by omega⟩ (fun h6 => ?_) (fun h6 => ?_)
    · refine tn_null dX7_codeAt_22 ?_
      exact tn_aret rfl (Or.inl ⟨_, rfl⟩) (Or.inl rfl) dX7_codeAt_23 ⟨-1, congrArg some (vl_null (by decide)).symm, rfl, rfl, Or.inl (by decide), by unfold CAT; omega, by unfold jC; rw [if_neg (by omega)]⟩
    · refine tn_aload_n dX7_codeAt_13 rfl 0 rfl ?_
      refine tn_getR (ci := 7) (i := 0) (n := 55) (x := y) dX7_codeAt_14 rfl lay_7 (by decide) fl7_30 ha rfl rfl (hy) ?_
      refine tn_iload_n dX7_codeAt_17 rfl 1 rfl ?_
      obtain ⟨xq7, hx8, hk9o, hk9⟩ := codeRow (hw) hk4i (i := r) (by omega) (by omega)
      refine tn_aald (z := r) (x := xq7) dX7_codeAt_18 hk4i (by omega) (by omega) (by omega) hx8 ?_
      refine tn_goto (tgt := 23) dX7_codeAt_19 (by decide) ?_
      exact tn_aret rfl (Or.inl ⟨_, rfl⟩) (Or.inr ⟨_, rfl⟩) dX7_codeAt_23 ⟨(xq7 : Int), congrArg some (vl_ref rfl).symm, rfl, rfl, Or.inr ⟨_, rfl, hk9o, RROW.rc hk4c hk9⟩, by unfold CAT; omega, by unfold jC; rw [if_pos ⟨by omega, by omega⟩]; first | assumption | (symm; assumption)⟩
end
section
set_option maxHeartbeats 1000000 in
set_option maxRecDepth 20000 in
theorem k_X7_place_j (d : Nat) {T : CT} {σ : MS} {a : Nat} {xb : Nat} (ha : OB T a 7) (hw : WT T σ) (hxb : σ.2.1 60 a = (xb : Int)) : Tn (d + 2) m_X7_place 0 T σ [(0, .ref a)] [] (fun ro T2 σ2 => ∃ v : Int, ro = some (.int (iI v)) ∧ T = T2 ∧ σ = σ2 ∧ (-2147483648 ≤ v ∧ v ≤ 2147483647) ∧ (v = jA T xb (σ.2.1 57 a) σ)) := by
  refine tn_aload_n dX7_place_0 rfl 0 rfl ?_
  obtain ⟨hk3, hl4⟩ : AR T xb 1 9 9 := ar_of (wf_60 hw ha) hxb
  have hk3i : IA T xb := by unfold IA; omega
  refine tn_getR (ci := 7) (i := 5) (n := 60) (x := xb) dX7_place_1 rfl lay_7 (by decide) fl7_15 ha rfl rfl (hxb) ?_
  refine tn_aload_n dX7_place_4 rfl 0 rfl ?_
  refine tn_getI (ci := 7) (i := 2) (n := 57) (t := σ.2.1 57 a) dX7_place_5 rfl lay_7 (by decide) fl7_65 ha rfl rfl (rfl) ?_
  have g5 : ((0 : Int) ≤ σ.2.1 57 a ∧ σ.2.1 57 a ≤ 11184800) ∧ ((T a).1 = 57 → σ.2.1 57 a ≤ 8) := wf_57 hw ha
  have g5x := g5.2
  replace g5 := g5.1
  clear g5x
  refine tn_callSN (M := m_X7_place) (pc := 8) (ix := 91) (M' := m_X11_at) (As := [.ref xb, .int (iI (σ.2.1 57 a))]) (rest := []) dX7_place_8 ok_X11_at stt_X11_at nl7_91 np_X11_at rfl (Nat.le_of_ble_eq_true rfl) (Nat.le_of_ble_eq_true rfl) rfl (k_X11_at_j (d) (T := T) (σ := σ) (x := xb) (i := σ.2.1 57 a) hk3i (by omega) (by omega) hw ) (fun r6 T8 σ7 gt9 hp => ?_)
  obtain ⟨v13, rfl, rfl, rfl, f10, f11, f12⟩ := hp
  clear gt9
  clear f11
  show Tn _ _ 11 T σ [(0, .ref a)] [.int (iI v13)] _
  exact tn_iret rfl dX7_place_11 ⟨_, rfl, rfl, rfl, by omega, f12⟩
end
section
set_option maxHeartbeats 1000000 in
set_option maxRecDepth 20000 in
theorem k_X7_homeOfParam_j (d : Nat) {T : CT} {σ : MS} {a : Nat} {p1 : Int} (ha : OB T a 7) (h_p1 : -2147483648 ≤ p1 ∧ p1 ≤ 2147483647) (hw : WT T σ) (hp9 : 0 ≤ p1 ∧ p1 ≤ 3) : Tn (d + 3) m_X7_homeOfParam 0 T σ [(0, .ref a), (1, .int (iI p1))] [] (fun ro T2 σ2 => ∃ v : Int, ro = some (.int (iI v)) ∧ T = T2 ∧ σ = σ2 ∧ (-2147483648 ≤ v ∧ v ≤ 2147483647) ∧ (JHP T σ a p1 v)) := by
  refine tn_aload_n dX7_homeOfParam_0 rfl 0 rfl ?_
  rcases wf_69 hw ha with hx1 | ⟨xq2, hx1, hk3a, hk3b⟩
  · refine tn_getN (ci := 7) (i := 14) (n := 69) dX7_homeOfParam_1 rfl lay_7 (by decide) fl7_72 ha rfl rfl (Int.lt_of_le_of_lt (Int.le_of_eq (Eq.refl _)) hx1) ?_
    refine tn_ifnullN (tgt := 39) dX7_homeOfParam_4 (by decide) ?_
    refine tn_iconst dX7_homeOfParam_39 ?_
    exact tn_iret rfl dX7_homeOfParam_40 ⟨_, rfl, rfl, rfl, by omega, Or.inl ⟨rfl, Or.inl (by omega)⟩⟩
  · have hk3o : OB T xq2 1 := by
      by_cases q9 : (T a).1 = 57
      · have w9 := hk3a q9; exact ⟨by omega, by rw [w9]; rfl, by omega⟩
      · have w9 := hk3b q9; exact ⟨by omega, by rw [w9]; rfl, by omega⟩
    refine tn_getR (ci := 7) (i := 14) (n := 69) (x := xq2) dX7_homeOfParam_1 rfl lay_7 (by decide) fl7_72 ha rfl rfl (hx1) ?_
    refine tn_ifnull dX7_homeOfParam_4 ?_
    refine tn_iload_n dX7_homeOfParam_7 rfl 1 rfl ?_
    refine tn_aload_n dX7_homeOfParam_8 rfl 0 rfl ?_
    refine tn_getR (ci := 7) (i := 14) (n := 69) (x := xq2) dX7_homeOfParam_9 rfl lay_7 (by decide) fl7_72 ha rfl rfl (hx1) ?_
    refine tn_getI (ci := 1) (i := 3) (n := 8) (t := σ.2.1 8 xq2) dX7_homeOfParam_12 rfl lay_1 (by decide) fl7_82 hk3o rfl rfl (rfl) ?_
    have g5 : ((0 : Int) ≤ σ.2.1 8 xq2 ∧ σ.2.1 8 xq2 ≤ 4) := wf_8 hw hk3o
    refine tn_icmp_ge (tgt := 39) dX7_homeOfParam_15 (by decide) ⟨by omega, by omega⟩ ⟨by omega, by omega⟩ (fun h6 => ?_) (fun h6 => ?_)
    · refine tn_iconst dX7_homeOfParam_39 ?_
      exact tn_iret rfl dX7_homeOfParam_40 ⟨_, rfl, rfl, rfl, by omega, Or.inl ⟨rfl, Or.inr ⟨xq2, hx1, by omega⟩⟩⟩
    · refine tn_aload_n dX7_homeOfParam_18 rfl 0 rfl ?_
      refine tn_getI (ci := 7) (i := 2) (n := 57) (t := σ.2.1 57 a) dX7_homeOfParam_19 rfl lay_7 (by decide) fl7_65 ha rfl rfl (rfl) ?_
      have g7 : ((0 : Int) ≤ σ.2.1 57 a ∧ σ.2.1 57 a ≤ 11184800) ∧ ((T a).1 = 57 → σ.2.1 57 a ≤ 8) := wf_57 hw ha
      have g7x := g7.2
      replace g7 := g7.1
      clear g7x
      refine tn_sipush dX7_homeOfParam_22 (by decide) ?_
      refine tn_imul dX7_homeOfParam_25 ?_
      refine tn_aload_n dX7_homeOfParam_26 rfl 0 rfl ?_
      refine tn_getR (ci := 7) (i := 14) (n := 69) (x := xq2) dX7_homeOfParam_27 rfl lay_7 (by decide) fl7_72 ha rfl rfl (hx1) ?_
      refine tn_iconst dX7_homeOfParam_30 ?_
      refine tn_iload_n dX7_homeOfParam_31 rfl 1 rfl ?_
      obtain ⟨xq8, hx9, hk10, hl11⟩ : ∃ x : Nat, σ.2.1 15 xq2 = (x : Int) ∧ AR T x 1 144 144 := wf_15 hw hk3o
      have hk10i : IA T xq8 := by unfold IA; omega
      refine tn_callV (M := m_X7_homeOfParam) (pc := 32) (ix := 87) (ci := 1) (M' := m_X1_homeOf) (As := [.int (iI 0), .int (iI p1)]) (rest := [.int (iI ((σ.2.1 57 a) * 192))]) dX7_homeOfParam_32 ok_X1_homeOf im_X1_homeOf se_X1_homeOf ml7_87 np_X1_homeOf rfl rfl hk3o rfl (Nat.le_of_ble_eq_true rfl) (Nat.le_of_ble_eq_true rfl) rfl (k_X1_homeOf_j (d) (T := T) (σ := σ) (a := xq2) (f := 0) (m := p1) (xh := xq8) hk3o (by decide) (by omega) hw (hx9) (by omega)) (fun r12 T14 σ13 gt15 hp => ?_)
      obtain ⟨v18, rfl, rfl, rfl, f16, f17⟩ := hp
      clear gt15
      show Tn _ _ 35 T σ [(0, .ref a), (1, .int (iI p1))] [.int (iI v18), .int (iI ((σ.2.1 57 a) * 192))] _
      refine tn_iadd dX7_homeOfParam_35 ?_
      rw [show iI (((σ.2.1 57 a) * 192) + v18) = iI (w32 (((σ.2.1 57 a) * 192) + v18)) from (iI_self _).symm]
      have g19r : -2147483648 ≤ w32 (((σ.2.1 57 a) * 192) + v18) ∧ w32 (((σ.2.1 57 a) * 192) + v18) ≤ 2147483647 := inR_toInt _
      refine tn_goto (tgt := 40) dX7_homeOfParam_36 (by decide) ?_
      exact tn_iret rfl dX7_homeOfParam_40 ⟨_, rfl, rfl, rfl, by omega, Or.inr ⟨xq2, xq8, hx1, by omega, hx9, by rw [← f17]⟩⟩
end
section
set_option maxHeartbeats 1000000 in
set_option maxRecDepth 20000 in
theorem k_X7_operand_j (d : Nat) {T : CT} {σ : MS} {a : Nat} {k : Int} {c : Int} {xe : Nat} (ha : OB T a 7) (h_k : -2147483648 ≤ k ∧ k ≤ 2147483647) (h_c : -2147483648 ≤ c ∧ c ≤ 2147483647) (hw : WT T σ) (hxe : σ.2.1 63 a = (xe : Int)) (hn : 0 ≤ σ.2.1 69 a) (hc : 0 ≤ c ∧ c ≤ 11) : Tn (d + 2) m_X7_operand 0 T σ [(0, .ref a), (1, .int (iI k)), (2, .int (iI c))] [] (fun ro T2 σ2 => ∃ v : Int, ro = some (.int (iI v)) ∧ T = T2 ∧ σ = σ2 ∧ (-2147483648 ≤ v ∧ v ≤ 2147483647) ∧ (JOP T σ a xe k c v)) := by
  refine tn_aload_n dX7_operand_0 rfl 0 rfl ?_
  obtain ⟨xq5, hx6, hk7a, hk7b⟩ := (wf_69 hw ha).resolve_left (by have q9 := hn; omega)
  have hk7o : OB T xq5 1 := (show RC T a xq5 from ⟨hk7a, hk7b⟩).ob
  clear hk7a hk7b
  refine tn_getR (ci := 7) (i := 14) (n := 69) (x := xq5) dX7_operand_1 rfl lay_7 (by decide) fl7_72 ha rfl rfl (hx6) ?_
  refine tn_iload_n dX7_operand_4 rfl 1 rfl ?_
  refine tn_iload_n dX7_operand_5 rfl 2 rfl ?_
  refine tn_iconst dX7_operand_6 ?_
  refine tn_iadd dX7_operand_7 ?_
  obtain ⟨xq8, hx9, hl11, hk10a, hk10b⟩ := wf_5 hw hk7o
  have hk10i : IA T xq8 := by unfold IA; omega
  have hk10c : CELL T xq5 xq8 := ⟨hk10a, hk10b⟩
  clear hk10a hk10b
  refine tn_callV (M := m_X7_operand) (pc := 8) (ix := 117) (ci := 1) (M' := m_X1_get) (As := [.int (iI k), .int (iI (c + 1))]) (rest := []) dX7_operand_8 ok_X1_get im_X1_get se_X1_get ml7_117 np_X1_get rfl rfl hk7o rfl (Nat.le_of_ble_eq_true rfl) (Nat.le_of_ble_eq_true rfl) rfl (k_X1_get_j (d) (T := T) (σ := σ) (a := xq5) (k := k) (c := c + 1) (x := xq8) hk7o (by omega) (by omega) hw (hx9) (by omega)) (fun r12 T14 σ13 gt15 hp => ?_)
  obtain ⟨v18, rfl, rfl, rfl, f16, f17⟩ := hp
  clear gt15
  show Tn _ _ 11 T σ [(0, .ref a), (1, .int (iI k)), (2, .int (iI c))] [.int (iI v18)] _
  refine tn_istore_n (L' := [(3, .int (iI v18)), (0, .ref a), (1, .int (iI k)), (2, .int (iI c))]) dX7_operand_11 rfl (by decide) rfl ?_
  refine tn_aload_n dX7_operand_12 rfl 1 rfl ?_
  refine tn_getR (ci := 7) (i := 14) (n := 69) (x := xq5) dX7_operand_13 rfl lay_7 (by decide) fl7_72 ha rfl rfl (hx6) ?_
  refine tn_iload_n dX7_operand_16 rfl 2 rfl ?_
  refine tn_iload_n dX7_operand_17 rfl 3 rfl ?_
  refine tn_callV (M := m_X7_operand) (pc := 18) (ix := 117) (ci := 1) (M' := m_X1_get) (As := [.int (iI k), .int (iI c)]) (rest := []) dX7_operand_18 ok_X1_get im_X1_get se_X1_get ml7_117 np_X1_get rfl rfl hk7o rfl (Nat.le_of_ble_eq_true rfl) (Nat.le_of_ble_eq_true rfl) rfl (k_X1_get_j (d) (T := T) (σ := σ) (a := xq5) (k := k) (c := c) (x := xq8) hk7o (by omega) (by omega) hw (hx9) (by omega)) (fun r19 T21 σ20 gt22 hp => ?_)
  obtain ⟨v25, rfl, rfl, rfl, f23, f24⟩ := hp
  clear gt22
  show Tn _ _ 21 T σ [(3, .int (iI v18)), (0, .ref a), (1, .int (iI k)), (2, .int (iI c))] [.int (iI v25)] _
  refine tn_iconst dX7_operand_21 ?_
  refine tn_icmp_ne (tgt := 45) dX7_operand_22 (by decide) ⟨by omega, by omega⟩ ⟨by decide, by decide⟩ (fun h26 => ?_) (fun h26 => ?_)
  · refine tn_iload_n dX7_operand_45 rfl 0 rfl ?_
    exact tn_iret rfl dX7_operand_46 ⟨_, rfl, rfl, rfl, by omega, ⟨xq5, xq8, hx6, hx9, Or.inl ⟨by rw [← f24]; omega, f17⟩⟩⟩
  · refine tn_aload_n dX7_operand_25 rfl 1 rfl ?_
    obtain ⟨hk29, hl30⟩ : AR T xe 1 1728 1728 := ar_of (wf_63 hw ha) hxe
    have hk29i : IA T xe := by unfold IA; omega
    refine tn_getR (ci := 7) (i := 8) (n := 63) (x := xe) dX7_operand_26 rfl lay_7 (by decide) fl7_24 ha rfl rfl (hxe) ?_
    refine tn_aload_n dX7_operand_29 rfl 1 rfl ?_
    refine tn_getI (ci := 7) (i := 2) (n := 57) (t := σ.2.1 57 a) dX7_operand_30 rfl lay_7 (by decide) fl7_65 ha rfl rfl (rfl) ?_
    have g31 : ((0 : Int) ≤ σ.2.1 57 a ∧ σ.2.1 57 a ≤ 11184800) ∧ ((T a).1 = 57 → σ.2.1 57 a ≤ 8) := wf_57 hw ha
    have g31x := g31.2
    replace g31 := g31.1
    clear g31x
    refine tn_sipush dX7_operand_33 (by decide) ?_
    refine tn_imul dX7_operand_36 ?_
    refine tn_iload_n dX7_operand_37 rfl 0 rfl ?_
    refine tn_iadd dX7_operand_38 ?_
    rw [show iI (((σ.2.1 57 a) * 192) + v18) = iI (w32 (((σ.2.1 57 a) * 192) + v18)) from (iI_self _).symm]
    have g32r : -2147483648 ≤ w32 (((σ.2.1 57 a) * 192) + v18) ∧ w32 (((σ.2.1 57 a) * 192) + v18) ≤ 2147483647 := inR_toInt _
    refine tn_callSN (M := m_X7_operand) (pc := 39) (ix := 91) (M' := m_X11_at) (As := [.ref xe, .int (iI (w32 (((σ.2.1 57 a) * 192) + v18)))]) (rest := []) dX7_operand_39 ok_X11_at stt_X11_at nl7_91 np_X11_at rfl (Nat.le_of_ble_eq_true rfl) (Nat.le_of_ble_eq_true rfl) rfl (k_X11_at_j (d) (T := T) (σ := σ) (x := xe) (i := w32 (((σ.2.1 57 a) * 192) + v18)) hk29i (by omega) (by omega) hw ) (fun r33 T35 σ34 gt36 hp => ?_)
    obtain ⟨v40, rfl, rfl, rfl, f37, f38, f39⟩ := hp
    clear gt36
    clear f38
    show Tn _ _ 42 T σ [(3, .int (iI v18)), (0, .ref a), (1, .int (iI k)), (2, .int (iI c))] [.int (iI v40)] _
    refine tn_goto (tgt := 46) dX7_operand_42 (by decide) ?_
    exact tn_iret rfl dX7_operand_46 ⟨_, rfl, rfl, rfl, by omega, ⟨xq5, xq8, hx6, hx9, Or.inr ⟨by rw [← f24]; omega, by rw [← f17]; exact f39⟩⟩⟩
end
section
set_option maxHeartbeats 1000000 in
set_option maxRecDepth 20000 in
theorem k_X7_emit_j (d : Nat) {T : CT} {σ : MS} {a : Nat} {p1 : Int} {xf : Nat} (ha : OB T a 7) (h_p1 : -2147483648 ≤ p1 ∧ p1 ≤ 2147483647) (hw : WT T σ) (hxf : σ.2.1 64 a = (xf : Int)) : Tn (d + 2) m_X7_emit 0 T σ [(0, .ref a), (1, .int (iI p1))] [] (fun ro T2 σ2 => ro = none ∧ T = T2 ∧ WT T2 σ2 ∧ FrC T [65, 66] σ σ2 ∧ (CHX [(65, a), (66, a)] [xf] [] σ σ2) ∧ (JEM T σ a xf p1 σ2) ∧ (FA a σ σ2)) := by
  refine tn_aload_n dX7_emit_0 rfl 0 rfl ?_
  obtain ⟨hk3, hl4⟩ : AR T xf 1 200 200 := ar_of (wf_64 hw ha) hxf
  have hk3i : IA T xf := by unfold IA; omega
  refine tn_getR (ci := 7) (i := 9) (n := 64) (x := xf) dX7_emit_1 rfl lay_7 (by decide) fl7_27 ha rfl rfl (hxf) ?_
  refine tn_aload_n dX7_emit_4 rfl 0 rfl ?_
  refine tn_getI (ci := 7) (i := 10) (n := 65) (t := σ.2.1 65 a) dX7_emit_5 rfl lay_7 (by decide) fl7_41 ha rfl rfl (rfl) ?_
  have g5 : ((-2147483648 : Int) ≤ σ.2.1 65 a ∧ σ.2.1 65 a ≤ 2147483647) := wf_65 hw ha
  refine tn_iload_n dX7_emit_8 rfl 1 rfl ?_
  refine tn_callSN (M := m_X7_emit) (pc := 9) (ix := 61) (M' := m_X11_put) (As := [.ref xf, .int (iI (σ.2.1 65 a)), .int (iI p1)]) (rest := []) dX7_emit_9 ok_X11_put stt_X11_put nl7_61 np_X11_put rfl (Nat.le_of_ble_eq_true rfl) (Nat.le_of_ble_eq_true rfl) rfl (k_X11_put_x (d) (T := T) (σ := σ) (x := xf) (i := σ.2.1 65 a) (y := p1) hk3i (by omega) (by omega) (by omega) hw (nh_k hk3 (by unfold HT; omega)) (vok_1 (by have q9 := hk3; omega) (by omega))) (fun r6 T8 σ7 gt9 hp => ?_)
  obtain ⟨rfl, rfl, w13, F14, f10, f11⟩ := hp
  clear gt9
  have je15 : σ7 = jP T xf (σ.2.1 65 a) (p1) _ := f11
  show Tn _ _ 12 T σ7 [(0, .ref a), (1, .int (iI p1))] [] _
  refine tn_aload_n dX7_emit_12 rfl 0 rfl ?_
  refine tn_iload_n dX7_emit_13 rfl 1 rfl ?_
  refine tn_putV (ci := 7) (i := 11) (n := 66) (r := false) (v := p1) tyX7 tyX7_ok nmX7 dX7_emit_14 rfl lay_7 (by decide) fl7_44 rfl (tyX7_ok 11 (by decide)) rfl rfl rfl ha rfl rfl ?_
  refine tn_aload_n dX7_emit_17 rfl 0 rfl ?_
  refine tn_dup dX7_emit_18 rfl ?_
  refine tn_getI (ci := 7) (i := 10) (n := 65) (t := σ.2.1 65 a) dX7_emit_19 rfl lay_7 (by decide) fl7_41 ha rfl rfl (rc_o (by decide) (rc_F F14 (Or.inl (by decide)) (by decide) (rfl))) ?_
  refine tn_iconst dX7_emit_22 ?_
  refine tn_iadd dX7_emit_23 ?_
  rw [show iI ((σ.2.1 65 a) + 1) = iI (w32 ((σ.2.1 65 a) + 1)) from (iI_self _).symm]
  have g16r : -2147483648 ≤ w32 ((σ.2.1 65 a) + 1) ∧ w32 ((σ.2.1 65 a) + 1) ≤ 2147483647 := inR_toInt _
  refine tn_putV (ci := 7) (i := 10) (n := 65) (r := false) (v := w32 ((σ.2.1 65 a) + 1)) tyX7 tyX7_ok nmX7 dX7_emit_24 rfl lay_7 (by decide) fl7_41 rfl (tyX7_ok 10 (by decide)) rfl rfl rfl ha rfl rfl ?_
  exact tn_vret rfl dX7_emit_27 ⟨rfl, rfl, ((w13.put (by decide) (by decide) (fo_66 (by omega))).put (by decide) (by decide) (fo_65 (by omega))), (((FrC.rfl.trans (FrC.sub F14 (by decide))).put (by decide) (by decide)).put (by decide) (by decide)), (((CHX.rfl.trans (CHX.sub f10 (by simp) (by simp) (by simp))).fld (by simp) (by decide)).fld (by simp) (by decide)), (by unfold JEM; rw [je15]), (((FA.rfl.trans (FA.of F14 (by decide))).put).put)⟩
end
section
set_option maxHeartbeats 1000000 in
set_option maxRecDepth 20000 in
theorem k_X7_openCall_j (d : Nat) {T : CT} {σ : MS} {a : Nat} {c : Int} {r : Int} {xa : Nat} {xb : Nat} {xc : Nat} {xd : Nat} {xe : Nat} {y : Nat} (ha : OB T a 7) (hta : (T a).1 = 37) (h_c : -2147483648 ≤ c ∧ c ≤ 2147483647) (h_r : -2147483648 ≤ r ∧ r ≤ 2147483647) (hw : WT T σ) (hxa : σ.2.1 59 a = (xa : Int)) (hxb : σ.2.1 60 a = (xb : Int)) (hxc : σ.2.1 61 a = (xc : Int)) (hxd : σ.2.1 62 a = (xd : Int)) (hxe : σ.2.1 63 a = (xe : Int)) (hy : σ.2.1 55 a = (y : Int)) (h8 : 0 ≤ c ∧ c ≤ 11184800) : Tn (d + 3) m_X7_openCall 0 T σ [(0, .ref a), (1, .int (iI c)), (2, .int (iI r))] [] (fun ro T2 σ2 => ro = none ∧ T = T2 ∧ WT T2 σ2 ∧ FrC T [57, 58, 69, 515] σ σ2 ∧ (CHX [(57, a), (58, a), (69, a)] [xa, xb, xc, xd, xe] [] σ σ2) ∧ (σ2.2.1 57 a = c) ∧ (JOC T σ a xa xb xc xd xe y c r σ2) ∧ (FA a σ σ2)) := by
  refine tn_aload_n dX7_openCall_0 rfl 0 rfl ?_
  refine tn_iload_n dX7_openCall_1 rfl 1 rfl ?_
  refine tn_putV (ci := 7) (i := 2) (n := 57) (r := false) (v := c) tyX7 tyX7_ok nmX7 dX7_openCall_2 rfl lay_7 (by decide) fl7_65 rfl (tyX7_ok 2 (by decide)) rfl rfl rfl ha rfl rfl ?_
  refine tn_aload_n dX7_openCall_5 rfl 0 rfl ?_
  refine tn_dup dX7_openCall_6 rfl ?_
  refine tn_getI (ci := 7) (i := 3) (n := 58) (t := σ.2.1 58 a) dX7_openCall_7 rfl lay_7 (by decide) fl7_38 ha rfl rfl (rc_o (by decide) (rfl)) ?_
  have g1 : ((-2147483648 : Int) ≤ σ.2.1 58 a ∧ σ.2.1 58 a ≤ 2147483647) := wf_58 hw ha
  refine tn_iconst dX7_openCall_10 ?_
  refine tn_iadd dX7_openCall_11 ?_
  rw [show iI ((σ.2.1 58 a) + 1) = iI (w32 ((σ.2.1 58 a) + 1)) from (iI_self _).symm]
  have g2r : -2147483648 ≤ w32 ((σ.2.1 58 a) + 1) ∧ w32 ((σ.2.1 58 a) + 1) ≤ 2147483647 := inR_toInt _
  refine tn_putV (ci := 7) (i := 3) (n := 58) (r := false) (v := w32 ((σ.2.1 58 a) + 1)) tyX7 tyX7_ok nmX7 dX7_openCall_12 rfl lay_7 (by decide) fl7_38 rfl (tyX7_ok 3 (by decide)) rfl rfl rfl ha rfl rfl ?_
  refine tn_aload_n dX7_openCall_15 rfl 0 rfl ?_
  refine tn_aload_n dX7_openCall_16 rfl 0 rfl ?_
  refine tn_iload_n dX7_openCall_17 rfl 2 rfl ?_
  obtain ⟨hl6, hk5a, hk5b⟩ := ex_at (wf_55 hw ha) hy
  have hk5i : (T y).1 = 4 ∨ (T y).1 = 5 := by omega
  have hk5c : RROW T a y := ⟨hk5a, hk5b⟩
  clear hk5a hk5b
  refine tn_callV (M := m_X7_openCall) (pc := 18) (ix := 68) (ci := 7) (M' := m_X7_codeAt) (As := [.int (iI r)]) (rest := [.ref a]) dX7_openCall_18 ok_X7_codeAt im_X7_codeAt se_X7_codeAt ml7_68 np_X7_codeAt rfl rfl ha rfl (Nat.le_of_ble_eq_true rfl) (Nat.le_of_ble_eq_true rfl) rfl (k_X7_codeAt_j (d + 1) (T := T) (σ := (sA 58 a (w32 ((σ.2.1 58 a) + 1)) (sA 57 a (c) σ))) (a := a) (r := r) (y := y) ha (by omega) ((hw.put (by decide) (by decide) (fo_57 ⟨by omega, by omega⟩)).put (by decide) (by decide) (fo_58 (by omega))) (rc_o (by decide) (rc_o (by decide) (hy)))) (fun r7 T9 σ8 gt10 hp => ?_)
  obtain ⟨v13, rfl, rfl, rfl, rv14, f11, f12⟩ := hp
  clear gt10
  rcases rv14 with rv14 | ⟨xq15, rfl, hk16⟩
  · show Tn _ _ 21 T (sA 58 a (w32 ((σ.2.1 58 a) + 1)) (sA 57 a (c) σ)) [(0, .ref a), (1, .int (iI c)), (2, .int (iI r))] (vl true v13 :: [.ref a]) _
    rw [vl_null rv14]
    refine tn_putV (ci := 7) (i := 14) (n := 69) (r := true) (v := -1) tyX7 tyX7_ok nmX7 dX7_openCall_21 rfl lay_7 (by decide) fl7_72 rfl (tyX7_ok 14 (by decide)) (vl_null (by decide)).symm rfl rfl ha rfl rfl ?_
    refine tn_aload_n dX7_openCall_24 rfl 0 rfl ?_
    obtain ⟨hk19, hl20⟩ : AR T xa 15 9 9 := ar_of (wf_59 hw ha) hxa
    have hk19i : IA T xa := by unfold IA; omega
    refine tn_getR (ci := 7) (i := 4) (n := 59) (x := xa) dX7_openCall_25 rfl lay_7 (by decide) fl7_9 ha rfl rfl (rc_o (by decide) (rc_o (by decide) (rc_o (by decide) (hxa)))) ?_
    refine tn_iload_n dX7_openCall_28 rfl 1 rfl ?_
    refine tn_iload_n dX7_openCall_29 rfl 2 rfl ?_
    refine tn_callSN (M := m_X7_openCall) (pc := 30) (ix := 61) (M' := m_X11_put) (As := [.ref xa, .int (iI c), .int (iI r)]) (rest := []) dX7_openCall_30 ok_X11_put stt_X11_put nl7_61 np_X11_put rfl (Nat.le_of_ble_eq_true rfl) (Nat.le_of_ble_eq_true rfl) rfl (k_X11_put_15 (d + 1) (T := T) (σ := (sA 69 a (-1) (sA 58 a (w32 ((σ.2.1 58 a) + 1)) (sA 57 a (c) σ)))) (x := xa) (i := c) (y := r) hk19i (by omega) hk19 (by omega) (by omega) (((hw.put (by decide) (by decide) (fo_57 ⟨by omega, by omega⟩)).put (by decide) (by decide) (fo_58 (by omega))).put (by decide) (by decide) (fo_69 (Or.inl (by decide)))) ) (fun r21 T23 σ22 gt24 hp => ?_)
    obtain ⟨rfl, rfl, w27, F28, f25⟩ := hp
    clear gt24
    have je29 : σ22 = jP T xa (c) (r) _ := f25
    show Tn _ _ 33 T σ22 [(0, .ref a), (1, .int (iI c)), (2, .int (iI r))] [] _
    refine tn_aload_n dX7_openCall_33 rfl 0 rfl ?_
    obtain ⟨hk32, hl33⟩ : AR T xb 1 9 9 := ar_of (wf_60 hw ha) hxb
    have hk32i : IA T xb := by unfold IA; omega
    refine tn_getR (ci := 7) (i := 5) (n := 60) (x := xb) dX7_openCall_34 rfl lay_7 (by decide) fl7_15 ha rfl rfl (rc_F F28 (Or.inl (by decide)) (by decide) (rc_o (by decide) (rc_o (by decide) (rc_o (by decide) (hxb))))) ?_
    refine tn_iload_n dX7_openCall_37 rfl 1 rfl ?_
    refine tn_iconst dX7_openCall_38 ?_
    refine tn_callSN (M := m_X7_openCall) (pc := 39) (ix := 61) (M' := m_X11_put) (As := [.ref xb, .int (iI c), .int (iI 0)]) (rest := []) dX7_openCall_39 ok_X11_put stt_X11_put nl7_61 np_X11_put rfl (Nat.le_of_ble_eq_true rfl) (Nat.le_of_ble_eq_true rfl) rfl (k_X11_put_x (d + 1) (T := T) (σ := σ22) (x := xb) (i := c) (y := 0) hk32i (by omega) (by omega) (by decide) w27 (nh_k hk32 (by unfold HT; omega)) vok_0) (fun r34 T36 σ35 gt37 hp => ?_)
    obtain ⟨rfl, rfl, w41, F42, f38, f39⟩ := hp
    clear gt37
    have je43 : σ35 = jP T xb (c) (0) _ := f39
    show Tn _ _ 42 T σ35 [(0, .ref a), (1, .int (iI c)), (2, .int (iI r))] [] _
    refine tn_aload_n dX7_openCall_42 rfl 0 rfl ?_
    obtain ⟨hl47, hk46a, hk46b⟩ := ex_at (wf_61 hw ha) hxc
    have hk46 : (T xc).1 = 1 := hk46b (by omega)
    clear hk46a hk46b
    have hk46i : IA T xc := by unfold IA; omega
    refine tn_getR (ci := 7) (i := 6) (n := 61) (x := xc) dX7_openCall_43 rfl lay_7 (by decide) fl7_18 ha rfl rfl (rc_F F42 (Or.inl (by decide)) (by decide) (rc_F F28 (Or.inl (by decide)) (by decide) (rc_o (by decide) (rc_o (by decide) (rc_o (by decide) (hxc)))))) ?_
    refine tn_iload_n dX7_openCall_46 rfl 1 rfl ?_
    refine tn_iconst dX7_openCall_47 ?_
    refine tn_callSN (M := m_X7_openCall) (pc := 48) (ix := 61) (M' := m_X11_put) (As := [.ref xc, .int (iI c), .int (iI 0)]) (rest := []) dX7_openCall_48 ok_X11_put stt_X11_put nl7_61 np_X11_put rfl (Nat.le_of_ble_eq_true rfl) (Nat.le_of_ble_eq_true rfl) rfl (k_X11_put_x (d + 1) (T := T) (σ := σ35) (x := xc) (i := c) (y := 0) hk46i (by omega) (by omega) (by decide) w41 (nh_k hk46 (by unfold HT; omega)) vok_0) (fun r48 T50 σ49 gt51 hp => ?_)
    obtain ⟨rfl, rfl, w55, F56, f52, f53⟩ := hp
    clear gt51
    have je57 : σ49 = jP T xc (c) (0) _ := f53
    show Tn _ _ 51 T σ49 [(0, .ref a), (1, .int (iI c)), (2, .int (iI r))] [] _
    refine tn_aload_n dX7_openCall_51 rfl 0 rfl ?_
    obtain ⟨hk60, hl61⟩ : AR T xd 1 108 108 := ar_of (wf_62 hw ha) hxd
    have hk60i : IA T xd := by unfold IA; omega
    refine tn_getR (ci := 7) (i := 7) (n := 62) (x := xd) dX7_openCall_52 rfl lay_7 (by decide) fl7_21 ha rfl rfl (rc_F F56 (Or.inl (by decide)) (by decide) (rc_F F42 (Or.inl (by decide)) (by decide) (rc_F F28 (Or.inl (by decide)) (by decide) (rc_o (by decide) (rc_o (by decide) (rc_o (by decide) (hxd))))))) ?_
    refine tn_iload_n dX7_openCall_55 rfl 1 rfl ?_
    refine tn_bipush dX7_openCall_56 (by decide) ?_
    refine tn_imul dX7_openCall_58 ?_
    refine tn_iconst dX7_openCall_59 ?_
    refine tn_callSN (M := m_X7_openCall) (pc := 60) (ix := 61) (M' := m_X11_put) (As := [.ref xd, .int (iI (c * 12)), .int (iI 0)]) (rest := []) dX7_openCall_60 ok_X11_put stt_X11_put nl7_61 np_X11_put rfl (Nat.le_of_ble_eq_true rfl) (Nat.le_of_ble_eq_true rfl) rfl (k_X11_put_x (d + 1) (T := T) (σ := σ49) (x := xd) (i := c * 12) (y := 0) hk60i (by omega) (by omega) (by decide) w55 (nh_k hk60 (by unfold HT; omega)) vok_0) (fun r62 T64 σ63 gt65 hp => ?_)
    obtain ⟨rfl, rfl, w69, F70, f66, f67⟩ := hp
    clear gt65
    have je71 : σ63 = jP T xd (c * 12) (0) _ := f67
    show Tn _ _ 63 T σ63 [(0, .ref a), (1, .int (iI c)), (2, .int (iI r))] [] _
    refine tn_iload_n dX7_openCall_63 rfl 1 rfl ?_
    refine tn_sipush dX7_openCall_64 (by decide) ?_
    refine tn_imul dX7_openCall_67 ?_
    refine tn_istore_n (L' := [(3, .int (iI (c * 192))), (0, .ref a), (1, .int (iI c)), (2, .int (iI r))]) dX7_openCall_68 rfl (by decide) rfl ?_
    refine tn_iload_n dX7_openCall_69 rfl 0 rfl ?_
    refine tn_if_lt (tgt := 100) dX7_openCall_70 (by decide) ⟨by omega, by omega⟩ (fun h72 => absurd h72 (by omega)) (fun h72 => ?_)
    refine tn_iload_n dX7_openCall_73 rfl 0 rfl ?_
    refine tn_sipush dX7_openCall_74 (by decide) ?_
    refine tn_iadd dX7_openCall_77 ?_
    refine tn_aload_n dX7_openCall_78 rfl 1 rfl ?_
    obtain ⟨hk75, hl76⟩ : AR T xe 1 1728 1728 := ar_of (wf_63 hw ha) hxe
    have hk75i : IA T xe := by unfold IA; omega
    refine tn_getR (ci := 7) (i := 8) (n := 63) (x := xe) dX7_openCall_79 rfl lay_7 (by decide) fl7_24 ha rfl rfl (rc_F F70 (Or.inl (by decide)) (by decide) (rc_F F56 (Or.inl (by decide)) (by decide) (rc_F F42 (Or.inl (by decide)) (by decide) (rc_F F28 (Or.inl (by decide)) (by decide) (rc_o (by decide) (rc_o (by decide) (rc_o (by decide) (hxe)))))))) ?_
    refine tn_alenX dX7_openCall_82 (Or.inl hk75i) ?_
    refine tn_icmp_gt (tgt := 100) dX7_openCall_83 (by decide) ⟨by omega, by omega⟩ ⟨by omega, by omega⟩ (fun h77 => ?_) (fun h77 => ?_)
    · have q78 : σ63.2.1 57 a = c := rc_F F70 (Or.inl (by decide)) (by decide) (rc_F F56 (Or.inl (by decide)) (by decide) (rc_F F42 (Or.inl (by decide)) (by decide) (rc_F F28 (Or.inl (by decide)) (by decide) (rc_o (by decide) (rc_o (by decide) (ra_eq))))))
      exact tn_vret rfl dX7_openCall_100 ⟨rfl, rfl, w69, (((((((FrC.rfl.put (by decide) (by decide)).put (by decide) (by decide)).put (by decide) (by decide)).trans (FrC.sub F28 (by decide))).trans (FrC.sub F42 (by decide))).trans (FrC.sub F56 (by decide))).trans (FrC.sub F70 (by decide))), (((((((CHX.rfl.fld (by simp) (by decide)).fld (by simp) (by decide)).fld (by simp) (by decide)).trans (CHX.sub (chx_put f25) (by simp) (by simp) (by simp))).trans (CHX.sub f38 (by simp) (by simp) (by simp))).trans (CHX.sub f52 (by simp) (by simp) (by simp))).trans (CHX.sub f66 (by simp) (by simp) (by simp))), by omega, ⟨-1, _, Or.inr ⟨by rw [← f12]; assumption, rfl⟩, by rw [je71, je57, je43, je29], Or.inl ⟨by omega, rfl⟩⟩, (((((((FA.rfl.put).put).put).trans (FA.of F28 (by decide))).trans (FA.of F42 (by decide))).trans (FA.of F56 (by decide))).trans (FA.of F70 (by decide)))⟩
    · refine tn_aload_n dX7_openCall_86 rfl 1 rfl ?_
      refine tn_getR (ci := 7) (i := 8) (n := 63) (x := xe) dX7_openCall_87 rfl lay_7 (by decide) fl7_24 ha rfl rfl (rc_F F70 (Or.inl (by decide)) (by decide) (rc_F F56 (Or.inl (by decide)) (by decide) (rc_F F42 (Or.inl (by decide)) (by decide) (rc_F F28 (Or.inl (by decide)) (by decide) (rc_o (by decide) (rc_o (by decide) (rc_o (by decide) (hxe)))))))) ?_
      refine tn_iload_n dX7_openCall_90 rfl 0 rfl ?_
      refine tn_iload_n dX7_openCall_91 rfl 0 rfl ?_
      refine tn_sipush dX7_openCall_92 (by decide) ?_
      refine tn_iadd dX7_openCall_95 ?_
      refine tn_iconst dX7_openCall_96 ?_
      refine tn_callS (M := m_X7_openCall) (pc := 97) (ix := 76) (M' := m_J7_fill_fda19) (As := [.ref xe, .int (iI (c * 192)), .int (iI ((c * 192) + 192)), .int (iI 0)]) (rest := []) dX7_openCall_97 ok_J7_fill_fda19 stt_J7_fill_fda19 ml7_76 np_J7_fill_fda19 rfl (Nat.le_of_ble_eq_true rfl) (Nat.le_of_ble_eq_true rfl) rfl (k_J7_fill_fda19_x (d) (T := T) (σ := σ63) (x := xe) (f := c * 192) (t := (c * 192) + 192) (y := 0) hk75i (by omega) (by omega) (by omega) (by decide) w69 (nh_k hk75 (by unfold HT; omega)) (by omega) (by omega)) (fun r79 T81 σ80 gt82 hp => ?_)
      obtain ⟨rfl, rfl, w86, F87, f83, f84⟩ := hp
      clear gt82
      show Tn _ _ 100 T σ80 [(3, .int (iI (c * 192))), (0, .ref a), (1, .int (iI c)), (2, .int (iI r))] [] _
      have q88 : σ80.2.1 57 a = c := rc_F F87 (Or.inl (by decide)) (by decide) (rc_F F70 (Or.inl (by decide)) (by decide) (rc_F F56 (Or.inl (by decide)) (by decide) (rc_F F42 (Or.inl (by decide)) (by decide) (rc_F F28 (Or.inl (by decide)) (by decide) (rc_o (by decide) (rc_o (by decide) (ra_eq)))))))
      exact tn_vret rfl dX7_openCall_100 ⟨rfl, rfl, w86, ((((((((FrC.rfl.put (by decide) (by decide)).put (by decide) (by decide)).put (by decide) (by decide)).trans (FrC.sub F28 (by decide))).trans (FrC.sub F42 (by decide))).trans (FrC.sub F56 (by decide))).trans (FrC.sub F70 (by decide))).trans (FrC.sub F87 (by decide))), ((((((((CHX.rfl.fld (by simp) (by decide)).fld (by simp) (by decide)).fld (by simp) (by decide)).trans (CHX.sub (chx_put f25) (by simp) (by simp) (by simp))).trans (CHX.sub f38 (by simp) (by simp) (by simp))).trans (CHX.sub f52 (by simp) (by simp) (by simp))).trans (CHX.sub f66 (by simp) (by simp) (by simp))).trans (CHX.sub f83 (by simp) (by simp) (by simp))), by omega, ⟨-1, _, Or.inr ⟨by rw [← f12]; assumption, rfl⟩, by rw [je71, je57, je43, je29], Or.inr ⟨by omega, f84, f83⟩⟩, ((((((((FA.rfl.put).put).put).trans (FA.of F28 (by decide))).trans (FA.of F42 (by decide))).trans (FA.of F56 (by decide))).trans (FA.of F70 (by decide))).trans (FA.of F87 (by decide)))⟩
  · show Tn _ _ 21 T (sA 58 a (w32 ((σ.2.1 58 a) + 1)) (sA 57 a (c) σ)) [(0, .ref a), (1, .int (iI c)), (2, .int (iI r))] (vl true (xq15 : Int) :: [.ref a]) _
    rw [vl_ref rfl]
    have hk16o : OB T xq15 1 := hk16.1
    refine tn_putV (ci := 7) (i := 14) (n := 69) (r := true) (v := (xq15 : Int)) tyX7 tyX7_ok nmX7 dX7_openCall_21 rfl lay_7 (by decide) fl7_72 rfl (tyX7_ok 14 (by decide)) (vl_ref rfl).symm rfl rfl ha rfl rfl ?_
    refine tn_aload_n dX7_openCall_24 rfl 0 rfl ?_
    obtain ⟨hk91, hl92⟩ : AR T xa 15 9 9 := ar_of (wf_59 hw ha) hxa
    have hk91i : IA T xa := by unfold IA; omega
    refine tn_getR (ci := 7) (i := 4) (n := 59) (x := xa) dX7_openCall_25 rfl lay_7 (by decide) fl7_9 ha rfl rfl (rc_o (by decide) (rc_o (by decide) (rc_o (by decide) (hxa)))) ?_
    refine tn_iload_n dX7_openCall_28 rfl 1 rfl ?_
    refine tn_iload_n dX7_openCall_29 rfl 2 rfl ?_
    refine tn_callSN (M := m_X7_openCall) (pc := 30) (ix := 61) (M' := m_X11_put) (As := [.ref xa, .int (iI c), .int (iI r)]) (rest := []) dX7_openCall_30 ok_X11_put stt_X11_put nl7_61 np_X11_put rfl (Nat.le_of_ble_eq_true rfl) (Nat.le_of_ble_eq_true rfl) rfl (k_X11_put_15 (d + 1) (T := T) (σ := (sA 69 a ((xq15 : Int)) (sA 58 a (w32 ((σ.2.1 58 a) + 1)) (sA 57 a (c) σ)))) (x := xa) (i := c) (y := r) hk91i (by omega) hk91 (by omega) (by omega) (((hw.put (by decide) (by decide) (fo_57 ⟨by omega, by omega⟩)).put (by decide) (by decide) (fo_58 (by omega))).put (by decide) (by decide) (fo_69 (Or.inr ⟨_, rfl, hk16.2.1, hk16.2.2⟩))) ) (fun r93 T95 σ94 gt96 hp => ?_)
    obtain ⟨rfl, rfl, w99, F100, f97⟩ := hp
    clear gt96
    have je101 : σ94 = jP T xa (c) (r) _ := f97
    show Tn _ _ 33 T σ94 [(0, .ref a), (1, .int (iI c)), (2, .int (iI r))] [] _
    refine tn_aload_n dX7_openCall_33 rfl 0 rfl ?_
    obtain ⟨hk104, hl105⟩ : AR T xb 1 9 9 := ar_of (wf_60 hw ha) hxb
    have hk104i : IA T xb := by unfold IA; omega
    refine tn_getR (ci := 7) (i := 5) (n := 60) (x := xb) dX7_openCall_34 rfl lay_7 (by decide) fl7_15 ha rfl rfl (rc_F F100 (Or.inl (by decide)) (by decide) (rc_o (by decide) (rc_o (by decide) (rc_o (by decide) (hxb))))) ?_
    refine tn_iload_n dX7_openCall_37 rfl 1 rfl ?_
    refine tn_iconst dX7_openCall_38 ?_
    refine tn_callSN (M := m_X7_openCall) (pc := 39) (ix := 61) (M' := m_X11_put) (As := [.ref xb, .int (iI c), .int (iI 0)]) (rest := []) dX7_openCall_39 ok_X11_put stt_X11_put nl7_61 np_X11_put rfl (Nat.le_of_ble_eq_true rfl) (Nat.le_of_ble_eq_true rfl) rfl (k_X11_put_x (d + 1) (T := T) (σ := σ94) (x := xb) (i := c) (y := 0) hk104i (by omega) (by omega) (by decide) w99 (nh_k hk104 (by unfold HT; omega)) vok_0) (fun r106 T108 σ107 gt109 hp => ?_)
    obtain ⟨rfl, rfl, w113, F114, f110, f111⟩ := hp
    clear gt109
    have je115 : σ107 = jP T xb (c) (0) _ := f111
    show Tn _ _ 42 T σ107 [(0, .ref a), (1, .int (iI c)), (2, .int (iI r))] [] _
    refine tn_aload_n dX7_openCall_42 rfl 0 rfl ?_
    obtain ⟨hl119, hk118a, hk118b⟩ := ex_at (wf_61 hw ha) hxc
    have hk118 : (T xc).1 = 1 := hk118b (by omega)
    clear hk118a hk118b
    have hk118i : IA T xc := by unfold IA; omega
    refine tn_getR (ci := 7) (i := 6) (n := 61) (x := xc) dX7_openCall_43 rfl lay_7 (by decide) fl7_18 ha rfl rfl (rc_F F114 (Or.inl (by decide)) (by decide) (rc_F F100 (Or.inl (by decide)) (by decide) (rc_o (by decide) (rc_o (by decide) (rc_o (by decide) (hxc)))))) ?_
    refine tn_iload_n dX7_openCall_46 rfl 1 rfl ?_
    refine tn_iconst dX7_openCall_47 ?_
    refine tn_callSN (M := m_X7_openCall) (pc := 48) (ix := 61) (M' := m_X11_put) (As := [.ref xc, .int (iI c), .int (iI 0)]) (rest := []) dX7_openCall_48 ok_X11_put stt_X11_put nl7_61 np_X11_put rfl (Nat.le_of_ble_eq_true rfl) (Nat.le_of_ble_eq_true rfl) rfl (k_X11_put_x (d + 1) (T := T) (σ := σ107) (x := xc) (i := c) (y := 0) hk118i (by omega) (by omega) (by decide) w113 (nh_k hk118 (by unfold HT; omega)) vok_0) (fun r120 T122 σ121 gt123 hp => ?_)
    obtain ⟨rfl, rfl, w127, F128, f124, f125⟩ := hp
    clear gt123
    have je129 : σ121 = jP T xc (c) (0) _ := f125
    show Tn _ _ 51 T σ121 [(0, .ref a), (1, .int (iI c)), (2, .int (iI r))] [] _
    refine tn_aload_n dX7_openCall_51 rfl 0 rfl ?_
    obtain ⟨hk132, hl133⟩ : AR T xd 1 108 108 := ar_of (wf_62 hw ha) hxd
    have hk132i : IA T xd := by unfold IA; omega
    refine tn_getR (ci := 7) (i := 7) (n := 62) (x := xd) dX7_openCall_52 rfl lay_7 (by decide) fl7_21 ha rfl rfl (rc_F F128 (Or.inl (by decide)) (by decide) (rc_F F114 (Or.inl (by decide)) (by decide) (rc_F F100 (Or.inl (by decide)) (by decide) (rc_o (by decide) (rc_o (by decide) (rc_o (by decide) (hxd))))))) ?_
    refine tn_iload_n dX7_openCall_55 rfl 1 rfl ?_
    refine tn_bipush dX7_openCall_56 (by decide) ?_
    refine tn_imul dX7_openCall_58 ?_
    refine tn_iconst dX7_openCall_59 ?_
    refine tn_callSN (M := m_X7_openCall) (pc := 60) (ix := 61) (M' := m_X11_put) (As := [.ref xd, .int (iI (c * 12)), .int (iI 0)]) (rest := []) dX7_openCall_60 ok_X11_put stt_X11_put nl7_61 np_X11_put rfl (Nat.le_of_ble_eq_true rfl) (Nat.le_of_ble_eq_true rfl) rfl (k_X11_put_x (d + 1) (T := T) (σ := σ121) (x := xd) (i := c * 12) (y := 0) hk132i (by omega) (by omega) (by decide) w127 (nh_k hk132 (by unfold HT; omega)) vok_0) (fun r134 T136 σ135 gt137 hp => ?_)
    obtain ⟨rfl, rfl, w141, F142, f138, f139⟩ := hp
    clear gt137
    have je143 : σ135 = jP T xd (c * 12) (0) _ := f139
    show Tn _ _ 63 T σ135 [(0, .ref a), (1, .int (iI c)), (2, .int (iI r))] [] _
    refine tn_iload_n dX7_openCall_63 rfl 1 rfl ?_
    refine tn_sipush dX7_openCall_64 (by decide) ?_
    refine tn_imul dX7_openCall_67 ?_
    refine tn_istore_n (L' := [(3, .int (iI (c * 192))), (0, .ref a), (1, .int (iI c)), (2, .int (iI r))]) dX7_openCall_68 rfl (by decide) rfl ?_
    refine tn_iload_n dX7_openCall_69 rfl 0 rfl ?_
    refine tn_if_lt (tgt := 100) dX7_openCall_70 (by decide) ⟨by omega, by omega⟩ (fun h144 => absurd h144 (by omega)) (fun h144 => ?_)
    refine tn_iload_n dX7_openCall_73 rfl 0 rfl ?_
    refine tn_sipush dX7_openCall_74 (by decide) ?_
    refine tn_iadd dX7_openCall_77 ?_
    refine tn_aload_n dX7_openCall_78 rfl 1 rfl ?_
    obtain ⟨hk147, hl148⟩ : AR T xe 1 1728 1728 := ar_of (wf_63 hw ha) hxe
    have hk147i : IA T xe := by unfold IA; omega
    refine tn_getR (ci := 7) (i := 8) (n := 63) (x := xe) dX7_openCall_79 rfl lay_7 (by decide) fl7_24 ha rfl rfl (rc_F F142 (Or.inl (by decide)) (by decide) (rc_F F128 (Or.inl (by decide)) (by decide) (rc_F F114 (Or.inl (by decide)) (by decide) (rc_F F100 (Or.inl (by decide)) (by decide) (rc_o (by decide) (rc_o (by decide) (rc_o (by decide) (hxe)))))))) ?_
    refine tn_alenX dX7_openCall_82 (Or.inl hk147i) ?_
    refine tn_icmp_gt (tgt := 100) dX7_openCall_83 (by decide) ⟨by omega, by omega⟩ ⟨by omega, by omega⟩ (fun h149 => ?_) (fun h149 => ?_)
    · have q150 : σ135.2.1 57 a = c := rc_F F142 (Or.inl (by decide)) (by decide) (rc_F F128 (Or.inl (by decide)) (by decide) (rc_F F114 (Or.inl (by decide)) (by decide) (rc_F F100 (Or.inl (by decide)) (by decide) (rc_o (by decide) (rc_o (by decide) (ra_eq))))))
      exact tn_vret rfl dX7_openCall_100 ⟨rfl, rfl, w141, (((((((FrC.rfl.put (by decide) (by decide)).put (by decide) (by decide)).put (by decide) (by decide)).trans (FrC.sub F100 (by decide))).trans (FrC.sub F114 (by decide))).trans (FrC.sub F128 (by decide))).trans (FrC.sub F142 (by decide))), (((((((CHX.rfl.fld (by simp) (by decide)).fld (by simp) (by decide)).fld (by simp) (by decide)).trans (CHX.sub (chx_put f97) (by simp) (by simp) (by simp))).trans (CHX.sub f110 (by simp) (by simp) (by simp))).trans (CHX.sub f124 (by simp) (by simp) (by simp))).trans (CHX.sub f138 (by simp) (by simp) (by simp))), by omega, ⟨(xq15 : Int), _, Or.inl f12, by rw [je143, je129, je115, je101], Or.inl ⟨by omega, rfl⟩⟩, (((((((FA.rfl.put).put).put).trans (FA.of F100 (by decide))).trans (FA.of F114 (by decide))).trans (FA.of F128 (by decide))).trans (FA.of F142 (by decide)))⟩
    · refine tn_aload_n dX7_openCall_86 rfl 1 rfl ?_
      refine tn_getR (ci := 7) (i := 8) (n := 63) (x := xe) dX7_openCall_87 rfl lay_7 (by decide) fl7_24 ha rfl rfl (rc_F F142 (Or.inl (by decide)) (by decide) (rc_F F128 (Or.inl (by decide)) (by decide) (rc_F F114 (Or.inl (by decide)) (by decide) (rc_F F100 (Or.inl (by decide)) (by decide) (rc_o (by decide) (rc_o (by decide) (rc_o (by decide) (hxe)))))))) ?_
      refine tn_iload_n dX7_openCall_90 rfl 0 rfl ?_
      refine tn_iload_n dX7_openCall_91 rfl 0 rfl ?_
      refine tn_sipush dX7_openCall_92 (by decide) ?_
      refine tn_iadd dX7_openCall_95 ?_
      refine tn_iconst dX7_openCall_96 ?_
      refine tn_callS (M := m_X7_openCall) (pc := 97) (ix := 76) (M' := m_J7_fill_fda19) (As := [.ref xe, .int (iI (c * 192)), .int (iI ((c * 192) + 192)), .int (iI 0)]) (rest := []) dX7_openCall_97 ok_J7_fill_fda19 stt_J7_fill_fda19 ml7_76 np_J7_fill_fda19 rfl (Nat.le_of_ble_eq_true rfl) (Nat.le_of_ble_eq_true rfl) rfl (k_J7_fill_fda19_x (d) (T := T) (σ := σ135) (x := xe) (f := c * 192) (t := (c * 192) + 192) (y := 0) hk147i (by omega) (by omega) (by omega) (by decide) w141 (nh_k hk147 (by unfold HT; omega)) (by omega) (by omega)) (fun r151 T153 σ152 gt154 hp => ?_)
      obtain ⟨rfl, rfl, w158, F159, f155, f156⟩ := hp
      clear gt154
      show Tn _ _ 100 T σ152 [(3, .int (iI (c * 192))), (0, .ref a), (1, .int (iI c)), (2, .int (iI r))] [] _
      have q160 : σ152.2.1 57 a = c := rc_F F159 (Or.inl (by decide)) (by decide) (rc_F F142 (Or.inl (by decide)) (by decide) (rc_F F128 (Or.inl (by decide)) (by decide) (rc_F F114 (Or.inl (by decide)) (by decide) (rc_F F100 (Or.inl (by decide)) (by decide) (rc_o (by decide) (rc_o (by decide) (ra_eq)))))))
      exact tn_vret rfl dX7_openCall_100 ⟨rfl, rfl, w158, ((((((((FrC.rfl.put (by decide) (by decide)).put (by decide) (by decide)).put (by decide) (by decide)).trans (FrC.sub F100 (by decide))).trans (FrC.sub F114 (by decide))).trans (FrC.sub F128 (by decide))).trans (FrC.sub F142 (by decide))).trans (FrC.sub F159 (by decide))), ((((((((CHX.rfl.fld (by simp) (by decide)).fld (by simp) (by decide)).fld (by simp) (by decide)).trans (CHX.sub (chx_put f97) (by simp) (by simp) (by simp))).trans (CHX.sub f110 (by simp) (by simp) (by simp))).trans (CHX.sub f124 (by simp) (by simp) (by simp))).trans (CHX.sub f138 (by simp) (by simp) (by simp))).trans (CHX.sub f155 (by simp) (by simp) (by simp))), by omega, ⟨(xq15 : Int), _, Or.inl f12, by rw [je143, je129, je115, je101], Or.inr ⟨by omega, f156, f155⟩⟩, ((((((((FA.rfl.put).put).put).trans (FA.of F100 (by decide))).trans (FA.of F114 (by decide))).trans (FA.of F128 (by decide))).trans (FA.of F142 (by decide))).trans (FA.of F159 (by decide)))⟩
end
section
set_option maxHeartbeats 1000000 in
set_option maxRecDepth 20000 in
theorem k_X11_reckon_j (d : Nat) {T : CT} {σ : MS} {k : Int} {x : Int} {y : Int} (h_k : -2147483648 ≤ k ∧ k ≤ 2147483647) (h_x : -2147483648 ≤ x ∧ x ≤ 2147483647) (h_y : -2147483648 ≤ y ∧ y ≤ 2147483647) (hw : WT T σ) : Tn (d + 1) m_X11_reckon 0 T σ [(0, .int (iI k)), (1, .int (iI x)), (2, .int (iI y))] [] (fun ro T2 σ2 => ∃ v : Int, ro = some (.int (iI v)) ∧ T = T2 ∧ σ = σ2 ∧ (-2147483648 ≤ v ∧ v ≤ 2147483647) ∧ (v = rkn k x y)) := by
  refine tn_iload_n dX11_reckon_0 rfl 0 rfl ?_
  by_cases h1 : k < 1 ∨ 5 < k
  · refine tn_tableOut (tgt := 70) dX11_reckon_1 (x := k) ⟨by omega, by omega⟩ h1 (by decide) ?_
    refine tn_iload_n dX11_reckon_70 rfl 1 rfl ?_
    exact tn_iret rfl dX11_reckon_71 ⟨_, rfl, rfl, rfl, by omega, by unfold rkn; (first | (rw [if_neg (by omega)]; done) | (rw [if_pos (by omega)]; unfold wkd; (first | (rw [if_pos (by omega)]; done) | (rw [if_neg (by omega), if_pos (by omega)]; done) | (rw [if_neg (by omega), if_neg (by omega), if_pos (by omega)]; done) | (rw [if_neg (by omega), if_neg (by omega), if_neg (by omega), if_pos (by omega), if_pos (by omega)]; done) | (rw [if_neg (by omega), if_neg (by omega), if_neg (by omega), if_pos (by omega), if_neg (by omega)]; done) | (rw [if_neg (by omega), if_neg (by omega), if_neg (by omega), if_neg (by omega), if_pos (by omega)]; done) | (rw [if_neg (by omega), if_neg (by omega), if_neg (by omega), if_neg (by omega), if_neg (by omega)]; done) | (exfalso; omega))))⟩
  · have h2 : k = 1 ∨ k = 2 ∨ k = 3 ∨ k = 4 ∨ k = 5 := by omega
    rcases h2 with h2 | h2 | h2 | h2 | h2
    · refine tn_tableIn (tgt := 36) (off := 35) dX11_reckon_1 (x := k) ⟨by omega, by omega⟩ (by omega) (by omega) (by rw [h2]; rfl) (by decide) ?_
      refine tn_iload_n dX11_reckon_36 rfl 1 rfl ?_
      refine tn_iload_n dX11_reckon_37 rfl 2 rfl ?_
      refine tn_iadd dX11_reckon_38 ?_
      rw [show iI (x + y) = iI (w32 (x + y)) from (iI_self _).symm]
      have g3r : -2147483648 ≤ w32 (x + y) ∧ w32 (x + y) ≤ 2147483647 := inR_toInt _
      exact tn_iret rfl dX11_reckon_39 ⟨_, rfl, rfl, rfl, by omega, by unfold rkn; (first | (rw [if_neg (by omega)]; done) | (rw [if_pos (by omega)]; unfold wkd; (first | (rw [if_pos (by omega)]; done) | (rw [if_neg (by omega), if_pos (by omega)]; done) | (rw [if_neg (by omega), if_neg (by omega), if_pos (by omega)]; done) | (rw [if_neg (by omega), if_neg (by omega), if_neg (by omega), if_pos (by omega), if_pos (by omega)]; done) | (rw [if_neg (by omega), if_neg (by omega), if_neg (by omega), if_pos (by omega), if_neg (by omega)]; done) | (rw [if_neg (by omega), if_neg (by omega), if_neg (by omega), if_neg (by omega), if_pos (by omega)]; done) | (rw [if_neg (by omega), if_neg (by omega), if_neg (by omega), if_neg (by omega), if_neg (by omega)]; done) | (exfalso; omega))))⟩
    · refine tn_tableIn (tgt := 40) (off := 39) dX11_reckon_1 (x := k) ⟨by omega, by omega⟩ (by omega) (by omega) (by rw [h2]; rfl) (by decide) ?_
      refine tn_iload_n dX11_reckon_40 rfl 1 rfl ?_
      refine tn_iload_n dX11_reckon_41 rfl 2 rfl ?_
      refine tn_isub dX11_reckon_42 ?_
      rw [show iI (x - y) = iI (w32 (x - y)) from (iI_self _).symm]
      have g4r : -2147483648 ≤ w32 (x - y) ∧ w32 (x - y) ≤ 2147483647 := inR_toInt _
      exact tn_iret rfl dX11_reckon_43 ⟨_, rfl, rfl, rfl, by omega, by unfold rkn; (first | (rw [if_neg (by omega)]; done) | (rw [if_pos (by omega)]; unfold wkd; (first | (rw [if_pos (by omega)]; done) | (rw [if_neg (by omega), if_pos (by omega)]; done) | (rw [if_neg (by omega), if_neg (by omega), if_pos (by omega)]; done) | (rw [if_neg (by omega), if_neg (by omega), if_neg (by omega), if_pos (by omega), if_pos (by omega)]; done) | (rw [if_neg (by omega), if_neg (by omega), if_neg (by omega), if_pos (by omega), if_neg (by omega)]; done) | (rw [if_neg (by omega), if_neg (by omega), if_neg (by omega), if_neg (by omega), if_pos (by omega)]; done) | (rw [if_neg (by omega), if_neg (by omega), if_neg (by omega), if_neg (by omega), if_neg (by omega)]; done) | (exfalso; omega))))⟩
    · refine tn_tableIn (tgt := 44) (off := 43) dX11_reckon_1 (x := k) ⟨by omega, by omega⟩ (by omega) (by omega) (by rw [h2]; rfl) (by decide) ?_
      refine tn_iload_n dX11_reckon_44 rfl 1 rfl ?_
      refine tn_iload_n dX11_reckon_45 rfl 2 rfl ?_
      refine tn_imul dX11_reckon_46 ?_
      rw [show iI (x * y) = iI (w32 (x * y)) from (iI_self _).symm]
      have g5r : -2147483648 ≤ w32 (x * y) ∧ w32 (x * y) ≤ 2147483647 := inR_toInt _
      exact tn_iret rfl dX11_reckon_47 ⟨_, rfl, rfl, rfl, by omega, by unfold rkn; (first | (rw [if_neg (by omega)]; done) | (rw [if_pos (by omega)]; unfold wkd; (first | (rw [if_pos (by omega)]; done) | (rw [if_neg (by omega), if_pos (by omega)]; done) | (rw [if_neg (by omega), if_neg (by omega), if_pos (by omega)]; done) | (rw [if_neg (by omega), if_neg (by omega), if_neg (by omega), if_pos (by omega), if_pos (by omega)]; done) | (rw [if_neg (by omega), if_neg (by omega), if_neg (by omega), if_pos (by omega), if_neg (by omega)]; done) | (rw [if_neg (by omega), if_neg (by omega), if_neg (by omega), if_neg (by omega), if_pos (by omega)]; done) | (rw [if_neg (by omega), if_neg (by omega), if_neg (by omega), if_neg (by omega), if_neg (by omega)]; done) | (exfalso; omega))))⟩
    · refine tn_tableIn (tgt := 48) (off := 47) dX11_reckon_1 (x := k) ⟨by omega, by omega⟩ (by omega) (by omega) (by rw [h2]; rfl) (by decide) ?_
      refine tn_iload_n dX11_reckon_48 rfl 1 rfl ?_
      refine tn_iload_n dX11_reckon_49 rfl 2 rfl ?_
      refine tn_icmp_ne (tgt := 57) dX11_reckon_50 (by decide) ⟨by omega, by omega⟩ ⟨by omega, by omega⟩ (fun h6 => ?_) (fun h6 => ?_)
      · refine tn_iconst dX11_reckon_57 ?_
        exact tn_iret rfl dX11_reckon_58 ⟨_, rfl, rfl, rfl, by omega, by unfold rkn; (first | (rw [if_neg (by omega)]; done) | (rw [if_pos (by omega)]; unfold wkd; (first | (rw [if_pos (by omega)]; done) | (rw [if_neg (by omega), if_pos (by omega)]; done) | (rw [if_neg (by omega), if_neg (by omega), if_pos (by omega)]; done) | (rw [if_neg (by omega), if_neg (by omega), if_neg (by omega), if_pos (by omega), if_pos (by omega)]; done) | (rw [if_neg (by omega), if_neg (by omega), if_neg (by omega), if_pos (by omega), if_neg (by omega)]; done) | (rw [if_neg (by omega), if_neg (by omega), if_neg (by omega), if_neg (by omega), if_pos (by omega)]; done) | (rw [if_neg (by omega), if_neg (by omega), if_neg (by omega), if_neg (by omega), if_neg (by omega)]; done) | (exfalso; omega))))⟩
      · refine tn_iconst dX11_reckon_53 ?_
        refine tn_goto (tgt := 58) dX11_reckon_54 (by decide) ?_
        exact tn_iret rfl dX11_reckon_58 ⟨_, rfl, rfl, rfl, by omega, by unfold rkn; (first | (rw [if_neg (by omega)]; done) | (rw [if_pos (by omega)]; unfold wkd; (first | (rw [if_pos (by omega)]; done) | (rw [if_neg (by omega), if_pos (by omega)]; done) | (rw [if_neg (by omega), if_neg (by omega), if_pos (by omega)]; done) | (rw [if_neg (by omega), if_neg (by omega), if_neg (by omega), if_pos (by omega), if_pos (by omega)]; done) | (rw [if_neg (by omega), if_neg (by omega), if_neg (by omega), if_pos (by omega), if_neg (by omega)]; done) | (rw [if_neg (by omega), if_neg (by omega), if_neg (by omega), if_neg (by omega), if_pos (by omega)]; done) | (rw [if_neg (by omega), if_neg (by omega), if_neg (by omega), if_neg (by omega), if_neg (by omega)]; done) | (exfalso; omega))))⟩
    · refine tn_tableIn (tgt := 59) (off := 58) dX11_reckon_1 (x := k) ⟨by omega, by omega⟩ (by omega) (by omega) (by rw [h2]; rfl) (by decide) ?_
      refine tn_iload_n dX11_reckon_59 rfl 1 rfl ?_
      refine tn_iload_n dX11_reckon_60 rfl 2 rfl ?_
      refine tn_icmp_ge (tgt := 68) dX11_reckon_61 (by decide) ⟨by omega, by omega⟩ ⟨by omega, by omega⟩ (fun h7 => ?_) (fun h7 => ?_)
      · refine tn_iconst dX11_reckon_68 ?_
        exact tn_iret rfl dX11_reckon_69 ⟨_, rfl, rfl, rfl, by omega, by unfold rkn; (first | (rw [if_neg (by omega)]; done) | (rw [if_pos (by omega)]; unfold wkd; (first | (rw [if_pos (by omega)]; done) | (rw [if_neg (by omega), if_pos (by omega)]; done) | (rw [if_neg (by omega), if_neg (by omega), if_pos (by omega)]; done) | (rw [if_neg (by omega), if_neg (by omega), if_neg (by omega), if_pos (by omega), if_pos (by omega)]; done) | (rw [if_neg (by omega), if_neg (by omega), if_neg (by omega), if_pos (by omega), if_neg (by omega)]; done) | (rw [if_neg (by omega), if_neg (by omega), if_neg (by omega), if_neg (by omega), if_pos (by omega)]; done) | (rw [if_neg (by omega), if_neg (by omega), if_neg (by omega), if_neg (by omega), if_neg (by omega)]; done) | (exfalso; omega))))⟩
      · refine tn_iconst dX11_reckon_64 ?_
        refine tn_goto (tgt := 69) dX11_reckon_65 (by decide) ?_
        exact tn_iret rfl dX11_reckon_69 ⟨_, rfl, rfl, rfl, by omega, by unfold rkn; (first | (rw [if_neg (by omega)]; done) | (rw [if_pos (by omega)]; unfold wkd; (first | (rw [if_pos (by omega)]; done) | (rw [if_neg (by omega), if_pos (by omega)]; done) | (rw [if_neg (by omega), if_neg (by omega), if_pos (by omega)]; done) | (rw [if_neg (by omega), if_neg (by omega), if_neg (by omega), if_pos (by omega), if_pos (by omega)]; done) | (rw [if_neg (by omega), if_neg (by omega), if_neg (by omega), if_pos (by omega), if_neg (by omega)]; done) | (rw [if_neg (by omega), if_neg (by omega), if_neg (by omega), if_neg (by omega), if_pos (by omega)]; done) | (rw [if_neg (by omega), if_neg (by omega), if_neg (by omega), if_neg (by omega), if_neg (by omega)]; done) | (exfalso; omega))))⟩
end
section
set_option maxHeartbeats 1000000 in
set_option maxRecDepth 20000 in
theorem k_X7_reckonAt_j (d : Nat) {T : CT} {σ : MS} {a : Nat} {k : Int} {e : Int} {xe : Nat} (ha : OB T a 7) (h_k : -2147483648 ≤ k ∧ k ≤ 2147483647) (h_e : -2147483648 ≤ e ∧ e ≤ 2147483647) (hw : WT T σ) (hxe : σ.2.1 63 a = (xe : Int)) (hn : 0 ≤ σ.2.1 69 a) : Tn (d + 3) m_X7_reckonAt 0 T σ [(0, .ref a), (1, .int (iI k)), (2, .int (iI e))] [] (fun ro T2 σ2 => ro = none ∧ T = T2 ∧ WT T2 σ2 ∧ FrC T [] σ σ2 ∧ (CHX [] [xe] [] σ σ2) ∧ (JRK T σ a xe k e σ2)) := by
  refine tn_iload_n dX7_reckonAt_0 rfl 2 rfl ?_
  refine tn_callSN (M := m_X7_reckonAt) (pc := 1) (ix := 132) (M' := m_X11_isPure) (As := [.int (iI e)]) (rest := []) dX7_reckonAt_1 ok_X11_isPure stt_X11_isPure nl7_132 np_X11_isPure rfl (Nat.le_of_ble_eq_true rfl) (Nat.le_of_ble_eq_true rfl) rfl (k_X11_isPure_x (d + 1) (T := T) (σ := σ) (k := e) (by omega) hw ) (fun r1 T3 σ2 gt4 hp => ?_)
  obtain ⟨v7, rfl, rfl, rfl, f5, f6⟩ := hp
  clear gt4
  show Tn _ _ 4 T σ [(0, .ref a), (1, .int (iI k)), (2, .int (iI e))] [.int (iI v7)] _
  refine tn_if_eq (tgt := 58) dX7_reckonAt_4 (by decide) ⟨by omega, by omega⟩ (fun h8 => ?_) (fun h8 => ?_)
  · exact tn_vret rfl dX7_reckonAt_58 ⟨rfl, rfl, hw, FrC.rfl, CHX.rfl, Or.inl ⟨by omega, rfl⟩⟩
  · refine tn_iload_n dX7_reckonAt_7 rfl 2 rfl ?_
    refine tn_if_ne (tgt := 15) dX7_reckonAt_8 (by decide) ⟨by omega, by omega⟩ (fun h9 => ?_) (fun h9 => ?_)
    · refine tn_aload_n dX7_reckonAt_15 rfl 0 rfl ?_
      refine tn_iload_n dX7_reckonAt_16 rfl 1 rfl ?_
      refine tn_iconst dX7_reckonAt_17 ?_
      obtain ⟨hk12, hl13⟩ : AR T xe 1 1728 1728 := ar_of (wf_63 hw ha) hxe
      have hk12i : IA T xe := by unfold IA; omega
      refine tn_callV (M := m_X7_reckonAt) (pc := 18) (ix := 110) (ci := 7) (M' := m_X7_operand) (As := [.int (iI k), .int (iI 5)]) (rest := []) dX7_reckonAt_18 ok_X7_operand im_X7_operand se_X7_operand ml7_110 np_X7_operand rfl rfl ha rfl (Nat.le_of_ble_eq_true rfl) (Nat.le_of_ble_eq_true rfl) rfl (k_X7_operand_j (d) (T := T) (σ := σ) (a := a) (k := k) (c := 5) (xe := xe) ha (by omega) (by decide) hw (hxe) (by rw [show σ.2.1 69 a = σ.2.1 69 a from rfl]; exact hn) (by omega)) (fun r14 T16 σ15 gt17 hp => ?_)
      obtain ⟨v20, rfl, rfl, rfl, f18, f19⟩ := hp
      clear gt17
      show Tn _ _ 21 T σ [(0, .ref a), (1, .int (iI k)), (2, .int (iI e))] [.int (iI v20)] _
      refine tn_istore_n (L' := [(3, .int (iI v20)), (0, .ref a), (1, .int (iI k)), (2, .int (iI e))]) dX7_reckonAt_21 rfl (by decide) rfl ?_
      refine tn_aload_n dX7_reckonAt_22 rfl 1 rfl ?_
      refine tn_getR (ci := 7) (i := 8) (n := 63) (x := xe) dX7_reckonAt_23 rfl lay_7 (by decide) fl7_24 ha rfl rfl (hxe) ?_
      refine tn_aload_n dX7_reckonAt_26 rfl 1 rfl ?_
      refine tn_getI (ci := 7) (i := 2) (n := 57) (t := σ.2.1 57 a) dX7_reckonAt_27 rfl lay_7 (by decide) fl7_65 ha rfl rfl (rfl) ?_
      have g21 : ((0 : Int) ≤ σ.2.1 57 a ∧ σ.2.1 57 a ≤ 11184800) ∧ ((T a).1 = 57 → σ.2.1 57 a ≤ 8) := wf_57 hw ha
      have g21x := g21.2
      replace g21 := g21.1
      clear g21x
      refine tn_sipush dX7_reckonAt_30 (by decide) ?_
      refine tn_imul dX7_reckonAt_33 ?_
      refine tn_aload_n dX7_reckonAt_34 rfl 1 rfl ?_
      obtain ⟨xq26, hx27, hk28a, hk28b⟩ := (wf_69 hw ha).resolve_left (by have q9 := hn; omega)
      have hk28o : OB T xq26 1 := (show RC T a xq26 from ⟨hk28a, hk28b⟩).ob
      clear hk28a hk28b
      refine tn_getR (ci := 7) (i := 14) (n := 69) (x := xq26) dX7_reckonAt_35 rfl lay_7 (by decide) fl7_72 ha rfl rfl (hx27) ?_
      refine tn_iload_n dX7_reckonAt_38 rfl 2 rfl ?_
      refine tn_iconst dX7_reckonAt_39 ?_
      obtain ⟨xq29, hx30, hl32, hk31a, hk31b⟩ := wf_5 hw hk28o
      have hk31i : IA T xq29 := by unfold IA; omega
      have hk31c : CELL T xq26 xq29 := ⟨hk31a, hk31b⟩
      clear hk31a hk31b
      refine tn_callV (M := m_X7_reckonAt) (pc := 40) (ix := 117) (ci := 1) (M' := m_X1_get) (As := [.int (iI k), .int (iI 1)]) (rest := [.int (iI ((σ.2.1 57 a) * 192)), .ref xe]) dX7_reckonAt_40 ok_X1_get im_X1_get se_X1_get ml7_117 np_X1_get rfl rfl hk28o rfl (Nat.le_of_ble_eq_true rfl) (Nat.le_of_ble_eq_true rfl) rfl (k_X1_get_j (d + 1) (T := T) (σ := σ) (a := xq26) (k := k) (c := 1) (x := xq29) hk28o (by omega) (by decide) hw (hx30) (by omega)) (fun r33 T35 σ34 gt36 hp => ?_)
      obtain ⟨v39, rfl, rfl, rfl, f37, f38⟩ := hp
      clear gt36
      show Tn _ _ 43 T σ [(3, .int (iI v20)), (0, .ref a), (1, .int (iI k)), (2, .int (iI e))] [.int (iI v39), .int (iI ((σ.2.1 57 a) * 192)), .ref xe] _
      refine tn_iadd dX7_reckonAt_43 ?_
      rw [show iI (((σ.2.1 57 a) * 192) + v39) = iI (w32 (((σ.2.1 57 a) * 192) + v39)) from (iI_self _).symm]
      have g40r : -2147483648 ≤ w32 (((σ.2.1 57 a) * 192) + v39) ∧ w32 (((σ.2.1 57 a) * 192) + v39) ≤ 2147483647 := inR_toInt _
      refine tn_iload_n dX7_reckonAt_44 rfl 3 rfl ?_
      refine tn_aload_n dX7_reckonAt_45 rfl 1 rfl ?_
      refine tn_iload_n dX7_reckonAt_46 rfl 2 rfl ?_
      refine tn_iconst dX7_reckonAt_47 ?_
      refine tn_callV (M := m_X7_reckonAt) (pc := 48) (ix := 110) (ci := 7) (M' := m_X7_operand) (As := [.int (iI k), .int (iI 3)]) (rest := [.int (iI e), .int (iI (w32 (((σ.2.1 57 a) * 192) + v39))), .ref xe]) dX7_reckonAt_48 ok_X7_operand im_X7_operand se_X7_operand ml7_110 np_X7_operand rfl rfl ha rfl (Nat.le_of_ble_eq_true rfl) (Nat.le_of_ble_eq_true rfl) rfl (k_X7_operand_j (d) (T := T) (σ := σ) (a := a) (k := k) (c := 3) (xe := xe) ha (by omega) (by decide) hw (hxe) (by rw [show σ.2.1 69 a = _ from hx27]; omega) (by omega)) (fun r41 T43 σ42 gt44 hp => ?_)
      obtain ⟨v47, rfl, rfl, rfl, f45, f46⟩ := hp
      clear gt44
      show Tn _ _ 51 T σ [(3, .int (iI v20)), (0, .ref a), (1, .int (iI k)), (2, .int (iI e))] [.int (iI v47), .int (iI e), .int (iI (w32 (((σ.2.1 57 a) * 192) + v39))), .ref xe] _
      refine tn_iload_n dX7_reckonAt_51 rfl 0 rfl ?_
      refine tn_callSN (M := m_X7_reckonAt) (pc := 52) (ix := 136) (M' := m_X11_reckon) (As := [.int (iI e), .int (iI v47), .int (iI v20)]) (rest := [.int (iI (w32 (((σ.2.1 57 a) * 192) + v39))), .ref xe]) dX7_reckonAt_52 ok_X11_reckon stt_X11_reckon nl7_136 np_X11_reckon rfl (Nat.le_of_ble_eq_true rfl) (Nat.le_of_ble_eq_true rfl) rfl (k_X11_reckon_j (d + 1) (T := T) (σ := σ) (k := e) (x := v47) (y := v20) (by omega) (by omega) (by omega) hw ) (fun r48 T50 σ49 gt51 hp => ?_)
      obtain ⟨v54, rfl, rfl, rfl, f52, f53⟩ := hp
      clear gt51
      show Tn _ _ 55 T σ [(3, .int (iI v20)), (0, .ref a), (1, .int (iI k)), (2, .int (iI e))] [.int (iI v54), .int (iI (w32 (((σ.2.1 57 a) * 192) + v39))), .ref xe] _
      refine tn_callSN (M := m_X7_reckonAt) (pc := 55) (ix := 61) (M' := m_X11_put) (As := [.ref xe, .int (iI (w32 (((σ.2.1 57 a) * 192) + v39))), .int (iI v54)]) (rest := []) dX7_reckonAt_55 ok_X11_put stt_X11_put nl7_61 np_X11_put rfl (Nat.le_of_ble_eq_true rfl) (Nat.le_of_ble_eq_true rfl) rfl (k_X11_put_x (d + 1) (T := T) (σ := σ) (x := xe) (i := w32 (((σ.2.1 57 a) * 192) + v39)) (y := v54) hk12i (by omega) (by omega) (by omega) hw (nh_k hk12 (by unfold HT; omega)) (vok_1 (by have q9 := hk12; omega) (by omega))) (fun r55 T57 σ56 gt58 hp => ?_)
      obtain ⟨rfl, rfl, w62, F63, f59, f60⟩ := hp
      clear gt58
      have je64 : σ56 = jP T xe (w32 (((σ.2.1 57 a) * 192) + v39)) (v54) _ := f60
      show Tn _ _ 58 T σ56 [(3, .int (iI v20)), (0, .ref a), (1, .int (iI k)), (2, .int (iI e))] [] _
      exact tn_vret rfl dX7_reckonAt_58 ⟨rfl, rfl, w62, (FrC.rfl.trans (FrC.sub F63 (by decide))), (CHX.rfl.trans (CHX.sub f59 (by simp) (by simp) (by simp))), Or.inr ⟨by omega, xq26, xq29, _, _, hx27, hx30, f46, Or.inr ⟨by omega, f19⟩, by rw [← f38, ← f53]; exact je64⟩⟩
    · refine tn_iconst dX7_reckonAt_11 ?_
      refine tn_goto (tgt := 21) dX7_reckonAt_12 (by decide) ?_
      refine tn_istore_n (L' := [(3, .int (iI 0)), (0, .ref a), (1, .int (iI k)), (2, .int (iI e))]) dX7_reckonAt_21 rfl (by decide) rfl ?_
      refine tn_aload_n dX7_reckonAt_22 rfl 1 rfl ?_
      obtain ⟨hk67, hl68⟩ : AR T xe 1 1728 1728 := ar_of (wf_63 hw ha) hxe
      have hk67i : IA T xe := by unfold IA; omega
      refine tn_getR (ci := 7) (i := 8) (n := 63) (x := xe) dX7_reckonAt_23 rfl lay_7 (by decide) fl7_24 ha rfl rfl (hxe) ?_
      refine tn_aload_n dX7_reckonAt_26 rfl 1 rfl ?_
      refine tn_getI (ci := 7) (i := 2) (n := 57) (t := σ.2.1 57 a) dX7_reckonAt_27 rfl lay_7 (by decide) fl7_65 ha rfl rfl (rfl) ?_
      have g69 : ((0 : Int) ≤ σ.2.1 57 a ∧ σ.2.1 57 a ≤ 11184800) ∧ ((T a).1 = 57 → σ.2.1 57 a ≤ 8) := wf_57 hw ha
      have g69x := g69.2
      replace g69 := g69.1
      clear g69x
      refine tn_sipush dX7_reckonAt_30 (by decide) ?_
      refine tn_imul dX7_reckonAt_33 ?_
      refine tn_aload_n dX7_reckonAt_34 rfl 1 rfl ?_
      obtain ⟨xq74, hx75, hk76a, hk76b⟩ := (wf_69 hw ha).resolve_left (by have q9 := hn; omega)
      have hk76o : OB T xq74 1 := (show RC T a xq74 from ⟨hk76a, hk76b⟩).ob
      clear hk76a hk76b
      refine tn_getR (ci := 7) (i := 14) (n := 69) (x := xq74) dX7_reckonAt_35 rfl lay_7 (by decide) fl7_72 ha rfl rfl (hx75) ?_
      refine tn_iload_n dX7_reckonAt_38 rfl 2 rfl ?_
      refine tn_iconst dX7_reckonAt_39 ?_
      obtain ⟨xq77, hx78, hl80, hk79a, hk79b⟩ := wf_5 hw hk76o
      have hk79i : IA T xq77 := by unfold IA; omega
      have hk79c : CELL T xq74 xq77 := ⟨hk79a, hk79b⟩
      clear hk79a hk79b
      refine tn_callV (M := m_X7_reckonAt) (pc := 40) (ix := 117) (ci := 1) (M' := m_X1_get) (As := [.int (iI k), .int (iI 1)]) (rest := [.int (iI ((σ.2.1 57 a) * 192)), .ref xe]) dX7_reckonAt_40 ok_X1_get im_X1_get se_X1_get ml7_117 np_X1_get rfl rfl hk76o rfl (Nat.le_of_ble_eq_true rfl) (Nat.le_of_ble_eq_true rfl) rfl (k_X1_get_j (d + 1) (T := T) (σ := σ) (a := xq74) (k := k) (c := 1) (x := xq77) hk76o (by omega) (by decide) hw (hx78) (by omega)) (fun r81 T83 σ82 gt84 hp => ?_)
      obtain ⟨v87, rfl, rfl, rfl, f85, f86⟩ := hp
      clear gt84
      show Tn _ _ 43 T σ [(3, .int (iI 0)), (0, .ref a), (1, .int (iI k)), (2, .int (iI e))] [.int (iI v87), .int (iI ((σ.2.1 57 a) * 192)), .ref xe] _
      refine tn_iadd dX7_reckonAt_43 ?_
      rw [show iI (((σ.2.1 57 a) * 192) + v87) = iI (w32 (((σ.2.1 57 a) * 192) + v87)) from (iI_self _).symm]
      have g88r : -2147483648 ≤ w32 (((σ.2.1 57 a) * 192) + v87) ∧ w32 (((σ.2.1 57 a) * 192) + v87) ≤ 2147483647 := inR_toInt _
      refine tn_iload_n dX7_reckonAt_44 rfl 3 rfl ?_
      refine tn_aload_n dX7_reckonAt_45 rfl 1 rfl ?_
      refine tn_iload_n dX7_reckonAt_46 rfl 2 rfl ?_
      refine tn_iconst dX7_reckonAt_47 ?_
      refine tn_callV (M := m_X7_reckonAt) (pc := 48) (ix := 110) (ci := 7) (M' := m_X7_operand) (As := [.int (iI k), .int (iI 3)]) (rest := [.int (iI e), .int (iI (w32 (((σ.2.1 57 a) * 192) + v87))), .ref xe]) dX7_reckonAt_48 ok_X7_operand im_X7_operand se_X7_operand ml7_110 np_X7_operand rfl rfl ha rfl (Nat.le_of_ble_eq_true rfl) (Nat.le_of_ble_eq_true rfl) rfl (k_X7_operand_j (d) (T := T) (σ := σ) (a := a) (k := k) (c := 3) (xe := xe) ha (by omega) (by decide) hw (hxe) (by rw [show σ.2.1 69 a = _ from hx75]; omega) (by omega)) (fun r89 T91 σ90 gt92 hp => ?_)
      obtain ⟨v95, rfl, rfl, rfl, f93, f94⟩ := hp
      clear gt92
      show Tn _ _ 51 T σ [(3, .int (iI 0)), (0, .ref a), (1, .int (iI k)), (2, .int (iI e))] [.int (iI v95), .int (iI e), .int (iI (w32 (((σ.2.1 57 a) * 192) + v87))), .ref xe] _
      refine tn_iload_n dX7_reckonAt_51 rfl 0 rfl ?_
      refine tn_callSN (M := m_X7_reckonAt) (pc := 52) (ix := 136) (M' := m_X11_reckon) (As := [.int (iI e), .int (iI v95), .int (iI 0)]) (rest := [.int (iI (w32 (((σ.2.1 57 a) * 192) + v87))), .ref xe]) dX7_reckonAt_52 ok_X11_reckon stt_X11_reckon nl7_136 np_X11_reckon rfl (Nat.le_of_ble_eq_true rfl) (Nat.le_of_ble_eq_true rfl) rfl (k_X11_reckon_j (d + 1) (T := T) (σ := σ) (k := e) (x := v95) (y := 0) (by omega) (by omega) (by decide) hw ) (fun r96 T98 σ97 gt99 hp => ?_)
      obtain ⟨v102, rfl, rfl, rfl, f100, f101⟩ := hp
      clear gt99
      show Tn _ _ 55 T σ [(3, .int (iI 0)), (0, .ref a), (1, .int (iI k)), (2, .int (iI e))] [.int (iI v102), .int (iI (w32 (((σ.2.1 57 a) * 192) + v87))), .ref xe] _
      refine tn_callSN (M := m_X7_reckonAt) (pc := 55) (ix := 61) (M' := m_X11_put) (As := [.ref xe, .int (iI (w32 (((σ.2.1 57 a) * 192) + v87))), .int (iI v102)]) (rest := []) dX7_reckonAt_55 ok_X11_put stt_X11_put nl7_61 np_X11_put rfl (Nat.le_of_ble_eq_true rfl) (Nat.le_of_ble_eq_true rfl) rfl (k_X11_put_x (d + 1) (T := T) (σ := σ) (x := xe) (i := w32 (((σ.2.1 57 a) * 192) + v87)) (y := v102) hk67i (by omega) (by omega) (by omega) hw (nh_k hk67 (by unfold HT; omega)) (vok_1 (by have q9 := hk67; omega) (by omega))) (fun r103 T105 σ104 gt106 hp => ?_)
      obtain ⟨rfl, rfl, w110, F111, f107, f108⟩ := hp
      clear gt106
      have je112 : σ104 = jP T xe (w32 (((σ.2.1 57 a) * 192) + v87)) (v102) _ := f108
      show Tn _ _ 58 T σ104 [(3, .int (iI 0)), (0, .ref a), (1, .int (iI k)), (2, .int (iI e))] [] _
      exact tn_vret rfl dX7_reckonAt_58 ⟨rfl, rfl, w110, (FrC.rfl.trans (FrC.sub F111 (by decide))), (CHX.rfl.trans (CHX.sub f107 (by simp) (by simp) (by simp))), Or.inr ⟨by omega, xq74, xq77, _, _, hx75, hx78, f94, Or.inl ⟨by omega, rfl⟩, by rw [← f86, ← f101]; exact je112⟩⟩
end
section
set_option maxHeartbeats 1000000 in
set_option maxRecDepth 20000 in
theorem l_X7_chainOf_j_25 (d : Nat) {T : CT} {σ : MS} {V0 : Int} {xa : Nat} {xc : Nat} {y : Nat} {post : Option Value → CT → MS → Prop} (hw : WT T σ) (hx_55 : ∀ (i3 : Int) (i4 : Int) , (-2147483648 ≤ i3 ∧ i3 ≤ 2147483647) → (1 ≤ i4 ∧ i4 ≤ 2147483647) → (i4 = 1) → Tn (d + 2) m_X7_chainOf 55 T σ [(2, .null), (3, .int (iI i3)), (4, .int (iI i4))] [] post) : ∀ (nq9 : Nat) (i3 : Int) (i4 : Int) , (-2147483648 ≤ i3 ∧ i3 ≤ 2147483647) → (1 ≤ i4 ∧ i4 ≤ 2147483647) → (i4 = 1) → (2147483700 - i4).toNat = nq9 → Tn (d + 2) m_X7_chainOf 25 T σ [(2, .null), (3, .int (iI i3)), (4, .int (iI i4))] [] post := by
  intro nq9
  induction nq9 using Nat.strongRecOn with
  | _ nq9 ih =>
    intro i3 i4 r_i3 r_i4 hL hm
    refine tn_aload_nN dX7_chainOf_25 rfl 0 rfl ?_
    refine tn_ifnullN (tgt := 55) dX7_chainOf_26 (by decide) ?_
    exact tn_sub [0, 1, 2] rfl (hx_55 (i3) (i4) (by omega) (by omega) hL)
set_option maxHeartbeats 1000000 in
set_option maxRecDepth 20000 in
theorem l_X7_chainOf_j_25_1 (d : Nat) {T : CT} {σ : MS} {rx2 : Nat} {V0 : Int} {xa : Nat} {xc : Nat} {y : Nat} {post : Option Value → CT → MS → Prop} (h_rx2 : OB T rx2 1) (hw : WT T σ) (hx_55 : ∀ (i3 : Int) (i4 : Int) , (-2147483648 ≤ i3 ∧ i3 ≤ 2147483647) → (1 ≤ i4 ∧ i4 ≤ 2147483647) → (i4 = V0) → Tn (d + 2) m_X7_chainOf 55 T σ [(2, .ref rx2), (3, .int (iI i3)), (4, .int (iI i4))] [] post) : ∀ (nq9 : Nat) (i3 : Int) (i4 : Int) , (-2147483648 ≤ i3 ∧ i3 ≤ 2147483647) → (1 ≤ i4 ∧ i4 ≤ 2147483647) → (jL (fun f => jA T (adN σ 12 rx2) f σ) (13 - i4).toNat i3 i4 = V0 ∧ 1 ≤ i4) → (2147483700 - i4).toNat = nq9 → Tn (d + 2) m_X7_chainOf 25 T σ [(2, .ref rx2), (3, .int (iI i3)), (4, .int (iI i4))] [] post := by
  intro nq9
  induction nq9 using Nat.strongRecOn with
  | _ nq9 ih =>
    intro i3 i4 r_i3 r_i4 hL hm
    refine tn_aload_n dX7_chainOf_25 rfl 0 rfl ?_
    refine tn_ifnull dX7_chainOf_26 ?_
    refine tn_iload_n dX7_chainOf_29 rfl 1 rfl ?_
    refine tn_if_le (tgt := 55) dX7_chainOf_30 (by decide) ⟨by omega, by omega⟩ (fun h1 => ?_) (fun h1 => ?_)
    · exact tn_sub [0, 1, 2] rfl (hx_55 (i3) (i4) (by omega) (by omega) (jL_e hL.1 (by omega) hL.2))
    · refine tn_iload dX7_chainOf_33 2 rfl ?_
      refine tn_bipush dX7_chainOf_35 (by decide) ?_
      refine tn_icmp_gt (tgt := 55) dX7_chainOf_37 (by decide) ⟨by omega, by omega⟩ ⟨by decide, by decide⟩ (fun h2 => ?_) (fun h2 => ?_)
      · exact tn_sub [0, 1, 2] rfl (hx_55 (i3) (i4) (by omega) (by omega) (jL_e hL.1 (by omega) hL.2))
      · refine tn_aload_n dX7_chainOf_40 rfl 0 rfl ?_
        obtain ⟨xq3, hx4, hk5, hl6⟩ : ∃ x : Nat, σ.2.1 12 rx2 = (x : Int) ∧ AR T x 1 12 12 := wf_12 hw h_rx2
        have hk5i : IA T xq3 := by unfold IA; omega
        refine tn_getR (ci := 1) (i := 7) (n := 12) (x := xq3) dX7_chainOf_41 rfl lay_1 (by decide) fl7_126 h_rx2 rfl rfl (hx4) ?_
        refine tn_iload_n dX7_chainOf_44 rfl 1 rfl ?_
        refine tn_callSN (M := m_X7_chainOf) (pc := 45) (ix := 91) (M' := m_X11_at) (As := [.ref xq3, .int (iI i3)]) (rest := []) dX7_chainOf_45 ok_X11_at stt_X11_at nl7_91 np_X11_at rfl (Nat.le_of_ble_eq_true rfl) (Nat.le_of_ble_eq_true rfl) rfl (k_X11_at_j (d) (T := T) (σ := σ) (x := xq3) (i := i3) hk5i (by omega) (by omega) hw ) (fun r7 T9 σ8 gt10 hp => ?_)
        obtain ⟨v14, rfl, rfl, rfl, f11, f12, f13⟩ := hp
        clear gt10
        clear f12
        show Tn _ _ 48 T σ [(2, .ref rx2), (3, .int (iI i3)), (4, .int (iI i4))] [.int (iI v14)] _
        refine tn_istore_n (L' := [(3, .int (iI v14)), (2, .ref rx2), (4, .int (iI i4))]) dX7_chainOf_48 rfl (by decide) rfl ?_
        refine tn_iinc (q0 := 2) (L' := [(4, .int (iI (i4 + 1))), (3, .int (iI v14)), (2, .ref rx2)]) dX7_chainOf_49 rfl (by decide) rfl ?_
        refine tn_goto (tgt := 25) dX7_chainOf_52 (by decide) ?_
        exact tn_sub [2, 1, 0] rfl (ih _ (by omega) (v14) (i4 + 1) (by omega) (by omega) ⟨by rw [f13, ← adN_of hx4]; exact jL_s hL.1 (by omega) (by omega) hL.2, by omega⟩ rfl)
set_option maxHeartbeats 1000000 in
set_option maxRecDepth 20000 in
theorem k_X7_chainOf_j (d : Nat) {T : CT} {σ : MS} {a : Nat} {p1 : Int} {xa : Nat} {xc : Nat} {y : Nat} (ha : OB T a 7) (h_p1 : -2147483648 ≤ p1 ∧ p1 ≤ 2147483647) (hw : WT T σ) (hxa : σ.2.1 59 a = (xa : Int)) (hxc : σ.2.1 61 a = (xc : Int)) (hy : σ.2.1 55 a = (y : Int)) : Tn (d + 2) m_X7_chainOf 0 T σ [(0, .ref a), (1, .int (iI p1))] [] (fun ro T2 σ2 => ∃ v : Int, ro = some (.int (iI v)) ∧ T = T2 ∧ σ = σ2 ∧ (-2147483648 ≤ v ∧ v ≤ 2147483647) ∧ (v = jCV T σ xa xc y p1)) := by
  refine tn_aload_n dX7_chainOf_0 rfl 0 rfl ?_
  refine tn_aload_n dX7_chainOf_1 rfl 0 rfl ?_
  obtain ⟨hk3, hl4⟩ : AR T xa 15 9 9 := ar_of (wf_59 hw ha) hxa
  have hk3i : IA T xa := by unfold IA; omega
  refine tn_getR (ci := 7) (i := 4) (n := 59) (x := xa) dX7_chainOf_2 rfl lay_7 (by decide) fl7_9 ha rfl rfl (hxa) ?_
  refine tn_iload_n dX7_chainOf_5 rfl 1 rfl ?_
  refine tn_callSN (M := m_X7_chainOf) (pc := 6) (ix := 91) (M' := m_X11_at) (As := [.ref xa, .int (iI p1)]) (rest := [.ref a]) dX7_chainOf_6 ok_X11_at stt_X11_at nl7_91 np_X11_at rfl (Nat.le_of_ble_eq_true rfl) (Nat.le_of_ble_eq_true rfl) rfl (k_X11_at_j (d) (T := T) (σ := σ) (x := xa) (i := p1) hk3i (by omega) (by omega) hw ) (fun r5 T7 σ6 gt8 hp => ?_)
  obtain ⟨v12, rfl, rfl, rfl, f9, f10, f11⟩ := hp
  clear gt8
  clear f10
  show Tn _ _ 9 T σ [(0, .ref a), (1, .int (iI p1))] [.int (iI v12), .ref a] _
  obtain ⟨hl16, hk15a, hk15b⟩ := ex_at (wf_55 hw ha) hy
  have hk15i : (T y).1 = 4 ∨ (T y).1 = 5 := by omega
  have hk15c : RROW T a y := ⟨hk15a, hk15b⟩
  clear hk15a hk15b
  refine tn_callV (M := m_X7_chainOf) (pc := 9) (ix := 68) (ci := 7) (M' := m_X7_codeAt) (As := [.int (iI v12)]) (rest := []) dX7_chainOf_9 ok_X7_codeAt im_X7_codeAt se_X7_codeAt ml7_68 np_X7_codeAt rfl rfl ha rfl (Nat.le_of_ble_eq_true rfl) (Nat.le_of_ble_eq_true rfl) rfl (k_X7_codeAt_j (d) (T := T) (σ := σ) (a := a) (r := v12) (y := y) ha (by omega) hw (hy)) (fun r17 T19 σ18 gt20 hp => ?_)
  obtain ⟨v23, rfl, rfl, rfl, rv24, f21, f22⟩ := hp
  clear gt20
  rcases rv24 with rv24 | ⟨xq25, rfl, hk26⟩
  · show Tn _ _ 12 T σ [(0, .ref a), (1, .int (iI p1))] (vl true v23 :: []) _
    rw [vl_null rv24]
    refine tn_astore_nN (L' := [(2, .null), (0, .ref a), (1, .int (iI p1))]) dX7_chainOf_12 rfl (by decide) rfl ?_
    refine tn_aload_n dX7_chainOf_13 rfl 1 rfl ?_
    obtain ⟨hl30, hk29a, hk29b⟩ := ex_at (wf_61 hw ha) hxc
    have hk29i : IA T xc := by unfold IA; omega
    have hk29n : NH T xc := by unfold NH HT; omega
    clear hk29a hk29b
    refine tn_getR (ci := 7) (i := 6) (n := 61) (x := xc) dX7_chainOf_14 rfl lay_7 (by decide) fl7_18 ha rfl rfl (hxc) ?_
    refine tn_iload_n dX7_chainOf_17 rfl 2 rfl ?_
    refine tn_callSN (M := m_X7_chainOf) (pc := 18) (ix := 91) (M' := m_X11_at) (As := [.ref xc, .int (iI p1)]) (rest := []) dX7_chainOf_18 ok_X11_at stt_X11_at nl7_91 np_X11_at rfl (Nat.le_of_ble_eq_true rfl) (Nat.le_of_ble_eq_true rfl) rfl (k_X11_at_j (d) (T := T) (σ := σ) (x := xc) (i := p1) hk29i (by omega) (by omega) hw ) (fun r31 T33 σ32 gt34 hp => ?_)
    obtain ⟨v38, rfl, rfl, rfl, f35, f36, f37⟩ := hp
    clear gt34
    clear f36
    show Tn _ _ 21 T σ [(2, .null), (0, .ref a), (1, .int (iI p1))] [.int (iI v38)] _
    refine tn_istore_n (L' := [(3, .int (iI v38)), (2, .null), (0, .ref a), (1, .int (iI p1))]) dX7_chainOf_21 rfl (by decide) rfl ?_
    refine tn_iconst dX7_chainOf_22 ?_
    refine tn_istore (L' := [(4, .int (iI 1)), (3, .int (iI v38)), (2, .null), (0, .ref a), (1, .int (iI p1))]) dX7_chainOf_23 (by decide) rfl ?_
    refine tn_sub [2, 1, 0] rfl (l_X7_chainOf_j_25 (d) (T := T) (σ := σ) (xa := xa) (xc := xc) (y := y) (V0 := (0 : Int)) hw (fun i339 i440 r46 r47 f48 => ?_) _ (v38) (1) (by omega) (by omega) (by decide) rfl)
    show Tn _ _ 55 T σ [(2, .null), (3, .int (iI i339)), (4, .int (iI i440))] [] _
    refine tn_iload dX7_chainOf_55 2 rfl ?_
    exact tn_iret rfl dX7_chainOf_57 ⟨_, rfl, rfl, rfl, by omega, by unfold jCV; rw [← f11, ← f22, if_pos (by assumption)]; exact f48⟩
  · show Tn _ _ 12 T σ [(0, .ref a), (1, .int (iI p1))] (vl true (xq25 : Int) :: []) _
    rw [vl_ref rfl]
    have hk26o : OB T xq25 1 := hk26.1
    refine tn_astore_n (L' := [(2, .ref xq25), (0, .ref a), (1, .int (iI p1))]) dX7_chainOf_12 rfl (by decide) rfl ?_
    refine tn_aload_n dX7_chainOf_13 rfl 1 rfl ?_
    obtain ⟨hl52, hk51a, hk51b⟩ := ex_at (wf_61 hw ha) hxc
    have hk51i : IA T xc := by unfold IA; omega
    have hk51n : NH T xc := by unfold NH HT; omega
    clear hk51a hk51b
    refine tn_getR (ci := 7) (i := 6) (n := 61) (x := xc) dX7_chainOf_14 rfl lay_7 (by decide) fl7_18 ha rfl rfl (hxc) ?_
    refine tn_iload_n dX7_chainOf_17 rfl 2 rfl ?_
    refine tn_callSN (M := m_X7_chainOf) (pc := 18) (ix := 91) (M' := m_X11_at) (As := [.ref xc, .int (iI p1)]) (rest := []) dX7_chainOf_18 ok_X11_at stt_X11_at nl7_91 np_X11_at rfl (Nat.le_of_ble_eq_true rfl) (Nat.le_of_ble_eq_true rfl) rfl (k_X11_at_j (d) (T := T) (σ := σ) (x := xc) (i := p1) hk51i (by omega) (by omega) hw ) (fun r53 T55 σ54 gt56 hp => ?_)
    obtain ⟨v60, rfl, rfl, rfl, f57, f58, f59⟩ := hp
    clear gt56
    clear f58
    show Tn _ _ 21 T σ [(2, .ref xq25), (0, .ref a), (1, .int (iI p1))] [.int (iI v60)] _
    refine tn_istore_n (L' := [(3, .int (iI v60)), (2, .ref xq25), (0, .ref a), (1, .int (iI p1))]) dX7_chainOf_21 rfl (by decide) rfl ?_
    refine tn_iconst dX7_chainOf_22 ?_
    refine tn_istore (L' := [(4, .int (iI 1)), (3, .int (iI v60)), (2, .ref xq25), (0, .ref a), (1, .int (iI p1))]) dX7_chainOf_23 (by decide) rfl ?_
    refine tn_sub [2, 1, 0] rfl (l_X7_chainOf_j_25_1 (d) (T := T) (σ := σ) (rx2 := xq25) (xa := xa) (xc := xc) (y := y) (V0 := (jL (fun f => jA T (adN σ 12 xq25) f σ) 12 (v60) 1)) hk26o hw (fun i361 i462 r68 r69 f70 => ?_) _ (v60) (1) (by omega) (by omega) ⟨rfl, by decide⟩ rfl)
    show Tn _ _ 55 T σ [(2, .ref xq25), (3, .int (iI i361)), (4, .int (iI i462))] [] _
    refine tn_iload dX7_chainOf_55 2 rfl ?_
    exact tn_iret rfl dX7_chainOf_57 ⟨_, rfl, rfl, rfl, by omega, by unfold jCV; rw [← f11, ← f22, if_neg (by omega), ← f59]; exact f70⟩
end
section
set_option maxHeartbeats 1000000 in
set_option maxRecDepth 20000 in
theorem k_X7_callFrom_j (d : Nat) {T : CT} {σ : MS} {a : Nat} {k : Int} {xa : Nat} {xb : Nat} {xc : Nat} {xd : Nat} {xe : Nat} {y : Nat} (ha : OB T a 7) (hta : (T a).1 = 37) (h_k : -2147483648 ≤ k ∧ k ≤ 2147483647) (hw : WT T σ) (hxa : σ.2.1 59 a = (xa : Int)) (hxb : σ.2.1 60 a = (xb : Int)) (hxc : σ.2.1 61 a = (xc : Int)) (hxd : σ.2.1 62 a = (xd : Int)) (hxe : σ.2.1 63 a = (xe : Int)) (hy : σ.2.1 55 a = (y : Int)) (hn : 0 ≤ σ.2.1 69 a) (h8 : σ.2.1 57 a ≤ 11184799) : Tn (d + 4) m_X7_callFrom 0 T σ [(0, .ref a), (1, .int (iI k))] [] (fun ro T2 σ2 => ro = none ∧ T = T2 ∧ WT T2 σ2 ∧ FrC T [57, 58, 69, 515] σ σ2 ∧ (CHX [(57, a), (58, a), (69, a)] [xa, xb, xc, xd, xe] [] σ σ2) ∧ (σ2.2.1 57 a = σ.2.1 57 a + 1) ∧ (JCF T σ a xa xb xc xd xe y k σ2) ∧ (FA a σ σ2)) := by
  refine tn_aload_n dX7_callFrom_0 rfl 0 rfl ?_
  refine tn_iload_n dX7_callFrom_1 rfl 1 rfl ?_
  refine tn_iconst dX7_callFrom_2 ?_
  obtain ⟨hk3, hl4⟩ : AR T xe 1 1728 1728 := ar_of (wf_63 hw ha) hxe
  have hk3i : IA T xe := by unfold IA; omega
  refine tn_callV (M := m_X7_callFrom) (pc := 3) (ix := 110) (ci := 7) (M' := m_X7_operand) (As := [.int (iI k), .int (iI 3)]) (rest := []) dX7_callFrom_3 ok_X7_operand im_X7_operand se_X7_operand ml7_110 np_X7_operand rfl rfl ha rfl (Nat.le_of_ble_eq_true rfl) (Nat.le_of_ble_eq_true rfl) rfl (k_X7_operand_j (d + 1) (T := T) (σ := σ) (a := a) (k := k) (c := 3) (xe := xe) ha (by omega) (by decide) hw (hxe) (by rw [show σ.2.1 69 a = σ.2.1 69 a from rfl]; exact hn) (by omega)) (fun r5 T7 σ6 gt8 hp => ?_)
  obtain ⟨v11, rfl, rfl, rfl, f9, f10⟩ := hp
  clear gt8
  show Tn _ _ 6 T σ [(0, .ref a), (1, .int (iI k))] [.int (iI v11)] _
  refine tn_istore_n (L' := [(2, .int (iI v11)), (0, .ref a), (1, .int (iI k))]) dX7_callFrom_6 rfl (by decide) rfl ?_
  refine tn_aload_n dX7_callFrom_7 rfl 1 rfl ?_
  refine tn_iload_n dX7_callFrom_8 rfl 2 rfl ?_
  refine tn_iconst dX7_callFrom_9 ?_
  refine tn_callV (M := m_X7_callFrom) (pc := 10) (ix := 110) (ci := 7) (M' := m_X7_operand) (As := [.int (iI k), .int (iI 5)]) (rest := []) dX7_callFrom_10 ok_X7_operand im_X7_operand se_X7_operand ml7_110 np_X7_operand rfl rfl ha rfl (Nat.le_of_ble_eq_true rfl) (Nat.le_of_ble_eq_true rfl) rfl (k_X7_operand_j (d + 1) (T := T) (σ := σ) (a := a) (k := k) (c := 5) (xe := xe) ha (by omega) (by decide) hw (hxe) (by rw [show σ.2.1 69 a = σ.2.1 69 a from rfl]; exact hn) (by omega)) (fun r12 T14 σ13 gt15 hp => ?_)
  obtain ⟨v18, rfl, rfl, rfl, f16, f17⟩ := hp
  clear gt15
  show Tn _ _ 13 T σ [(2, .int (iI v11)), (0, .ref a), (1, .int (iI k))] [.int (iI v18)] _
  refine tn_istore_n (L' := [(3, .int (iI v18)), (2, .int (iI v11)), (0, .ref a), (1, .int (iI k))]) dX7_callFrom_13 rfl (by decide) rfl ?_
  refine tn_aload_n dX7_callFrom_14 rfl 2 rfl ?_
  refine tn_iload_n dX7_callFrom_15 rfl 3 rfl ?_
  refine tn_bipush dX7_callFrom_16 (by decide) ?_
  refine tn_callV (M := m_X7_callFrom) (pc := 18) (ix := 110) (ci := 7) (M' := m_X7_operand) (As := [.int (iI k), .int (iI 7)]) (rest := []) dX7_callFrom_18 ok_X7_operand im_X7_operand se_X7_operand ml7_110 np_X7_operand rfl rfl ha rfl (Nat.le_of_ble_eq_true rfl) (Nat.le_of_ble_eq_true rfl) rfl (k_X7_operand_j (d + 1) (T := T) (σ := σ) (a := a) (k := k) (c := 7) (xe := xe) ha (by omega) (by decide) hw (hxe) (by rw [show σ.2.1 69 a = σ.2.1 69 a from rfl]; exact hn) (by omega)) (fun r19 T21 σ20 gt22 hp => ?_)
  obtain ⟨v25, rfl, rfl, rfl, f23, f24⟩ := hp
  clear gt22
  show Tn _ _ 21 T σ [(3, .int (iI v18)), (2, .int (iI v11)), (0, .ref a), (1, .int (iI k))] [.int (iI v25)] _
  refine tn_istore (L' := [(4, .int (iI v25)), (3, .int (iI v18)), (2, .int (iI v11)), (0, .ref a), (1, .int (iI k))]) dX7_callFrom_21 (by decide) rfl ?_
  refine tn_aload_n dX7_callFrom_23 rfl 3 rfl ?_
  refine tn_iload_n dX7_callFrom_24 rfl 4 rfl ?_
  refine tn_bipush dX7_callFrom_25 (by decide) ?_
  refine tn_callV (M := m_X7_callFrom) (pc := 27) (ix := 110) (ci := 7) (M' := m_X7_operand) (As := [.int (iI k), .int (iI 9)]) (rest := []) dX7_callFrom_27 ok_X7_operand im_X7_operand se_X7_operand ml7_110 np_X7_operand rfl rfl ha rfl (Nat.le_of_ble_eq_true rfl) (Nat.le_of_ble_eq_true rfl) rfl (k_X7_operand_j (d + 1) (T := T) (σ := σ) (a := a) (k := k) (c := 9) (xe := xe) ha (by omega) (by decide) hw (hxe) (by rw [show σ.2.1 69 a = σ.2.1 69 a from rfl]; exact hn) (by omega)) (fun r26 T28 σ27 gt29 hp => ?_)
  obtain ⟨v32, rfl, rfl, rfl, f30, f31⟩ := hp
  clear gt29
  show Tn _ _ 30 T σ [(4, .int (iI v25)), (3, .int (iI v18)), (2, .int (iI v11)), (0, .ref a), (1, .int (iI k))] [.int (iI v32)] _
  refine tn_istore (L' := [(5, .int (iI v32)), (4, .int (iI v25)), (3, .int (iI v18)), (2, .int (iI v11)), (0, .ref a), (1, .int (iI k))]) dX7_callFrom_30 (by decide) rfl ?_
  refine tn_aload_n dX7_callFrom_32 rfl 4 rfl ?_
  refine tn_aload_n dX7_callFrom_33 rfl 4 rfl ?_
  refine tn_getI (ci := 7) (i := 2) (n := 57) (t := σ.2.1 57 a) dX7_callFrom_34 rfl lay_7 (by decide) fl7_65 ha rfl rfl (rfl) ?_
  have g33 : ((0 : Int) ≤ σ.2.1 57 a ∧ σ.2.1 57 a ≤ 11184800) ∧ ((T a).1 = 57 → σ.2.1 57 a ≤ 8) := wf_57 hw ha
  have g33x := g33.2
  replace g33 := g33.1
  clear g33x
  refine tn_iconst dX7_callFrom_37 ?_
  refine tn_iadd dX7_callFrom_38 ?_
  refine tn_aload_n dX7_callFrom_39 rfl 4 rfl ?_
  obtain ⟨xq38, hx39, hk40a, hk40b⟩ := (wf_69 hw ha).resolve_left (by have q9 := hn; omega)
  have hk40 : (T xq38).1 = 50 := hk40b (by omega)
  clear hk40a hk40b
  have hk40o : OB T xq38 1 := ⟨by omega, by rw [hk40]; rfl, by omega⟩
  refine tn_getR (ci := 7) (i := 14) (n := 69) (x := xq38) dX7_callFrom_40 rfl lay_7 (by decide) fl7_72 ha rfl rfl (hx39) ?_
  refine tn_iload_n dX7_callFrom_43 rfl 5 rfl ?_
  refine tn_iconst dX7_callFrom_44 ?_
  obtain ⟨xq41, hx42, hl44, hk43a, hk43b⟩ := wf_5 hw hk40o
  have hk43 : (T xq41).1 = 1 := hk43a (by omega)
  clear hk43a hk43b
  have hk43i : IA T xq41 := by unfold IA; omega
  refine tn_callV (M := m_X7_callFrom) (pc := 45) (ix := 117) (ci := 1) (M' := m_X1_get) (As := [.int (iI k), .int (iI 2)]) (rest := [.int (iI ((σ.2.1 57 a) + 1)), .ref a]) dX7_callFrom_45 ok_X1_get im_X1_get se_X1_get ml7_117 np_X1_get rfl rfl hk40o rfl (Nat.le_of_ble_eq_true rfl) (Nat.le_of_ble_eq_true rfl) rfl (k_X1_get_j (d + 2) (T := T) (σ := σ) (a := xq38) (k := k) (c := 2) (x := xq41) hk40o (by omega) (by decide) hw (hx42) (by omega)) (fun r45 T47 σ46 gt48 hp => ?_)
  obtain ⟨v51, rfl, rfl, rfl, f49, f50⟩ := hp
  clear gt48
  show Tn _ _ 48 T σ [(5, .int (iI v32)), (4, .int (iI v25)), (3, .int (iI v18)), (2, .int (iI v11)), (0, .ref a), (1, .int (iI k))] [.int (iI v51), .int (iI ((σ.2.1 57 a) + 1)), .ref a] _
  obtain ⟨hk54, hl55⟩ : AR T xa 15 9 9 := ar_of (wf_59 hw ha) hxa
  have hk54i : IA T xa := by unfold IA; omega
  obtain ⟨hk58, hl59⟩ : AR T xb 1 9 9 := ar_of (wf_60 hw ha) hxb
  have hk58i : IA T xb := by unfold IA; omega
  obtain ⟨hl63, hk62a, hk62b⟩ := ex_at (wf_61 hw ha) hxc
  have hk62 : (T xc).1 = 1 := hk62b (by omega)
  clear hk62a hk62b
  have hk62i : IA T xc := by unfold IA; omega
  obtain ⟨hk66, hl67⟩ : AR T xd 1 108 108 := ar_of (wf_62 hw ha) hxd
  have hk66i : IA T xd := by unfold IA; omega
  obtain ⟨hl71, hk70a, hk70b⟩ := ex_at (wf_55 hw ha) hy
  have hk70i : (T y).1 = 4 ∨ (T y).1 = 5 := by omega
  have hk70c : RROW T a y := ⟨hk70a, hk70b⟩
  clear hk70a hk70b
  refine tn_callV (M := m_X7_callFrom) (pc := 48) (ix := 53) (ci := 7) (M' := m_X7_openCall) (As := [.int (iI ((σ.2.1 57 a) + 1)), .int (iI v51)]) (rest := []) dX7_callFrom_48 ok_X7_openCall im_X7_openCall se_X7_openCall ml7_53 np_X7_openCall rfl rfl ha rfl (Nat.le_of_ble_eq_true rfl) (Nat.le_of_ble_eq_true rfl) rfl (k_X7_openCall_j (d) (T := T) (σ := σ) (a := a) (c := (σ.2.1 57 a) + 1) (r := v51) (xa := xa) (xb := xb) (xc := xc) (xd := xd) (xe := xe) (y := y) ha hta (by omega) (by omega) hw (hxa) (hxb) (hxc) (hxd) (hxe) (hy) (by omega)) (fun r72 T74 σ73 gt75 hp => ?_)
  obtain ⟨rfl, rfl, w81, F82, f76, f77, f78, f79⟩ := hp
  clear gt75
  show Tn _ _ 51 T σ73 [(5, .int (iI v32)), (4, .int (iI v25)), (3, .int (iI v18)), (2, .int (iI v11)), (0, .ref a), (1, .int (iI k))] [] _
  refine tn_aload_n dX7_callFrom_51 rfl 4 rfl ?_
  refine tn_getR (ci := 7) (i := 8) (n := 63) (x := xe) dX7_callFrom_52 rfl lay_7 (by decide) fl7_24 ha rfl rfl (rc_F F82 (Or.inl (by decide)) (by decide) (hxe)) ?_
  refine tn_aload_n dX7_callFrom_55 rfl 4 rfl ?_
  refine tn_iconst dX7_callFrom_56 ?_
  refine tn_callV (M := m_X7_callFrom) (pc := 57) (ix := 57) (ci := 7) (M' := m_X7_homeOfParam) (As := [.int (iI 0)]) (rest := [.ref xe]) dX7_callFrom_57 ok_X7_homeOfParam im_X7_homeOfParam se_X7_homeOfParam ml7_57 np_X7_homeOfParam rfl rfl ha rfl (Nat.le_of_ble_eq_true rfl) (Nat.le_of_ble_eq_true rfl) rfl (k_X7_homeOfParam_j (d) (T := T) (σ := σ73) (a := a) (p1 := 0) ha (by decide) w81 (by omega)) (fun r83 T85 σ84 gt86 hp => ?_)
  obtain ⟨v89, rfl, rfl, rfl, f87, f88⟩ := hp
  clear gt86
  show Tn _ _ 60 T σ73 [(5, .int (iI v32)), (4, .int (iI v25)), (3, .int (iI v18)), (2, .int (iI v11)), (0, .ref a), (1, .int (iI k))] [.int (iI v89), .ref xe] _
  refine tn_iload_n dX7_callFrom_60 rfl 3 rfl ?_
  refine tn_callSN (M := m_X7_callFrom) (pc := 61) (ix := 61) (M' := m_X11_put) (As := [.ref xe, .int (iI v89), .int (iI v11)]) (rest := []) dX7_callFrom_61 ok_X11_put stt_X11_put nl7_61 np_X11_put rfl (Nat.le_of_ble_eq_true rfl) (Nat.le_of_ble_eq_true rfl) rfl (k_X11_put_x (d + 2) (T := T) (σ := σ73) (x := xe) (i := v89) (y := v11) hk3i (by omega) (by omega) (by omega) w81 (nh_k hk3 (by unfold HT; omega)) (vok_1 (by have q9 := hk3; omega) (by omega))) (fun r90 T92 σ91 gt93 hp => ?_)
  obtain ⟨rfl, rfl, w97, F98, f94, f95⟩ := hp
  clear gt93
  have je99 : σ91 = jP T xe (v89) (v11) _ := f95
  show Tn _ _ 64 T σ91 [(5, .int (iI v32)), (4, .int (iI v25)), (3, .int (iI v18)), (2, .int (iI v11)), (0, .ref a), (1, .int (iI k))] [] _
  refine tn_aload_n dX7_callFrom_64 rfl 4 rfl ?_
  refine tn_getR (ci := 7) (i := 8) (n := 63) (x := xe) dX7_callFrom_65 rfl lay_7 (by decide) fl7_24 ha rfl rfl (rc_F F98 (Or.inl (by decide)) (by decide) (rc_F F82 (Or.inl (by decide)) (by decide) (hxe))) ?_
  refine tn_aload_n dX7_callFrom_68 rfl 4 rfl ?_
  refine tn_iconst dX7_callFrom_69 ?_
  refine tn_callV (M := m_X7_callFrom) (pc := 70) (ix := 57) (ci := 7) (M' := m_X7_homeOfParam) (As := [.int (iI 1)]) (rest := [.ref xe]) dX7_callFrom_70 ok_X7_homeOfParam im_X7_homeOfParam se_X7_homeOfParam ml7_57 np_X7_homeOfParam rfl rfl ha rfl (Nat.le_of_ble_eq_true rfl) (Nat.le_of_ble_eq_true rfl) rfl (k_X7_homeOfParam_j (d) (T := T) (σ := σ91) (a := a) (p1 := 1) ha (by decide) w97 (by omega)) (fun r100 T102 σ101 gt103 hp => ?_)
  obtain ⟨v106, rfl, rfl, rfl, f104, f105⟩ := hp
  clear gt103
  show Tn _ _ 73 T σ91 [(5, .int (iI v32)), (4, .int (iI v25)), (3, .int (iI v18)), (2, .int (iI v11)), (0, .ref a), (1, .int (iI k))] [.int (iI v106), .ref xe] _
  refine tn_iload_n dX7_callFrom_73 rfl 2 rfl ?_
  refine tn_callSN (M := m_X7_callFrom) (pc := 74) (ix := 61) (M' := m_X11_put) (As := [.ref xe, .int (iI v106), .int (iI v18)]) (rest := []) dX7_callFrom_74 ok_X11_put stt_X11_put nl7_61 np_X11_put rfl (Nat.le_of_ble_eq_true rfl) (Nat.le_of_ble_eq_true rfl) rfl (k_X11_put_x (d + 2) (T := T) (σ := σ91) (x := xe) (i := v106) (y := v18) hk3i (by omega) (by omega) (by omega) w97 (nh_k hk3 (by unfold HT; omega)) (vok_1 (by have q9 := hk3; omega) (by omega))) (fun r107 T109 σ108 gt110 hp => ?_)
  obtain ⟨rfl, rfl, w114, F115, f111, f112⟩ := hp
  clear gt110
  have je116 : σ108 = jP T xe (v106) (v18) _ := f112
  show Tn _ _ 77 T σ108 [(5, .int (iI v32)), (4, .int (iI v25)), (3, .int (iI v18)), (2, .int (iI v11)), (0, .ref a), (1, .int (iI k))] [] _
  refine tn_aload_n dX7_callFrom_77 rfl 4 rfl ?_
  refine tn_getR (ci := 7) (i := 8) (n := 63) (x := xe) dX7_callFrom_78 rfl lay_7 (by decide) fl7_24 ha rfl rfl (rc_F F115 (Or.inl (by decide)) (by decide) (rc_F F98 (Or.inl (by decide)) (by decide) (rc_F F82 (Or.inl (by decide)) (by decide) (hxe)))) ?_
  refine tn_aload_n dX7_callFrom_81 rfl 4 rfl ?_
  refine tn_iconst dX7_callFrom_82 ?_
  refine tn_callV (M := m_X7_callFrom) (pc := 83) (ix := 57) (ci := 7) (M' := m_X7_homeOfParam) (As := [.int (iI 2)]) (rest := [.ref xe]) dX7_callFrom_83 ok_X7_homeOfParam im_X7_homeOfParam se_X7_homeOfParam ml7_57 np_X7_homeOfParam rfl rfl ha rfl (Nat.le_of_ble_eq_true rfl) (Nat.le_of_ble_eq_true rfl) rfl (k_X7_homeOfParam_j (d) (T := T) (σ := σ108) (a := a) (p1 := 2) ha (by decide) w114 (by omega)) (fun r117 T119 σ118 gt120 hp => ?_)
  obtain ⟨v123, rfl, rfl, rfl, f121, f122⟩ := hp
  clear gt120
  show Tn _ _ 86 T σ108 [(5, .int (iI v32)), (4, .int (iI v25)), (3, .int (iI v18)), (2, .int (iI v11)), (0, .ref a), (1, .int (iI k))] [.int (iI v123), .ref xe] _
  refine tn_iload dX7_callFrom_86 1 rfl ?_
  refine tn_callSN (M := m_X7_callFrom) (pc := 88) (ix := 61) (M' := m_X11_put) (As := [.ref xe, .int (iI v123), .int (iI v25)]) (rest := []) dX7_callFrom_88 ok_X11_put stt_X11_put nl7_61 np_X11_put rfl (Nat.le_of_ble_eq_true rfl) (Nat.le_of_ble_eq_true rfl) rfl (k_X11_put_x (d + 2) (T := T) (σ := σ108) (x := xe) (i := v123) (y := v25) hk3i (by omega) (by omega) (by omega) w114 (nh_k hk3 (by unfold HT; omega)) (vok_1 (by have q9 := hk3; omega) (by omega))) (fun r124 T126 σ125 gt127 hp => ?_)
  obtain ⟨rfl, rfl, w131, F132, f128, f129⟩ := hp
  clear gt127
  have je133 : σ125 = jP T xe (v123) (v25) _ := f129
  show Tn _ _ 91 T σ125 [(5, .int (iI v32)), (4, .int (iI v25)), (3, .int (iI v18)), (2, .int (iI v11)), (0, .ref a), (1, .int (iI k))] [] _
  refine tn_aload_n dX7_callFrom_91 rfl 4 rfl ?_
  refine tn_getR (ci := 7) (i := 8) (n := 63) (x := xe) dX7_callFrom_92 rfl lay_7 (by decide) fl7_24 ha rfl rfl (rc_F F132 (Or.inl (by decide)) (by decide) (rc_F F115 (Or.inl (by decide)) (by decide) (rc_F F98 (Or.inl (by decide)) (by decide) (rc_F F82 (Or.inl (by decide)) (by decide) (hxe))))) ?_
  refine tn_aload_n dX7_callFrom_95 rfl 4 rfl ?_
  refine tn_iconst dX7_callFrom_96 ?_
  refine tn_callV (M := m_X7_callFrom) (pc := 97) (ix := 57) (ci := 7) (M' := m_X7_homeOfParam) (As := [.int (iI 3)]) (rest := [.ref xe]) dX7_callFrom_97 ok_X7_homeOfParam im_X7_homeOfParam se_X7_homeOfParam ml7_57 np_X7_homeOfParam rfl rfl ha rfl (Nat.le_of_ble_eq_true rfl) (Nat.le_of_ble_eq_true rfl) rfl (k_X7_homeOfParam_j (d) (T := T) (σ := σ125) (a := a) (p1 := 3) ha (by decide) w131 (by omega)) (fun r134 T136 σ135 gt137 hp => ?_)
  obtain ⟨v140, rfl, rfl, rfl, f138, f139⟩ := hp
  clear gt137
  show Tn _ _ 100 T σ125 [(5, .int (iI v32)), (4, .int (iI v25)), (3, .int (iI v18)), (2, .int (iI v11)), (0, .ref a), (1, .int (iI k))] [.int (iI v140), .ref xe] _
  refine tn_iload dX7_callFrom_100 0 rfl ?_
  refine tn_callSN (M := m_X7_callFrom) (pc := 102) (ix := 61) (M' := m_X11_put) (As := [.ref xe, .int (iI v140), .int (iI v32)]) (rest := []) dX7_callFrom_102 ok_X11_put stt_X11_put nl7_61 np_X11_put rfl (Nat.le_of_ble_eq_true rfl) (Nat.le_of_ble_eq_true rfl) rfl (k_X11_put_x (d + 2) (T := T) (σ := σ125) (x := xe) (i := v140) (y := v32) hk3i (by omega) (by omega) (by omega) w131 (nh_k hk3 (by unfold HT; omega)) (vok_1 (by have q9 := hk3; omega) (by omega))) (fun r141 T143 σ142 gt144 hp => ?_)
  obtain ⟨rfl, rfl, w148, F149, f145, f146⟩ := hp
  clear gt144
  have je150 : σ142 = jP T xe (v140) (v32) _ := f146
  show Tn _ _ 105 T σ142 [(5, .int (iI v32)), (4, .int (iI v25)), (3, .int (iI v18)), (2, .int (iI v11)), (0, .ref a), (1, .int (iI k))] [] _
  have q151 : σ142.2.1 57 a = σ73.2.1 57 a := rc_F F149 (Or.inl (by decide)) (by decide) (rc_F F132 (Or.inl (by decide)) (by decide) (rc_F F115 (Or.inl (by decide)) (by decide) (rc_F F98 (Or.inl (by decide)) (by decide) (rfl))))
  exact tn_vret rfl dX7_callFrom_105 ⟨rfl, rfl, w148, (((((FrC.rfl.trans (FrC.sub F82 (by decide))).trans (FrC.sub F98 (by decide))).trans (FrC.sub F115 (by decide))).trans (FrC.sub F132 (by decide))).trans (FrC.sub F149 (by decide))), (((((CHX.rfl.trans (CHX.sub f76 (by simp) (by simp) (by simp))).trans (CHX.sub f94 (by simp) (by simp) (by simp))).trans (CHX.sub f111 (by simp) (by simp) (by simp))).trans (CHX.sub f128 (by simp) (by simp) (by simp))).trans (CHX.sub f145 (by simp) (by simp) (by simp))), by omega, ⟨_, _, _, _, xq38, xq41, _, f10, f17, f24, f31, hx39, hx42, (by rw [← f50]; exact f78), _, _, _, _, f88, (by rw [← je99]; exact f105), (by rw [← je99, ← je116]; exact f122), (by rw [← je99, ← je116, ← je133]; exact f139), by rw [je150, je133, je116, je99]⟩, (((((FA.rfl.trans f79).trans (FA.of F98 (by decide))).trans (FA.of F115 (by decide))).trans (FA.of F132 (by decide))).trans (FA.of F149 (by decide)))⟩
end
