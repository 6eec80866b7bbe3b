/-- run m stays: its calls -/
def X0 (m : Int) (σ τ : MS) : Prop := (τ.2.1 73 m = σ.2.1 73 m ∧ τ.2.1 76 m = σ.2.1 76 m) ∧ ∀ c, 9 * m ≤ c → c < 9 * m + 9 → τ.2.1 78 c = σ.2.1 78 c ∧ τ.2.1 79 c = σ.2.1 79 c ∧ τ.2.1 80 c = σ.2.1 80 c
theorem X0.rfl {m : Int} {σ : MS} : X0 m σ σ := ⟨⟨_root_.rfl, _root_.rfl⟩, fun _ _ _ => ⟨_root_.rfl, _root_.rfl, _root_.rfl⟩⟩
theorem X0.trans {m : Int} {σ τ υ : MS} (h : X0 m σ τ) (g : X0 m τ υ) : X0 m σ υ := ⟨⟨g.1.1.trans h.1.1, g.1.2.trans h.1.2⟩, fun c a b => ⟨(g.2 c a b).1.trans (h.2 c a b).1, (g.2 c a b).2.1.trans (h.2 c a b).2.1, (g.2 c a b).2.2.trans (h.2 c a b).2.2⟩⟩
theorem XM.x0 {m j : Int} {σ τ : MS} (h : XM m σ τ) (hj : j ≠ m) : X0 j σ τ := ⟨h.1 j hj, fun c a b => h.2 c (by omega)⟩
theorem X0.of {ss ks js : List Nat} {m : Int} {σ τ : MS} (g : Fr ss ks js σ τ) (hk : ∀ k ∈ [73, 76, 78, 79, 80], k ∉ ks) : X0 m σ τ := (XM.of (m := m + 1) g hk).x0 (by omega)
theorem RUN.x0 {ss ks js : List Nat} {σ τ : MS} {m : Int} (h : RUN σ m) (x : X0 m σ τ) (g : Fr ss ks js σ τ) (hs : 10 ∉ ss) (hk : ∀ k ∈ [3, 4, 5, 9, 14, 16], k ∉ ks) : RUN τ m := by
  obtain ⟨h1, h2, h3, h4⟩ := h
  have e73 := x.1.1
  have ee := x.2
  refine ⟨by rw [e73]; exact h1, fun c a b => ?_, fun c a b => ?_, ?_⟩
  · rw [e73] at b
    rw [(ee c a (by omega)).1, (ee c a (by omega)).2.1, (ee c a (by omega)).2.2]; exact (h2 c a b).fr g hs hk
  · rw [e73] at b
    rw [(ee c a (by omega)).1, (ee c a (by omega)).2.1]
    unfold kdm; rw [g.q hk (k := 3) (by decide)]
    exact h3 c a b
  · rw [dpt_dsum] at h4 ⊢
    rw [e73, dsum_fr g (hk 16 (by decide)), dsum_ext (R := σ.2.1 78) (P := σ.2.1 80) _ (fun j a b => ⟨(ee j a (by omega)).1, (ee j a (by omega)).2.2⟩)]
    exact h4
theorem GDA.bka {σ : MS} {m : Int} (h : GDA σ) (hm : m ≠ 2) : BKA σ m := ⟨h.1, fun r a b => (h.2 r a b).bkg hm⟩
theorem RUN.hd {σ : MS} {m : Int} (h : RUN σ m) (b : BKA σ m) : (0 ≤ σ.2.1 73 m ∧ σ.2.1 73 m ≤ 9) ∧ ∀ c, 9 * m ≤ c → c < 9 * m + σ.2.1 73 m → DEC σ m c (fn σ m c) := ⟨⟨by have := h.1; omega, h.1.2⟩, h.dec b.2 b.1.2⟩

set_option maxHeartbeats 4000000 in
set_option maxRecDepth 20000 in
theorem l_isFr2b (d : Nat) {b : Nat} {σ : MS} {m : Int} {k : Int} {c : Int} {post : Option Value → MS → Prop} (hR : RG σ) (hm2 : 0 ≤ m ∧ m ≤ 2) (hmc : 0 ≤ σ.2.1 73 m ∧ σ.2.1 73 m ≤ 9) (hde : ∀ c, 9 * m ≤ c → c < 9 * m + σ.2.1 73 m → DEC σ m c (fn σ m c)) (hc : 9 * m ≤ c ∧ c < 9 * m + σ.2.1 73 m) (hx_98 : ∀ (w : Int) (f : Int) , (0 ≤ w ∧ w ≤ 2147483647) → (k ≤ w + 13 * (9 * m + σ.2.1 73 m - 1 - c) + 13) → Tm (d + 1) m_X12_isFrame 98 b σ [(5, .int (iI f)), (4, .int (iI c)), (3, .int (iI w)), (0, .ref b), (1, .int (iI m)), (2, .int (iI k))] [] post) (hr1 : ∀ c f, 9 * m ≤ c → c < 9 * m + σ.2.1 73 m → 0 ≤ f → f < fn σ m c → k ≤ 117 → post (some (.int (iI 1))) (sS 84 f (sS 83 c σ))) : ∀ (n : Nat) (w : Int) (f : Int) , (-1 ≤ f ∧ f < fn σ m c ∧ 0 ≤ w ∧ w ≤ 2147483647) → (k ≤ w + 13 * (9 * m + σ.2.1 73 m - 1 - c) + (12 - f)) → (f + 1).toNat = n → Tm (d + 1) m_X12_isFrame 39 b σ [(5, .int (iI f)), (4, .int (iI c)), (3, .int (iI w)), (0, .ref b), (1, .int (iI m)), (2, .int (iI k))] [] post := by
  intro n
  induction n using Nat.strongRecOn with
  | _ n ih =>
    intro w f h0 hk hm
    have hd := hde c hc.1 hc.2
    have hd1 := hd.1
    have hd2 := hd.2.1
    refine tm_iload dX12_isFrame_39 0 rfl ?_
    refine tm_iconst dX12_isFrame_41 ?_
    refine tm_icmp_eq (tgt := 98) dX12_isFrame_42 (by decide) ⟨by omega, by omega⟩ ⟨by decide, by decide⟩ (fun h1 => ?_) (fun h1 => ?_)
    · exact tm_sub [0, 1, 2, 3, 4, 5] rfl (hx_98 (w) (f) (by omega) (by omega))
    · refine tm_iload_n dX12_isFrame_45 rfl 2 rfl ?_
      refine tm_if_ne (tgt := 63) dX12_isFrame_46 (by decide) ⟨by omega, by omega⟩ (fun h2 => ?_) (fun h2 => ?_)
      · have hdd := hd.2.2 f (by omega) (by omega)
        refine tm_iinc (q0 := 2) (L' := [(3, .int (iI (w + (-1)))), (5, .int (iI f)), (4, .int (iI c)), (0, .ref b), (1, .int (iI m)), (2, .int (iI k))]) dX12_isFrame_63 rfl (by decide) rfl ?_
        refine tm_iload_n dX12_isFrame_66 rfl 4 rfl ?_
        refine tm_iconst dX12_isFrame_67 ?_
        refine tm_icmp_ne (tgt := 75) dX12_isFrame_68 (by decide) ⟨by omega, by omega⟩ ⟨by decide, by decide⟩ (fun h3 => ?_) (fun h3 => ?_)
        · have hpr : pr σ m c f = σ.2.1 16 (12 * σ.2.1 78 c + f) := if_neg (by omega)
          rw [hpr] at hdd
          refine tm_aload_n dX12_isFrame_75 rfl 3 rfl ?_
          refine tm_get (k := 16) (v := .ref (b + 1 + 13)) lay_12 dX12_isFrame_76 (by decide) fl12_50 rfl ?_
          refine tm_bipush dX12_isFrame_79 (by decide) ?_
          refine tm_aload_n dX12_isFrame_81 rfl 3 rfl ?_
          refine tm_get (k := 78) (v := .ref (b + 1 + 49)) lay_12 dX12_isFrame_82 (by decide) fl12_167 rfl ?_
          refine tm_iload dX12_isFrame_85 2 rfl ?_
          refine tm_iald (z := c) (v := σ.2.1 78 c) dX12_isFrame_87 (show mT[49]? = some (78, 0, 27) from rfl) (by omega) (by omega) (by decide) (rfl) ?_
          have g4 := RG.a hR 78 (c)
          refine tm_imul dX12_isFrame_88 ?_
          refine tm_iload dX12_isFrame_89 1 rfl ?_
          refine tm_iadd dX12_isFrame_91 ?_
          refine tm_iald (z := (12 * (σ.2.1 78 c)) + f) (v := σ.2.1 16 ((12 * (σ.2.1 78 c)) + f)) dX12_isFrame_92 (show mT[13]? = some (16, 0, 72) from rfl) (by omega) (by omega) (by decide) (rfl) ?_
          have g5 := RG.a hR 16 ((12 * (σ.2.1 78 c)) + f)
          refine tm_istore (L' := [(5, .int (iI (σ.2.1 16 ((12 * (σ.2.1 78 c)) + f)))), (3, .int (iI (w + (-1)))), (4, .int (iI c)), (0, .ref b), (1, .int (iI m)), (2, .int (iI k))]) dX12_isFrame_93 (by decide) rfl ?_
          refine tm_goto (tgt := 39) dX12_isFrame_95 (by decide) ?_
          exact tm_sub [0, 2, 1, 3, 4, 5] rfl (ih _ (by omega) (w + (-1)) (σ.2.1 16 ((12 * (σ.2.1 78 c)) + f)) (by omega) (by omega) rfl)
        · have hpr : pr σ m c f = -1 := if_pos (by omega)
          rw [hpr] at hdd
          refine tm_iconst dX12_isFrame_71 ?_
          refine tm_goto (tgt := 93) dX12_isFrame_72 (by decide) ?_
          refine tm_istore (L' := [(5, .int (iI (-1))), (3, .int (iI (w + (-1)))), (4, .int (iI c)), (0, .ref b), (1, .int (iI m)), (2, .int (iI k))]) dX12_isFrame_93 (by decide) rfl ?_
          refine tm_goto (tgt := 39) dX12_isFrame_95 (by decide) ?_
          exact tm_sub [0, 2, 1, 3, 4, 5] rfl (ih _ (by omega) (w + (-1)) (-1) (by omega) (by omega) rfl)
      · refine tm_aload_n dX12_isFrame_49 rfl 3 rfl ?_
        refine tm_iload dX12_isFrame_50 1 rfl ?_
        refine tm_putS (k := 83) (v := c) lay_12 dX12_isFrame_52 (by decide) fl12_572 rfl (tyX12_ok 83 (by decide)) rfl rfl rfl ?_
        refine tm_aload_n dX12_isFrame_55 rfl 3 rfl ?_
        refine tm_iload dX12_isFrame_56 0 rfl ?_
        refine tm_putS (k := 84) (v := f) lay_12 dX12_isFrame_58 (by decide) fl12_575 rfl (tyX12_ok 84 (by decide)) rfl rfl rfl ?_
        refine tm_iconst dX12_isFrame_61 ?_
        exact tm_zret (v := 1) rfl (by decide) dX12_isFrame_62 (hr1 c f hc.1 hc.2 (by omega) (by omega) (by omega))
set_option maxHeartbeats 4000000 in
set_option maxRecDepth 20000 in
theorem l_isFr1b (d : Nat) {b : Nat} {σ : MS} {m : Int} {k : Int} {post : Option Value → MS → Prop} (hR : RG σ) (hm2 : 0 ≤ m ∧ m ≤ 2) (hmc : 0 ≤ σ.2.1 73 m ∧ σ.2.1 73 m ≤ 9) (hde : ∀ c, 9 * m ≤ c → c < 9 * m + σ.2.1 73 m → DEC σ m c (fn σ m c)) (hx_104 : ∀ (w : Int) (c : Int) , Tm (d + 1) m_X12_isFrame 104 b σ [(4, .int (iI c)), (3, .int (iI w)), (0, .ref b), (1, .int (iI m)), (2, .int (iI k))] [] post) (hr1 : ∀ c f, 9 * m ≤ c → c < 9 * m + σ.2.1 73 m → 0 ≤ f → f < fn σ m c → k ≤ 117 → post (some (.int (iI 1))) (sS 84 f (sS 83 c σ))) : ∀ (n : Nat) (w : Int) (c : Int) , (9 * m - 1 ≤ c ∧ c < 9 * m + σ.2.1 73 m ∧ -2147483648 ≤ w ∧ w ≤ 2147483647) → (k ≤ w + 13 * (9 * m + σ.2.1 73 m - 1 - c)) → (c + 1 - 9 * m).toNat = n → Tm (d + 1) m_X12_isFrame 17 b σ [(4, .int (iI c)), (3, .int (iI w)), (0, .ref b), (1, .int (iI m)), (2, .int (iI k))] [] post := by
  intro n
  induction n using Nat.strongRecOn with
  | _ n ih =>
    intro w c h0 hk hm
    refine tm_iload dX12_isFrame_17 0 rfl ?_
    refine tm_bipush dX12_isFrame_19 (by decide) ?_
    refine tm_iload_n dX12_isFrame_21 rfl 3 rfl ?_
    refine tm_imul dX12_isFrame_22 ?_
    refine tm_icmp_lt (tgt := 104) dX12_isFrame_23 (by decide) ⟨by omega, by omega⟩ ⟨by omega, by omega⟩ (fun h1 => ?_) (fun h1 => ?_)
    · exact tm_sub [0, 1, 2, 3, 4] rfl (hx_104 (w) (c) )
    · refine tm_iload_n dX12_isFrame_26 rfl 1 rfl ?_
      refine tm_if_lt (tgt := 104) dX12_isFrame_27 (by decide) ⟨by omega, by omega⟩ (fun h2 => ?_) (fun h2 => ?_)
      · exact tm_sub [0, 1, 2, 3, 4] rfl (hx_104 (w) (c) )
      · have hd := hde c (by omega) (by omega)
        have hd2 := hd.2.1
        refine tm_aload_n dX12_isFrame_30 rfl 2 rfl ?_
        refine tm_get (k := 80) (v := .ref (b + 1 + 51)) lay_12 dX12_isFrame_31 (by decide) fl12_173 rfl ?_
        refine tm_iload dX12_isFrame_34 0 rfl ?_
        refine tm_iald (z := c) (v := σ.2.1 80 c) dX12_isFrame_36 (show mT[51]? = some (80, 0, 27) from rfl) (by omega) (by omega) (by decide) (rfl) ?_
        have g3 := RG.a hR 80 (c)
        refine tm_istore (L' := [(5, .int (iI (σ.2.1 80 c))), (4, .int (iI c)), (3, .int (iI w)), (0, .ref b), (1, .int (iI m)), (2, .int (iI k))]) dX12_isFrame_37 (by decide) rfl ?_
        refine tm_sub [0, 1, 2, 3, 4, 5] rfl (l_isFr2b (d) (σ := σ) (m := m) (k := k) (c := c) hR hm2 hmc hde ⟨by omega, by omega⟩ (fun w10 f11 f8 f9 => ?_) hr1 _ (w) (σ.2.1 80 c) (by omega) (by omega) rfl)
        show Tm _ _ 98 b σ [(5, .int (iI f11)), (4, .int (iI c)), (3, .int (iI w10)), (0, .ref b), (1, .int (iI m)), (2, .int (iI k))] [] _
        refine tm_iinc (q0 := 1) (L' := [(4, .int (iI (c + (-1)))), (5, .int (iI f11)), (3, .int (iI w10)), (0, .ref b), (1, .int (iI m)), (2, .int (iI k))]) dX12_isFrame_98 rfl (by decide) rfl ?_
        refine tm_goto (tgt := 17) dX12_isFrame_101 (by decide) ?_
        exact tm_sub [0, 2, 3, 4, 5] rfl (ih _ (by omega) (w10) (c + (-1)) (by omega) (by omega) rfl)
set_option maxHeartbeats 4000000 in
set_option maxRecDepth 20000 in
theorem c2_X12_isFrame (d : Nat) {b : Nat} {σ : MS} {m : Int} {k : Int} (hR : RG σ) (hm2 : 0 ≤ m ∧ m ≤ 2) (hmc : 0 ≤ σ.2.1 73 m ∧ σ.2.1 73 m ≤ 9) (hde : ∀ c, 9 * m ≤ c → c < 9 * m + σ.2.1 73 m → DEC σ m c (fn σ m c)) (h_k : -2147483648 ≤ k ∧ k ≤ 2147483647) : Tm (d + 1) m_X12_isFrame 0 b σ [(0, .ref b), (1, .int (iI m)), (2, .int (iI k))] [] (fun ro σ2 => ∃ v : Int, ro = some (.int (iI v)) ∧ ((v = 0 ∨ v = 1)) ∧ (Fr [83, 84] [] [] σ σ2) ∧ (RG σ2) ∧ (v = 1 → 9 * m ≤ σ2.1 83 ∧ σ2.1 83 < 9 * m + σ.2.1 73 m ∧ 0 ≤ σ2.1 84 ∧ σ2.1 84 < fn σ m (σ2.1 83)) ∧ (v = 1 → k ≤ 117) ∧ (v = 0 → σ2 = σ)) := by
  refine tm_iload_n dX12_isFrame_0 rfl 2 rfl ?_
  refine tm_istore_n (L' := [(3, .int (iI k)), (0, .ref b), (1, .int (iI m)), (2, .int (iI k))]) dX12_isFrame_1 rfl (by decide) rfl ?_
  refine tm_bipush dX12_isFrame_2 (by decide) ?_
  refine tm_iload_n dX12_isFrame_4 rfl 2 rfl ?_
  refine tm_imul dX12_isFrame_5 ?_
  refine tm_aload_n dX12_isFrame_6 rfl 1 rfl ?_
  refine tm_get (k := 73) (v := .ref (b + 1 + 44)) lay_12 dX12_isFrame_7 (by decide) fl12_152 rfl ?_
  refine tm_iload_n dX12_isFrame_10 rfl 2 rfl ?_
  refine tm_iald (z := m) (v := σ.2.1 73 m) dX12_isFrame_11 (show mT[44]? = some (73, 0, 3) from rfl) (by omega) (by omega) (by decide) (rfl) ?_
  have g1 := RG.a hR 73 (m)
  refine tm_iadd dX12_isFrame_12 ?_
  refine tm_iconst dX12_isFrame_13 ?_
  refine tm_isub dX12_isFrame_14 ?_
  refine tm_istore (L' := [(4, .int (iI (((9 * m) + (σ.2.1 73 m)) - 1))), (3, .int (iI k)), (0, .ref b), (1, .int (iI m)), (2, .int (iI k))]) dX12_isFrame_15 (by decide) rfl ?_
  refine tm_sub [0, 1, 2, 3, 4] rfl (l_isFr1b (d) (σ := σ) (m := m) (k := k) hR hm2 hmc hde (fun w6 c7 => ?_) (fun c f a e g i kk => ⟨_, rfl, by omega, (Fr.rfl.S (by decide)).S (by decide), (hR.S (by omega)).S (by have := (hde c a e).2.1; omega), fun _ => ⟨a, e, g, i⟩, fun _ => kk, fun q => absurd q (by decide)⟩) _ (k) (((9 * m) + (σ.2.1 73 m)) - 1) (by omega) (by omega) rfl)
  show Tm _ _ 104 b σ [(4, .int (iI c7)), (3, .int (iI w6)), (0, .ref b), (1, .int (iI m)), (2, .int (iI k))] [] _
  refine tm_iconst dX12_isFrame_104 ?_
  exact tm_zret (v := 0) rfl (by decide) dX12_isFrame_105 (⟨_, rfl, by omega, Fr.rfl, hR, fun q => absurd q (by decide), fun q => absurd q (by decide), fun _ => rfl⟩)
set_option maxHeartbeats 4000000 in
set_option maxRecDepth 20000 in
theorem c2_X12_startMachine (d : Nat) {b : Nat} {σ : MS} {m : Int} {x : Int} {a1 : Int} {a2 : Int} {a3 : Int} {a4 : Int} (hm2 : 0 ≤ m ∧ m ≤ 2) (hx : 0 ≤ x ∧ x < 6) (hR : RG σ) (hpm : 0 ≤ σ.2.1 11 x ∧ σ.2.1 11 x ≤ 4) (hnm : ∀ n, 0 ≤ n → n < σ.2.1 11 x → 0 ≤ σ.2.1 18 (144 * x + n) ∧ σ.2.1 18 (144 * x + n) < 192) (h_a1 : -2147483648 ≤ a1 ∧ a1 ≤ 2147483647) (h_a2 : -2147483648 ≤ a2 ∧ a2 ≤ 2147483647) (h_a3 : -2147483648 ≤ a3 ∧ a3 ≤ 2147483647) (h_a4 : -2147483648 ≤ a4 ∧ a4 ≤ 2147483647) : Tm (d + 2) m_X12_startMachine 0 b σ [(0, .ref b), (1, .int (iI m)), (2, .int (iI x)), (3, .int (iI a1)), (4, .int (iI a2)), (5, .int (iI a3)), (6, .int (iI a4))] [] (fun ro σ2 => ro = none ∧ (Fr [] [73, 74, 75, 76, 78, 79, 80, 81, 82] [] σ σ2) ∧ (RG σ2) ∧ (σ2.2.1 73 m = 1) ∧ (σ2.2.1 78 (9 * m) = x ∧ σ2.2.1 79 (9 * m) = 0 ∧ σ2.2.1 80 (9 * m) = 0) ∧ (∀ j, j ≠ m → X0 j σ σ2) ∧ (σ2.2.1 76 m = 0)) := by
  refine tm_aload_n dX12_startMachine_0 rfl 0 rfl ?_
  refine tm_get (k := 73) (v := .ref (b + 1 + 44)) lay_12 dX12_startMachine_1 (by decide) fl12_152 rfl ?_
  refine tm_iload_n dX12_startMachine_4 rfl 1 rfl ?_
  refine tm_iconst dX12_startMachine_5 ?_
  refine tm_iast (z := m) (v := 0) dX12_startMachine_6 (show mT[44]? = some (73, 0, 3) from rfl) (by omega) (by omega) (by decide) ?_
  refine tm_aload_n dX12_startMachine_7 rfl 0 rfl ?_
  refine tm_get (k := 74) (v := .ref (b + 1 + 45)) lay_12 dX12_startMachine_8 (by decide) fl12_155 rfl ?_
  refine tm_iload_n dX12_startMachine_11 rfl 1 rfl ?_
  refine tm_iconst dX12_startMachine_12 ?_
  refine tm_iast (z := m) (v := 0) dX12_startMachine_13 (show mT[45]? = some (74, 0, 3) from rfl) (by omega) (by omega) (by decide) ?_
  refine tm_aload_n dX12_startMachine_14 rfl 0 rfl ?_
  refine tm_get (k := 75) (v := .ref (b + 1 + 46)) lay_12 dX12_startMachine_15 (by decide) fl12_158 rfl ?_
  refine tm_iload_n dX12_startMachine_18 rfl 1 rfl ?_
  refine tm_iconst dX12_startMachine_19 ?_
  refine tm_iast (z := m) (v := 0) dX12_startMachine_20 (show mT[46]? = some (75, 0, 3) from rfl) (by omega) (by omega) (by decide) ?_
  refine tm_aload_n dX12_startMachine_21 rfl 0 rfl ?_
  refine tm_get (k := 76) (v := .ref (b + 1 + 47)) lay_12 dX12_startMachine_22 (by decide) fl12_161 rfl ?_
  refine tm_iload_n dX12_startMachine_25 rfl 1 rfl ?_
  refine tm_iconst dX12_startMachine_26 ?_
  refine tm_iast (z := m) (v := 0) dX12_startMachine_27 (show mT[47]? = some (76, 0, 3) from rfl) (by omega) (by omega) (by decide) ?_
  have z73 : (sA 76 (m) (0) (sA 75 (m) (0) (sA 74 (m) (0) (sA 73 (m) (0) σ)))).2.1 73 m = 0 := ra_o (by decide) (ra_o (by decide) (ra_o (by decide) ra_eq))
  refine tm_aload_n dX12_startMachine_28 rfl 0 rfl ?_
  refine tm_iload_n dX12_startMachine_29 rfl 1 rfl ?_
  refine tm_iload_n dX12_startMachine_30 rfl 2 rfl ?_
  refine tm_callV (M := m_X12_startMachine) (pc := 31) (ix := 536) (M' := m_X12_enterCall) (As := [.int (iI m), .int (iI x)]) (rest := []) dX12_startMachine_31 ok_X12_enterCall im_X12_enterCall se_X12_enterCall ml12_536 np_X12_enterCall rfl rfl (Nat.le_of_ble_eq_true rfl) (Nat.le_of_ble_eq_true rfl) rfl (c_X12_enterCall (d) (σ := (sA 76 (m) (0) (sA 75 (m) (0) (sA 74 (m) (0) (sA 73 (m) (0) σ))))) (m := m) (r := x) ((((hR.A (by omega)).A (by omega)).A (by omega)).A (by omega)) hm2 (by rw [z73]; decide) (by omega)) (fun r1 σ2 hp => ?_)
  obtain ⟨rfl, f4, f5, f6, f7, f8, f9⟩ := hp
  show Tm _ _ 34 b σ2 [(0, .ref b), (1, .int (iI m)), (2, .int (iI x)), (3, .int (iI a1)), (4, .int (iI a2)), (5, .int (iI a3)), (6, .int (iI a4))] [] _
  have hE2 := f6
  have hE3 := f7
  have hE4 := f8
  have hE5 := f9
  refine tm_iconst dX12_startMachine_34 ?_
  refine tm_istore (L' := [(7, .int (iI 0)), (0, .ref b), (1, .int (iI m)), (2, .int (iI x)), (3, .int (iI a1)), (4, .int (iI a2)), (5, .int (iI a3)), (6, .int (iI a4))]) dX12_startMachine_35 (by decide) rfl ?_
  refine tm_sub [0, 1, 2, 3, 4, 5, 6, 7] rfl (l_startM (d) (σ0 := σ2) (m := m) (x := x) (a1 := a1) (a2 := a2) (a3 := a3) (a4 := a4) hm2 hx f5 (by rw [((show Fr [] [73, 74, 75, 76, 78, 79, 80, 81, 82] [] σ σ2 from (((((Fr.rfl.A (by decide)).A (by decide)).A (by decide)).A (by decide)).trans (Fr.sub f4 (by decide) (by decide) (by decide))))).2.1 11 (by decide)]; exact hpm) (by rw [((show Fr [] [73, 74, 75, 76, 78, 79, 80, 81, 82] [] σ σ2 from (((((Fr.rfl.A (by decide)).A (by decide)).A (by decide)).A (by decide)).trans (Fr.sub f4 (by decide) (by decide) (by decide))))).2.1 11 (by decide), ((show Fr [] [73, 74, 75, 76, 78, 79, 80, 81, 82] [] σ σ2 from (((((Fr.rfl.A (by decide)).A (by decide)).A (by decide)).A (by decide)).trans (Fr.sub f4 (by decide) (by decide) (by decide))))).2.1 18 (by decide)]; exact hnm) (by omega) (by omega) (by omega) (by omega) (fun n114 σ15 F12 R13 => ?_) _ (0) σ2 Fr.rfl f5 (by omega) rfl)
  show Tm _ _ 106 b σ15 [(7, .int (iI n114)), (0, .ref b), (1, .int (iI m)), (2, .int (iI x)), (3, .int (iI a1)), (4, .int (iI a2)), (5, .int (iI a3)), (6, .int (iI a4))] [] _
  exact tm_vret rfl dX12_startMachine_106 (⟨rfl, ((((((Fr.rfl.A (by decide)).A (by decide)).A (by decide)).A (by decide)).trans (Fr.sub f4 (by decide) (by decide) (by decide))).trans (Fr.sub F12 (by decide) (by decide) (by decide))), R13, ra_F F12 (by decide) (hE2.trans (by rw [z73]; rfl)), by rw [z73] at hE3; rw [show 9 * m + 0 = 9 * m by omega] at hE3; exact ⟨ra_F F12 (by decide) hE3.1, ra_F F12 (by decide) hE3.2.1, ra_F F12 (by decide) hE3.2.2⟩, fun j hj => ⟨⟨ra_F F12 (by decide) ((hE4 j hj).trans (ra_o (by decide) (ra_o (by decide) (ra_o (by decide) (ra_ne hj rfl))))), ra_F F12 (by decide) (ra_F f4 (by decide) (ra_ne hj rfl))⟩, fun z a e => by rw [z73] at hE5; have q := hE5 z (by omega); exact ⟨ra_F F12 (by decide) (q.1.trans rfl), ra_F F12 (by decide) (q.2.1.trans rfl), ra_F F12 (by decide) (q.2.2.trans rfl)⟩⟩, ra_F F12 (by decide) (ra_F f4 (by decide) (ra_eq))⟩)
