set_option maxHeartbeats 4000000 in
set_option maxRecDepth 20000 in
theorem f_X12_worth (d : Nat) {b : Nat} {σ : MS} {c : Int} {k : Int} {w : Int} (hk : k = 2 → 0 ≤ 192 * c + w ∧ 192 * c + w < 5184) (hR : RG σ) (h_k : -2147483648 ≤ k ∧ k ≤ 2147483647) (h_w : -2147483648 ≤ w ∧ w ≤ 2147483647) : Tm (d + 1) m_X12_worth 0 b σ [(0, .ref b), (1, .int (iI c)), (2, .int (iI k)), (3, .int (iI w))] [] (fun ro σ2 => ∃ v : Int, ro = some (.int (iI v)) ∧ σ = σ2 ∧ (-2147483648 ≤ v ∧ v ≤ 2147483647) ∧ (v = wth σ c k w)) := by
  refine tm_iload_n dX12_worth_0 rfl 2 rfl ?_
  refine tm_iconst dX12_worth_1 ?_
  refine tm_icmp_ne (tgt := 20) dX12_worth_2 (by decide) ⟨by omega, by omega⟩ ⟨by decide, by decide⟩ (fun h1 => ?_) (fun h1 => ?_)
  · refine tm_iload_n dX12_worth_20 rfl 3 rfl ?_
    exact tm_iret rfl dX12_worth_21 (⟨_, rfl, rfl, by omega, by unfold wth; split <;> first | rfl | omega⟩)
  · refine tm_aload_n dX12_worth_5 rfl 0 rfl ?_
    refine tm_get (k := 82) (v := .ref (b + 1 + 53)) lay_12 dX12_worth_6 (by decide) fl12_179 rfl ?_
    refine tm_sipush dX12_worth_9 (by decide) ?_
    refine tm_iload_n dX12_worth_12 rfl 1 rfl ?_
    refine tm_imul dX12_worth_13 ?_
    refine tm_iload_n dX12_worth_14 rfl 3 rfl ?_
    refine tm_iadd dX12_worth_15 ?_
    refine tm_iald (z := (192 * c) + w) (v := σ.2.1 82 ((192 * c) + w)) dX12_worth_16 (show mT[53]? = some (82, 0, 5184) from rfl) (by omega) (by omega) (by decide) (rfl) ?_
    have g2 := RG.a hR 82 ((192 * c) + w)
    refine tm_goto (tgt := 21) dX12_worth_17 (by decide) ?_
    exact tm_iret rfl dX12_worth_21 (⟨_, rfl, rfl, by omega, by unfold wth; split <;> first | rfl | omega⟩)
set_option maxHeartbeats 4000000 in
set_option maxRecDepth 20000 in
theorem f_enter1 (d : Nat) {b : Nat} {σ0 : MS} {m : Int} {r : Int} {c : Int} {post : Option Value → MS → Prop} (hc : 0 ≤ c ∧ c < 27) (hx_72 : ∀ (f : Int) (σ : MS) , (Fr [] [81] [] σ0 σ) → (RG σ) → (ZR 81 (12 * c) (12 * c + 12) σ0 σ) → Tm (d + 1) m_X12_enterCall 72 b σ [(4, .int (iI f)), (3, .int (iI c)), (0, .ref b), (1, .int (iI m)), (2, .int (iI r))] [] post) : ∀ (n : Nat) (f : Int) (σ : MS) , (Fr [] [81] [] σ0 σ) → (RG σ) → (0 ≤ f ∧ f ≤ 12) → (ZR 81 (12 * c) (12 * c + f) σ0 σ) → (12 - f).toNat = n → Tm (d + 1) m_X12_enterCall 46 b σ [(4, .int (iI f)), (3, .int (iI c)), (0, .ref b), (1, .int (iI m)), (2, .int (iI r))] [] post := by
  intro n
  induction n using Nat.strongRecOn with
  | _ n ih =>
    intro f σ hF hR h0 hz hm
    refine tm_iload dX12_enterCall_46 0 rfl ?_
    refine tm_bipush dX12_enterCall_48 (by decide) ?_
    refine tm_icmp_ge (tgt := 72) dX12_enterCall_50 (by decide) ⟨by omega, by omega⟩ ⟨by decide, by decide⟩ (fun h1 => ?_) (fun h1 => ?_)
    · exact tm_sub [0, 1, 2, 3, 4] rfl (hx_72 (f) σ (Fr.rfl.trans (Fr.sub hF (by decide) (by decide) (by decide))) hR (by rw [show 12 * c + 12 = 12 * c + f by omega]; exact hz))
    · refine tm_aload_n dX12_enterCall_53 rfl 2 rfl ?_
      refine tm_get (k := 81) (v := .ref (b + 1 + 52)) lay_12 dX12_enterCall_54 (by decide) fl12_176 rfl ?_
      refine tm_bipush dX12_enterCall_57 (by decide) ?_
      refine tm_iload_n dX12_enterCall_59 rfl 1 rfl ?_
      refine tm_imul dX12_enterCall_60 ?_
      refine tm_iload dX12_enterCall_61 0 rfl ?_
      refine tm_iadd dX12_enterCall_63 ?_
      refine tm_iconst dX12_enterCall_64 ?_
      refine tm_iast (z := (12 * c) + f) (v := 0) dX12_enterCall_65 (show mT[52]? = some (81, 0, 324) from rfl) (by omega) (by omega) (by decide) ?_
      refine tm_iinc (q0 := 0) (L' := [(4, .int (iI (f + 1))), (3, .int (iI c)), (0, .ref b), (1, .int (iI m)), (2, .int (iI r))]) dX12_enterCall_66 rfl (by decide) rfl ?_
      refine tm_goto (tgt := 46) dX12_enterCall_69 (by decide) ?_
      exact tm_sub [0, 1, 2, 3, 4] rfl (ih _ (by omega) (f + 1) (sA 81 ((12 * c) + f) (0) σ) ((Fr.rfl.trans (Fr.sub hF (by decide) (by decide) (by decide))).A (by decide)) (hR.A (by omega)) (by omega) (hz.put (by omega) (by omega)) rfl)
set_option maxHeartbeats 4000000 in
set_option maxRecDepth 20000 in
theorem f_enter2 (d : Nat) {b : Nat} {σ0 : MS} {m : Int} {r : Int} {c : Int} {post : Option Value → MS → Prop} (hc : 0 ≤ c ∧ c < 27) (hx_103 : ∀ (f : Int) (σ : MS) , (Fr [] [82] [] σ0 σ) → (RG σ) → (ZR 82 (192 * c) (192 * c + 192) σ0 σ) → Tm (d + 1) m_X12_enterCall 103 b σ [(4, .int (iI f)), (3, .int (iI c)), (0, .ref b), (1, .int (iI m)), (2, .int (iI r))] [] post) : ∀ (n : Nat) (f : Int) (σ : MS) , (Fr [] [82] [] σ0 σ) → (RG σ) → (0 ≤ f ∧ f ≤ 192) → (ZR 82 (192 * c) (192 * c + f) σ0 σ) → (192 - f).toNat = n → Tm (d + 1) m_X12_enterCall 75 b σ [(4, .int (iI f)), (3, .int (iI c)), (0, .ref b), (1, .int (iI m)), (2, .int (iI r))] [] post := by
  intro n
  induction n using Nat.strongRecOn with
  | _ n ih =>
    intro f σ hF hR h0 hz hm
    refine tm_iload dX12_enterCall_75 0 rfl ?_
    refine tm_sipush dX12_enterCall_77 (by decide) ?_
    refine tm_icmp_ge (tgt := 103) dX12_enterCall_80 (by decide) ⟨by omega, by omega⟩ ⟨by decide, by decide⟩ (fun h1 => ?_) (fun h1 => ?_)
    · exact tm_sub [0, 1, 2, 3, 4] rfl (hx_103 (f) σ (Fr.rfl.trans (Fr.sub hF (by decide) (by decide) (by decide))) hR (by rw [show 192 * c + 192 = 192 * c + f by omega]; exact hz))
    · refine tm_aload_n dX12_enterCall_83 rfl 2 rfl ?_
      refine tm_get (k := 82) (v := .ref (b + 1 + 53)) lay_12 dX12_enterCall_84 (by decide) fl12_179 rfl ?_
      refine tm_sipush dX12_enterCall_87 (by decide) ?_
      refine tm_iload_n dX12_enterCall_90 rfl 1 rfl ?_
      refine tm_imul dX12_enterCall_91 ?_
      refine tm_iload dX12_enterCall_92 0 rfl ?_
      refine tm_iadd dX12_enterCall_94 ?_
      refine tm_iconst dX12_enterCall_95 ?_
      refine tm_iast (z := (192 * c) + f) (v := 0) dX12_enterCall_96 (show mT[53]? = some (82, 0, 5184) from rfl) (by omega) (by omega) (by decide) ?_
      refine tm_iinc (q0 := 0) (L' := [(4, .int (iI (f + 1))), (3, .int (iI c)), (0, .ref b), (1, .int (iI m)), (2, .int (iI r))]) dX12_enterCall_97 rfl (by decide) rfl ?_
      refine tm_goto (tgt := 75) dX12_enterCall_100 (by decide) ?_
      exact tm_sub [0, 1, 2, 3, 4] rfl (ih _ (by omega) (f + 1) (sA 82 ((192 * c) + f) (0) σ) ((Fr.rfl.trans (Fr.sub hF (by decide) (by decide) (by decide))).A (by decide)) (hR.A (by omega)) (by omega) (hz.put (by omega) (by omega)) rfl)
set_option maxHeartbeats 4000000 in
set_option maxRecDepth 20000 in
theorem f_X12_enterCall (d : Nat) {b : Nat} {σ : MS} {m : Int} {r : Int} (hR : RG σ) (hm : 0 ≤ m ∧ m ≤ 2) (hc : 0 ≤ σ.2.1 73 m ∧ σ.2.1 73 m ≤ 8) (h_r : -2147483648 ≤ r ∧ r ≤ 2147483647) : Tm (d + 1) m_X12_enterCall 0 b σ [(0, .ref b), (1, .int (iI m)), (2, .int (iI r))] [] (fun ro σ2 => ro = none ∧ (Fr [] [73, 78, 79, 80, 81, 82] [] σ σ2) ∧ (RG σ2) ∧ (σ2.2.1 73 m = σ.2.1 73 m + 1) ∧ (σ2.2.1 78 (9 * m + σ.2.1 73 m) = r ∧ σ2.2.1 79 (9 * m + σ.2.1 73 m) = 0 ∧ σ2.2.1 80 (9 * m + σ.2.1 73 m) = 0) ∧ (∀ j, j ≠ m → σ2.2.1 73 j = σ.2.1 73 j) ∧ (∀ j, j ≠ 9 * m + σ.2.1 73 m → σ2.2.1 78 j = σ.2.1 78 j ∧ σ2.2.1 79 j = σ.2.1 79 j ∧ σ2.2.1 80 j = σ.2.1 80 j) ∧ (ZR 81 (12 * (9 * m + σ.2.1 73 m)) (12 * (9 * m + σ.2.1 73 m) + 12) σ σ2 ∧ ZR 82 (192 * (9 * m + σ.2.1 73 m)) (192 * (9 * m + σ.2.1 73 m) + 192) σ σ2)) := by
  refine tm_bipush dX12_enterCall_0 (by decide) ?_
  refine tm_iload_n dX12_enterCall_2 rfl 1 rfl ?_
  refine tm_imul dX12_enterCall_3 ?_
  refine tm_aload_n dX12_enterCall_4 rfl 0 rfl ?_
  refine tm_get (k := 73) (v := .ref (b + 1 + 44)) lay_12 dX12_enterCall_5 (by decide) fl12_152 rfl ?_
  refine tm_iload_n dX12_enterCall_8 rfl 1 rfl ?_
  refine tm_iald (z := m) (v := σ.2.1 73 m) dX12_enterCall_9 (show mT[44]? = some (73, 0, 3) from rfl) (by omega) (by omega) (by decide) (rfl) ?_
  have g1 := RG.a hR 73 (m)
  refine tm_iadd dX12_enterCall_10 ?_
  refine tm_istore_n (L' := [(3, .int (iI ((9 * m) + (σ.2.1 73 m)))), (0, .ref b), (1, .int (iI m)), (2, .int (iI r))]) dX12_enterCall_11 rfl (by decide) rfl ?_
  refine tm_aload_n dX12_enterCall_12 rfl 1 rfl ?_
  refine tm_get (k := 73) (v := .ref (b + 1 + 44)) lay_12 dX12_enterCall_13 (by decide) fl12_152 rfl ?_
  refine tm_iload_n dX12_enterCall_16 rfl 2 rfl ?_
  refine tm_dup2 dX12_enterCall_17 rfl rfl ?_
  refine tm_iald (z := m) (v := σ.2.1 73 m) dX12_enterCall_18 (show mT[44]? = some (73, 0, 3) from rfl) (by omega) (by omega) (by decide) (rfl) ?_
  have g2 := RG.a hR 73 (m)
  refine tm_iconst dX12_enterCall_19 ?_
  refine tm_iadd dX12_enterCall_20 ?_
  refine tm_iast (z := m) (v := (σ.2.1 73 m) + 1) dX12_enterCall_21 (show mT[44]? = some (73, 0, 3) from rfl) (by omega) (by omega) (by decide) ?_
  refine tm_aload_n dX12_enterCall_22 rfl 1 rfl ?_
  refine tm_get (k := 78) (v := .ref (b + 1 + 49)) lay_12 dX12_enterCall_23 (by decide) fl12_167 rfl ?_
  refine tm_iload_n dX12_enterCall_26 rfl 0 rfl ?_
  refine tm_iload_n dX12_enterCall_27 rfl 3 rfl ?_
  refine tm_iast (z := (9 * m) + (σ.2.1 73 m)) (v := r) dX12_enterCall_28 (show mT[49]? = some (78, 0, 27) from rfl) (by omega) (by omega) (by decide) ?_
  refine tm_aload_n dX12_enterCall_29 rfl 1 rfl ?_
  refine tm_get (k := 79) (v := .ref (b + 1 + 50)) lay_12 dX12_enterCall_30 (by decide) fl12_170 rfl ?_
  refine tm_iload_n dX12_enterCall_33 rfl 0 rfl ?_
  refine tm_iconst dX12_enterCall_34 ?_
  refine tm_iast (z := (9 * m) + (σ.2.1 73 m)) (v := 0) dX12_enterCall_35 (show mT[50]? = some (79, 0, 27) from rfl) (by omega) (by omega) (by decide) ?_
  refine tm_aload_n dX12_enterCall_36 rfl 1 rfl ?_
  refine tm_get (k := 80) (v := .ref (b + 1 + 51)) lay_12 dX12_enterCall_37 (by decide) fl12_173 rfl ?_
  refine tm_iload_n dX12_enterCall_40 rfl 0 rfl ?_
  refine tm_iconst dX12_enterCall_41 ?_
  refine tm_iast (z := (9 * m) + (σ.2.1 73 m)) (v := 0) dX12_enterCall_42 (show mT[51]? = some (80, 0, 27) from rfl) (by omega) (by omega) (by decide) ?_
  refine tm_iconst dX12_enterCall_43 ?_
  refine tm_istore (L' := [(4, .int (iI 0)), (3, .int (iI ((9 * m) + (σ.2.1 73 m)))), (0, .ref b), (1, .int (iI m)), (2, .int (iI r))]) dX12_enterCall_44 (by decide) rfl ?_
  refine tm_sub [0, 1, 2, 3, 4] rfl (f_enter1 (d) (σ0 := (sA 80 ((9 * m) + (σ.2.1 73 m)) (0) (sA 79 ((9 * m) + (σ.2.1 73 m)) (0) (sA 78 ((9 * m) + (σ.2.1 73 m)) (r) (sA 73 (m) ((σ.2.1 73 m) + 1) σ))))) (m := m) (r := r) (c := (9 * m) + (σ.2.1 73 m)) (by omega) (fun f8 σ9 F5 R6 f7 => ?_) _ (0) (sA 80 ((9 * m) + (σ.2.1 73 m)) (0) (sA 79 ((9 * m) + (σ.2.1 73 m)) (0) (sA 78 ((9 * m) + (σ.2.1 73 m)) (r) (sA 73 (m) ((σ.2.1 73 m) + 1) σ)))) Fr.rfl ((((hR.A (by omega)).A (by omega)).A (by omega)).A (by omega)) (by omega) (ZR.z (by omega)) rfl)
  show Tm _ _ 72 b σ9 [(4, .int (iI f8)), (3, .int (iI ((9 * m) + (σ.2.1 73 m)))), (0, .ref b), (1, .int (iI m)), (2, .int (iI r))] [] _
  have z81 := f7
  refine tm_iconst dX12_enterCall_72 ?_
  refine tm_istore (L' := [(4, .int (iI 0)), (3, .int (iI ((9 * m) + (σ.2.1 73 m)))), (0, .ref b), (1, .int (iI m)), (2, .int (iI r))]) dX12_enterCall_73 (by decide) rfl ?_
  refine tm_sub [0, 1, 2, 3, 4] rfl (f_enter2 (d) (σ0 := σ9) (m := m) (r := r) (c := (9 * m) + (σ.2.1 73 m)) (by omega) (fun f15 σ16 F12 R13 f14 => ?_) _ (0) σ9 Fr.rfl R6 (by omega) (ZR.z (by omega)) rfl)
  show Tm _ _ 103 b σ16 [(4, .int (iI f15)), (3, .int (iI ((9 * m) + (σ.2.1 73 m)))), (0, .ref b), (1, .int (iI m)), (2, .int (iI r))] [] _
  exact tm_vret rfl dX12_enterCall_103 (⟨rfl, ((((((Fr.rfl.A (by decide)).A (by decide)).A (by decide)).A (by decide)).trans (Fr.sub F5 (by decide) (by decide) (by decide))).trans (Fr.sub F12 (by decide) (by decide) (by decide))), R13, ra_F F12 (by decide) (ra_F F5 (by decide) (ra_o (by decide) (ra_o (by decide) (ra_o (by decide) (ra_eq))))), ⟨(ra_F F12 (by decide) (ra_F F5 (by decide) (ra_o (by decide) (ra_o (by decide) (ra_eq))))), (ra_F F12 (by decide) (ra_F F5 (by decide) (ra_o (by decide) (ra_eq)))), (ra_F F12 (by decide) (ra_F F5 (by decide) (ra_eq)))⟩, fun j hj => ra_F F12 (by decide) (ra_F F5 (by decide) (ra_o (by decide) (ra_o (by decide) (ra_o (by decide) (ra_ne hj (rfl)))))), fun j hj => ⟨ra_F F12 (by decide) (ra_F F5 (by decide) (ra_o (by decide) (ra_o (by decide) (ra_ne hj (ra_o (by decide) (rfl)))))), ra_F F12 (by decide) (ra_F F5 (by decide) (ra_o (by decide) (ra_ne hj (ra_o (by decide) (ra_o (by decide) (rfl)))))), ra_F F12 (by decide) (ra_F F5 (by decide) (ra_ne hj (ra_o (by decide) (ra_o (by decide) (ra_o (by decide) (rfl))))))⟩, ⟨(z81.l rfl).r (F12.2.1 81 (by decide)), f14.l (F5.2.1 82 (by decide))⟩⟩)
set_option maxHeartbeats 4000000 in
set_option maxRecDepth 20000 in
theorem f_X12_returns (d : Nat) {b : Nat} {σ : MS} {m : Int} {c : Int} {w : Int} (hR : RG σ) (hm2 : 0 ≤ m ∧ m ≤ 2) (hrun : RUN σ m) (hbka : BKA σ m) (hc : c = 9 * m + σ.2.1 73 m - 1) (h_w : -2147483648 ≤ w ∧ w ≤ 2147483647) : Tm (d + 2) m_X12_returns 0 b σ [(0, .ref b), (1, .int (iI m)), (2, .int (iI c)), (3, .int (iI w))] [] (fun ro σ2 => ∃ v : Int, ro = some (.int (iI v)) ∧ (Fr [] [73, 75, 79, 82] [] σ σ2) ∧ (RG σ2) ∧ ((v = 2 ∧ σ2.2.1 73 m = 0) ∨ (v = 0 ∧ RUN σ2 m)) ∧ (XM m σ σ2) ∧ (v = 0 → σ2.2.1 73 m = σ.2.1 73 m - 1 ∧ 2 ≤ σ.2.1 73 m ∧ (∀ z, σ2.2.1 78 z = σ.2.1 78 z) ∧ (∀ z, z ≠ c - 1 → σ2.2.1 79 z = σ.2.1 79 z) ∧ σ2.2.1 79 (c - 1) = σ.2.1 79 (c - 1) + 1) ∧ (RTX σ m c w v σ2)) := by
  have h1 := hrun.1
  have hR6 := hbka.1
  refine tm_aload_n dX12_returns_0 rfl 0 rfl ?_
  refine tm_get (k := 73) (v := .ref (b + 1 + 44)) lay_12 dX12_returns_1 (by decide) fl12_152 rfl ?_
  refine tm_iload_n dX12_returns_4 rfl 1 rfl ?_
  refine tm_dup2 dX12_returns_5 rfl rfl ?_
  refine tm_iald (z := m) (v := σ.2.1 73 m) dX12_returns_6 (show mT[44]? = some (73, 0, 3) from rfl) (by omega) (by omega) (by decide) (rfl) ?_
  have g1 := RG.a hR 73 (m)
  refine tm_iconst dX12_returns_7 ?_
  refine tm_isub dX12_returns_8 ?_
  refine tm_iast (z := m) (v := (σ.2.1 73 m) - 1) dX12_returns_9 (show mT[44]? = some (73, 0, 3) from rfl) (by omega) (by omega) (by decide) ?_
  refine tm_aload_n dX12_returns_10 rfl 0 rfl ?_
  refine tm_get (k := 73) (v := .ref (b + 1 + 44)) lay_12 dX12_returns_11 (by decide) fl12_152 rfl ?_
  refine tm_iload_n dX12_returns_14 rfl 1 rfl ?_
  refine tm_iald (z := m) (v := (σ.2.1 73 m) - 1) dX12_returns_15 (show mT[44]? = some (73, 0, 3) from rfl) (by omega) (by omega) (by decide) (ra_eq) ?_
  refine tm_if_ne (tgt := 28) dX12_returns_16 (by decide) ⟨by omega, by omega⟩ (fun h2 => ?_) (fun h2 => ?_)
  · have hp := hrun.2.1 (c - 1) (by omega) (by omega)
    have hk10 := hrun.2.2.1 (c - 1) (by omega) (by omega)
    have hbg := hbka.2 _ hp.1.1 hp.1.2
    have hp1 := hp.1
    have hp2 := hp.2.1
    have hb9 := hbg.1
    have hoki := hbg.2.1 _ hp.2.1.1 hp.2.1.2
    have hdd := hoki.2.1 (Or.inr hk10)
    refine tm_iload_n dX12_returns_28 rfl 2 rfl ?_
    refine tm_iconst dX12_returns_29 ?_
    refine tm_isub dX12_returns_30 ?_
    refine tm_istore (L' := [(4, .int (iI (c - 1))), (0, .ref b), (1, .int (iI m)), (2, .int (iI c)), (3, .int (iI w))]) dX12_returns_31 (by decide) rfl ?_
    refine tm_aload_n dX12_returns_33 rfl 1 rfl ?_
    refine tm_aload_n dX12_returns_34 rfl 1 rfl ?_
    refine tm_iload_n dX12_returns_35 rfl 2 rfl ?_
    refine tm_callV (M := m_X12_returns) (pc := 36) (ix := 542) (M' := m_X12_bank) (As := [.int (iI m)]) (rest := [.ref b]) dX12_returns_36 ok_X12_bank im_X12_bank se_X12_bank ml12_542 np_X12_bank rfl rfl (Nat.le_of_ble_eq_true rfl) (Nat.le_of_ble_eq_true rfl) rfl (c_X12_bank (d) (σ := (sA 73 (m) ((σ.2.1 73 m) - 1) σ)) (m := m) (by omega)) (fun r3 σ4 hp => ?_)
    obtain ⟨v5, rfl, rfl, f6, f7, f8⟩ := hp
    show Tm _ _ 39 b (sA 73 (m) ((σ.2.1 73 m) - 1) σ) [(4, .int (iI (c - 1))), (0, .ref b), (1, .int (iI m)), (2, .int (iI c)), (3, .int (iI w))] [.int (iI v5), .ref b] _
    have hbv : v5 = bkm m := bkm_2 f7 f8
    rw [← hbv] at hp2 hb9 hdd
    refine tm_aload_n dX12_returns_39 rfl 1 rfl ?_
    refine tm_get (k := 78) (v := .ref (b + 1 + 49)) lay_12 dX12_returns_40 (by decide) fl12_167 rfl ?_
    refine tm_iload dX12_returns_43 0 rfl ?_
    refine tm_iald (z := c - 1) (v := σ.2.1 78 (c - 1)) dX12_returns_45 (show mT[49]? = some (78, 0, 27) from rfl) (by omega) (by omega) (by decide) (ra_o (by decide) (rfl)) ?_
    have g9 := RG.a hR 78 (c - 1)
    refine tm_iadd dX12_returns_46 ?_
    refine tm_aload_n dX12_returns_47 rfl 1 rfl ?_
    refine tm_get (k := 79) (v := .ref (b + 1 + 50)) lay_12 dX12_returns_48 (by decide) fl12_170 rfl ?_
    refine tm_iload dX12_returns_51 0 rfl ?_
    refine tm_iald (z := c - 1) (v := σ.2.1 79 (c - 1)) dX12_returns_53 (show mT[50]? = some (79, 0, 27) from rfl) (by omega) (by omega) (by decide) (ra_o (by decide) (rfl)) ?_
    have g10 := RG.a hR 79 (c - 1)
    refine tm_callV (M := m_X12_returns) (pc := 54) (ix := 203) (M' := m_X12_at) (As := [.int (iI (v5 + (σ.2.1 78 (c - 1)))), .int (iI (σ.2.1 79 (c - 1)))]) (rest := []) dX12_returns_54 ok_X12_at im_X12_at se_X12_at ml12_203 np_X12_at rfl rfl (Nat.le_of_ble_eq_true rfl) (Nat.le_of_ble_eq_true rfl) rfl (c_X12_at (d) (σ := (sA 73 (m) ((σ.2.1 73 m) - 1) σ)) (x := v5 + (σ.2.1 78 (c - 1))) (k := σ.2.1 79 (c - 1)) ) (fun r11 σ12 hp => ?_)
    obtain ⟨v13, rfl, rfl, f14⟩ := hp
    subst f14
    show Tm _ _ 57 b (sA 73 (m) ((σ.2.1 73 m) - 1) σ) [(4, .int (iI (c - 1))), (0, .ref b), (1, .int (iI m)), (2, .int (iI c)), (3, .int (iI w))] [.int (iI (220 * (v5 + (σ.2.1 78 (c - 1))) + (σ.2.1 79 (c - 1))))] _
    refine tm_istore (L' := [(5, .int (iI (220 * (v5 + (σ.2.1 78 (c - 1))) + (σ.2.1 79 (c - 1))))), (4, .int (iI (c - 1))), (0, .ref b), (1, .int (iI m)), (2, .int (iI c)), (3, .int (iI w))]) dX12_returns_57 (by decide) rfl ?_
    refine tm_aload_n dX12_returns_59 rfl 2 rfl ?_
    refine tm_get (k := 82) (v := .ref (b + 1 + 53)) lay_12 dX12_returns_60 (by decide) fl12_179 rfl ?_
    refine tm_sipush dX12_returns_63 (by decide) ?_
    refine tm_iload dX12_returns_66 1 rfl ?_
    refine tm_imul dX12_returns_68 ?_
    refine tm_aload_n dX12_returns_69 rfl 2 rfl ?_
    refine tm_get (k := 4) (v := .ref (b + 1 + 2)) lay_12 dX12_returns_70 (by decide) fl12_17 rfl ?_
    refine tm_iload dX12_returns_73 0 rfl ?_
    refine tm_iald (z := 220 * (v5 + (σ.2.1 78 (c - 1))) + (σ.2.1 79 (c - 1))) (v := σ.2.1 4 (220 * (v5 + (σ.2.1 78 (c - 1))) + (σ.2.1 79 (c - 1)))) dX12_returns_75 (show mT[2]? = some (4, 0, 2860) from rfl) (by omega) (by omega) (by decide) (ra_o (by decide) (rfl)) ?_
    have g15 := RG.a hR 4 (220 * (v5 + (σ.2.1 78 (c - 1))) + (σ.2.1 79 (c - 1)))
    refine tm_iadd dX12_returns_76 ?_
    refine tm_iload_n dX12_returns_77 rfl 5 rfl ?_
    refine tm_iast (z := (192 * (c - 1)) + (σ.2.1 4 (220 * (v5 + (σ.2.1 78 (c - 1))) + (σ.2.1 79 (c - 1))))) (v := w) dX12_returns_78 (show mT[53]? = some (82, 0, 5184) from rfl) (by omega) (by omega) (by decide) ?_
    refine tm_aload_n dX12_returns_79 rfl 2 rfl ?_
    refine tm_get (k := 79) (v := .ref (b + 1 + 50)) lay_12 dX12_returns_80 (by decide) fl12_170 rfl ?_
    refine tm_iload dX12_returns_83 1 rfl ?_
    refine tm_dup2 dX12_returns_85 rfl rfl ?_
    refine tm_iald (z := c - 1) (v := σ.2.1 79 (c - 1)) dX12_returns_86 (show mT[50]? = some (79, 0, 27) from rfl) (by omega) (by omega) (by decide) (ra_o (by decide) (ra_o (by decide) (rfl))) ?_
    have g16 := RG.a hR 79 (c - 1)
    refine tm_iconst dX12_returns_87 ?_
    refine tm_iadd dX12_returns_88 ?_
    refine tm_iast (z := c - 1) (v := (σ.2.1 79 (c - 1)) + 1) dX12_returns_89 (show mT[50]? = some (79, 0, 27) from rfl) (by omega) (by omega) (by decide) ?_
    refine tm_iconst dX12_returns_90 ?_
    exact tm_iret rfl dX12_returns_91 (⟨_, rfl, (((Fr.rfl.A (by decide)).A (by decide)).A (by decide)), (((hR.A (by omega)).A (by omega)).A (by omega)), Or.inr ⟨rfl, hrun.pop (d := c - 1) (by omega) (by omega) (show Fr [] [73, 79, 82] [] σ (sA 79 (c - 1) ((σ.2.1 79 (c - 1)) + 1) (sA 82 ((192 * (c - 1)) + (σ.2.1 4 (220 * (v5 + (σ.2.1 78 (c - 1))) + (σ.2.1 79 (c - 1))))) (w) (sA 73 (m) ((σ.2.1 73 m) - 1) σ))) from (((Fr.rfl.A (by decide)).A (by decide)).A (by decide))) (by decide) (by decide) (ra_o (by decide) (ra_o (by decide) ra_eq)) (fun _ => rfl) (fun _ => rfl) (fun z hz => ra_ne hz rfl) ra_eq⟩, ⟨fun j hj => ⟨ra_o (by decide) (ra_o (by decide) (ra_ne hj rfl)), rfl⟩, fun z hz => ⟨rfl, ra_ne (by omega) rfl, rfl⟩⟩, fun _ => ⟨ra_o (by decide) (ra_o (by decide) ra_eq), (by omega), (fun _ => rfl), (fun z hz => ra_ne hz rfl), ra_eq⟩, Or.inr ⟨rfl, by omega, by rw [← hbv]⟩⟩)
  · refine tm_aload_n dX12_returns_19 rfl 0 rfl ?_
    refine tm_get (k := 75) (v := .ref (b + 1 + 46)) lay_12 dX12_returns_20 (by decide) fl12_158 rfl ?_
    refine tm_iload_n dX12_returns_23 rfl 1 rfl ?_
    refine tm_iload_n dX12_returns_24 rfl 3 rfl ?_
    refine tm_iast (z := m) (v := w) dX12_returns_25 (show mT[46]? = some (75, 0, 3) from rfl) (by omega) (by omega) (by decide) ?_
    refine tm_iconst dX12_returns_26 ?_
    exact tm_iret rfl dX12_returns_27 (⟨_, rfl, ((Fr.rfl.A (by decide)).A (by decide)), ((hR.A (by omega)).A (by omega)), Or.inl ⟨rfl, ra_o (by decide) (ra_eq.trans (by omega))⟩, ⟨fun j hj => ⟨ra_o (by decide) (ra_ne hj rfl), rfl⟩, fun z hz => ⟨rfl, rfl, rfl⟩⟩, fun q => absurd q (by decide), Or.inl ⟨rfl, by omega, rfl⟩⟩)
