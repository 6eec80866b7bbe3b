section
set_option maxHeartbeats 1000000 in
set_option maxRecDepth 20000 in
theorem f_X12_isAtBegin (d : Nat) {b : Nat} {σ : MS} {r : Int} {g : Int} (hr : 0 ≤ r ∧ r < 6) (hR : RG σ) (hpar : PAR σ) (hbl : BO 59 σ) (hg : 0 ≤ g ∧ g < 192) : Tm (d + 2) m_X12_isAtBegin 0 b σ [(0, .ref b), (1, .int (iI r)), (2, .int (iI g))] [] (fun ro σ2 => ∃ v : Int, ro = some (.int (iI v)) ∧ σ = σ2 ∧ ((v = 0 ∨ v = 1)) ∧ ((v = 1 ↔ PMQ σ r g ∨ σ.2.1 59 g = 1))) := by
  refine tm_aload_n dX12_isAtBegin_0 rfl 0 rfl ?_
  refine tm_iload_n dX12_isAtBegin_1 rfl 1 rfl ?_
  refine tm_iload_n dX12_isAtBegin_2 rfl 2 rfl ?_
  refine tm_callV (M := m_X12_isAtBegin) (pc := 3) (ix := 503) (M' := m_X12_isParam) (As := [.int (iI r), .int (iI g)]) (rest := []) dX12_isAtBegin_3 ok_X12_isParam im_X12_isParam se_X12_isParam ml12_503 np_X12_isParam rfl rfl (Nat.le_of_ble_eq_true rfl) (Nat.le_of_ble_eq_true rfl) rfl (c_X12_isParam (d) (σ := σ) (r := r) (g := g) (by omega) hR hpar (by omega)) (fun r1 σ2 hp => ?_)
  obtain ⟨v3, rfl, rfl, f4, f5⟩ := hp
  show Tm _ _ 6 b σ [(0, .ref b), (1, .int (iI r)), (2, .int (iI g))] [.int (iI v3)] _
  have hP : v3 = 1 ↔ PMQ σ r g := f5
  clear f5
  refine tm_if_ne (tgt := 18) dX12_isAtBegin_6 (by decide) ⟨by omega, by omega⟩ (fun h6 => ?_) (fun h6 => ?_)
  · refine tm_iconst dX12_isAtBegin_18 ?_
    refine tm_goto (tgt := 23) dX12_isAtBegin_19 (by decide) ?_
    exact tm_zret (v := 1) rfl (by decide) dX12_isAtBegin_23 (⟨_, rfl, rfl, by omega, fun _ => by first | exact Or.inr (by omega) | exact Or.inl (hP.mp (by omega)), fun _ => rfl⟩)
  · refine tm_aload_n dX12_isAtBegin_9 rfl 0 rfl ?_
    refine tm_get (k := 59) (v := .ref (b + 1 + 37)) lay_12 dX12_isAtBegin_10 (by decide) fl12_130 rfl ?_
    refine tm_iload_n dX12_isAtBegin_13 rfl 2 rfl ?_
    refine tm_zald (z := g) (v := σ.2.1 59 g) dX12_isAtBegin_14 (show mT[37]? = some (59, 2, 42432) from rfl) (by omega) (by omega) (by decide) (rfl) ?_
    have g7 := RG.a hR 59 (g)
    have := hbl (g)
    refine tm_if_eq (tgt := 22) dX12_isAtBegin_15 (by decide) ⟨by omega, by omega⟩ (fun h8 => ?_) (fun h8 => ?_)
    · refine tm_iconst dX12_isAtBegin_22 ?_
      exact tm_zret (v := 0) rfl (by decide) dX12_isAtBegin_23 (⟨_, rfl, rfl, by omega, fun q => absurd q (by decide), fun q => by rcases q with q | q; have e := hP.mpr q; omega; omega⟩)
    · refine tm_iconst dX12_isAtBegin_18 ?_
      refine tm_goto (tgt := 23) dX12_isAtBegin_19 (by decide) ?_
      exact tm_zret (v := 1) rfl (by decide) dX12_isAtBegin_23 (⟨_, rfl, rfl, by omega, fun _ => by first | exact Or.inr (by omega) | exact Or.inl (hP.mp (by omega)), fun _ => rfl⟩)
set_option maxHeartbeats 1000000 in
set_option maxRecDepth 20000 in
theorem f_X12_atOdds (d : Nat) {b : Nat} {σ : MS} {x : Int} {y : Int} (hx : 0 ≤ x ∧ x < 192) (hy : 0 ≤ y ∧ y < 192) (hR : RG σ) (hbo : BO 63 σ) : Tm (d + 1) m_X12_atOdds 0 b σ [(0, .ref b), (1, .int (iI x)), (2, .int (iI y))] [] (fun ro σ2 => ro = none ∧ (Fr [] [63] [] σ σ2) ∧ (RG σ2) ∧ (BO 63 σ2) ∧ (x = y → σ2 = σ) ∧ (x ≠ y → σ2 = sA 63 (192 * y + x) 1 (sA 63 (192 * x + y) 1 σ))) := by
  refine tm_iload_n dX12_atOdds_0 rfl 1 rfl ?_
  refine tm_iload_n dX12_atOdds_1 rfl 2 rfl ?_
  refine tm_icmp_eq (tgt := 31) dX12_atOdds_2 (by decide) ⟨by omega, by omega⟩ ⟨by omega, by omega⟩ (fun h1 => ?_) (fun h1 => ?_)
  · exact tm_vret rfl dX12_atOdds_31 (⟨rfl, Fr.rfl, hR, hbo, fun _ => rfl, fun q => absurd (by omega) q⟩)
  · refine tm_aload_n dX12_atOdds_5 rfl 0 rfl ?_
    refine tm_get (k := 63) (v := .ref (b + 1 + 40)) lay_12 dX12_atOdds_6 (by decide) fl12_140 rfl ?_
    refine tm_sipush dX12_atOdds_9 (by decide) ?_
    refine tm_iload_n dX12_atOdds_12 rfl 1 rfl ?_
    refine tm_imul dX12_atOdds_13 ?_
    refine tm_iload_n dX12_atOdds_14 rfl 2 rfl ?_
    refine tm_iadd dX12_atOdds_15 ?_
    refine tm_iconst dX12_atOdds_16 ?_
    refine tm_zast (z := (192 * x) + y) (v := 1) dX12_atOdds_17 (show mT[40]? = some (63, 2, 36864) from rfl) (by omega) (by omega) (by decide) (by omega) ?_
    refine tm_aload_n dX12_atOdds_18 rfl 0 rfl ?_
    refine tm_get (k := 63) (v := .ref (b + 1 + 40)) lay_12 dX12_atOdds_19 (by decide) fl12_140 rfl ?_
    refine tm_sipush dX12_atOdds_22 (by decide) ?_
    refine tm_iload_n dX12_atOdds_25 rfl 2 rfl ?_
    refine tm_imul dX12_atOdds_26 ?_
    refine tm_iload_n dX12_atOdds_27 rfl 1 rfl ?_
    refine tm_iadd dX12_atOdds_28 ?_
    refine tm_iconst dX12_atOdds_29 ?_
    refine tm_zast (z := (192 * y) + x) (v := 1) dX12_atOdds_30 (show mT[40]? = some (63, 2, 36864) from rfl) (by omega) (by omega) (by decide) (by omega) ?_
    exact tm_vret rfl dX12_atOdds_31 (⟨rfl, ((Fr.rfl.A (by decide)).A (by decide)), ((hR.A (by omega)).A (by omega)), (hbo.A (by omega)).A (by omega), fun q => absurd q (by omega), fun _ => rfl⟩)
set_option maxHeartbeats 1000000 in
set_option maxRecDepth 20000 in
theorem f_sh1 (d : Nat) {b : Nat} {σ0 : MS} {r : Int} {post : Option Value → MS → Prop} (hx_26 : ∀ (k : Int) (σ : MS) , (Fr [] [63] [] σ0 σ) → (RG σ) → (BO 63 σ) → (OX σ (fun _ _ => False)) → Tm (d + 1) m_X12_share 26 b σ [(2, .int (iI k)), (0, .ref b), (1, .int (iI r))] [] post) : ∀ (n : Nat) (k : Int) (σ : MS) , (Fr [] [63] [] σ0 σ) → (RG σ) → (0 ≤ k ∧ k ≤ 36864) → (BO 63 σ) → (∀ y, 0 ≤ y → y < k → σ.2.1 63 y = 0) → (36864 - k).toNat = n → Tm (d + 1) m_X12_share 7 b σ [(2, .int (iI k)), (0, .ref b), (1, .int (iI r))] [] post := by
  intro n
  induction n using Nat.strongRecOn with
  | _ n ih =>
    intro k σ hF hR h0 hbd hz hm
    refine tm_iload_n dX12_share_7 rfl 0 rfl ?_
    refine tm_ldc (n := 36864) dX12_share_8 cst12_139 rfl ?_
    refine tm_icmp_ge (tgt := 26) dX12_share_10 (by decide) ⟨by omega, by omega⟩ ⟨by decide, by decide⟩ (fun h1 => ?_) (fun h1 => ?_)
    · exact tm_sub [0, 1, 2] rfl (hx_26 (k) σ (Fr.rfl.trans (Fr.sub hF (by decide) (by decide) (by decide))) hR hbd (fun x y a b c d => by rw [hz (192 * x + y) (by omega) (by omega)]; exact ⟨fun q => by omega, fun q => q.elim⟩))
    · refine tm_aload_n dX12_share_13 rfl 1 rfl ?_
      refine tm_get (k := 63) (v := .ref (b + 1 + 40)) lay_12 dX12_share_14 (by decide) fl12_140 rfl ?_
      refine tm_iload_n dX12_share_17 rfl 0 rfl ?_
      refine tm_iconst dX12_share_18 ?_
      refine tm_zast (z := k) (v := 0) dX12_share_19 (show mT[40]? = some (63, 2, 36864) from rfl) (by omega) (by omega) (by decide) (by omega) ?_
      refine tm_iinc (q0 := 0) (L' := [(2, .int (iI (k + 1))), (0, .ref b), (1, .int (iI r))]) dX12_share_20 rfl (by decide) rfl ?_
      refine tm_goto (tgt := 7) dX12_share_23 (by decide) ?_
      exact tm_sub [0, 1, 2] rfl (ih _ (by omega) (k + 1) (sA 63 (k) (0) σ) ((Fr.rfl.trans (Fr.sub hF (by decide) (by decide) (by decide))).A (by decide)) (hR.A (by omega)) (by omega) (hbd.A (by omega)) (fun y a c => by
          by_cases q : y = k
          · subst q; exact ra_eq
          · exact ra_ne q (hz y a (by omega))) rfl)
set_option maxHeartbeats 1000000 in
set_option maxRecDepth 20000 in
theorem f_sh3 (d : Nat) {b : Nat} {σ0 : MS} {r : Int} {a1 : Int} {BG : Int → Prop} {post : Option Value → MS → Prop} (hr : 0 ≤ r ∧ r < 6) (hR0 : RG σ0) (hpar : PAR σ0) (hbl : BO 59 σ0) (ha : 0 ≤ a1 ∧ a1 < 192) (hBG : ∀ g, 0 ≤ g → g < 192 → ((PMQ σ0 r g ∨ σ0.2.1 59 g = 1) ↔ BG g)) (hx_72 : ∀ (c1 : Int) (σ : MS) , (Fr [] [63] [] σ0 σ) → (RG σ) → (BO 63 σ) → (OX σ (OBq BG (a1 + 1) 0)) → Tm (d + 3) m_X12_share 72 b σ [(3, .int (iI c1)), (2, .int (iI a1)), (0, .ref b), (1, .int (iI r))] [] post) : ∀ (n : Nat) (c1 : Int) (σ : MS) , (Fr [] [63] [] σ0 σ) → (RG σ) → (0 ≤ c1 ∧ c1 ≤ a1) → (BO 63 σ) → (OX σ (OBq BG a1 c1)) → (a1 - c1).toNat = n → Tm (d + 3) m_X12_share 37 b σ [(3, .int (iI c1)), (2, .int (iI a1)), (0, .ref b), (1, .int (iI r))] [] post := by
  intro n
  induction n using Nat.strongRecOn with
  | _ n ih =>
    intro c1 σ hF hR h0 hbd hox hm
    have hPM : ∀ g, PMQ σ r g ↔ PMQ σ0 r g := fun g => by unfold PMQ; rw [hF.2.1 11 (by decide), hF.2.1 18 (by decide)]
    have hBG1 : ∀ g, 0 ≤ g → g < 192 → ((PMQ σ r g ∨ σ.2.1 59 g = 1) ↔ BG g) := fun g a b => by rw [hPM g, hF.2.1 59 (by decide)]; exact hBG g a b
    refine tm_iload_n dX12_share_37 rfl 0 rfl ?_
    refine tm_iload_n dX12_share_38 rfl 1 rfl ?_
    refine tm_icmp_ge (tgt := 72) dX12_share_39 (by decide) ⟨by omega, by omega⟩ ⟨by omega, by omega⟩ (fun h1 => ?_) (fun h1 => ?_)
    · exact tm_sub [0, 1, 2, 3] rfl (hx_72 (c1) σ (Fr.rfl.trans (Fr.sub hF (by decide) (by decide) (by decide))) hR hbd (hox.c (fun x y a b c d => OBq.up (Or.inl (by omega)) a c)))
    · refine tm_aload_n dX12_share_42 rfl 2 rfl ?_
      refine tm_iload_n dX12_share_43 rfl 3 rfl ?_
      refine tm_iload_n dX12_share_44 rfl 1 rfl ?_
      refine tm_callV (M := m_X12_share) (pc := 45) (ix := 521) (M' := m_X12_isAtBegin) (As := [.int (iI r), .int (iI a1)]) (rest := []) dX12_share_45 ok_X12_isAtBegin im_X12_isAtBegin se_X12_isAtBegin ml12_521 np_X12_isAtBegin rfl rfl (Nat.le_of_ble_eq_true rfl) (Nat.le_of_ble_eq_true rfl) rfl (f_X12_isAtBegin (d) (σ := σ) (r := r) (g := a1) (by omega) hR (hpar.fr hF (by decide)) (hbl.fr hF (by decide)) (by omega)) (fun r2 σ3 hp => ?_)
      obtain ⟨v4, rfl, rfl, f5, f6⟩ := hp
      show Tm _ _ 48 b σ [(3, .int (iI c1)), (2, .int (iI a1)), (0, .ref b), (1, .int (iI r))] [.int (iI v4)] _
      have hB1 := f6
      rw [hBG1 a1 (by omega) (by omega)] at hB1
      refine tm_if_eq (tgt := 72) dX12_share_48 (by decide) ⟨by omega, by omega⟩ (fun h7 => ?_) (fun h7 => ?_)
      · exact tm_sub [0, 1, 2, 3] rfl (hx_72 (c1) σ (Fr.rfl.trans (Fr.sub hF (by decide) (by decide) (by decide))) hR hbd (hox.c (fun x y a b c d => OBq.up (Or.inr (fun z => absurd (hB1.mpr z) (by omega))) a c)))
      · have hb1 := hB1.mp (by omega)
        refine tm_aload_n dX12_share_51 rfl 2 rfl ?_
        refine tm_iload_n dX12_share_52 rfl 3 rfl ?_
        refine tm_iload_n dX12_share_53 rfl 0 rfl ?_
        refine tm_callV (M := m_X12_share) (pc := 54) (ix := 521) (M' := m_X12_isAtBegin) (As := [.int (iI r), .int (iI c1)]) (rest := []) dX12_share_54 ok_X12_isAtBegin im_X12_isAtBegin se_X12_isAtBegin ml12_521 np_X12_isAtBegin rfl rfl (Nat.le_of_ble_eq_true rfl) (Nat.le_of_ble_eq_true rfl) rfl (f_X12_isAtBegin (d) (σ := σ) (r := r) (g := c1) (by omega) hR (hpar.fr hF (by decide)) (hbl.fr hF (by decide)) (by omega)) (fun r8 σ9 hp => ?_)
        obtain ⟨v10, rfl, rfl, f11, f12⟩ := hp
        show Tm _ _ 57 b σ [(3, .int (iI c1)), (2, .int (iI a1)), (0, .ref b), (1, .int (iI r))] [.int (iI v10)] _
        have hB2 := f12
        rw [hBG1 c1 (by omega) (by omega)] at hB2
        refine tm_if_eq (tgt := 66) dX12_share_57 (by decide) ⟨by omega, by omega⟩ (fun h13 => ?_) (fun h13 => ?_)
        · refine tm_iinc (q0 := 0) (L' := [(3, .int (iI (c1 + 1))), (2, .int (iI a1)), (0, .ref b), (1, .int (iI r))]) dX12_share_66 rfl (by decide) rfl ?_
          refine tm_goto (tgt := 37) dX12_share_69 (by decide) ?_
          exact tm_sub [0, 1, 2, 3] rfl (ih _ (by omega) (c1 + 1) σ (Fr.rfl.trans (Fr.sub hF (by decide) (by decide) (by decide))) hR (by omega) hbd (by have hb2 : ¬ BG c1 := fun z => absurd (hB2.mpr z) (by omega); exact hox.c (fun x y a b c d => OBq.no hb2)) rfl)
        · have hb2 := hB2.mp (by omega)
          refine tm_aload_n dX12_share_60 rfl 2 rfl ?_
          refine tm_iload_n dX12_share_61 rfl 1 rfl ?_
          refine tm_iload_n dX12_share_62 rfl 0 rfl ?_
          refine tm_callV (M := m_X12_share) (pc := 63) (ix := 524) (M' := m_X12_atOdds) (As := [.int (iI a1), .int (iI c1)]) (rest := []) dX12_share_63 ok_X12_atOdds im_X12_atOdds se_X12_atOdds ml12_524 np_X12_atOdds rfl rfl (Nat.le_of_ble_eq_true rfl) (Nat.le_of_ble_eq_true rfl) rfl (f_X12_atOdds (d + 1) (σ := σ) (x := a1) (y := c1) (by omega) (by omega) hR hbd) (fun r14 σ15 hp => ?_)
          obtain ⟨rfl, f17, f18, f19, f20, f21⟩ := hp
          show Tm _ _ 66 b σ15 [(3, .int (iI c1)), (2, .int (iI a1)), (0, .ref b), (1, .int (iI r))] [] _
          refine tm_iinc (q0 := 0) (L' := [(3, .int (iI (c1 + 1))), (2, .int (iI a1)), (0, .ref b), (1, .int (iI r))]) dX12_share_66 rfl (by decide) rfl ?_
          refine tm_goto (tgt := 37) dX12_share_69 (by decide) ?_
          exact tm_sub [0, 1, 2, 3] rfl (ih _ (by omega) (c1 + 1) σ15 ((Fr.rfl.trans (Fr.sub hF (by decide) (by decide) (by decide))).trans (Fr.sub f17 (by decide) (by decide) (by decide))) f18 (by omega) f19 (by rw [f21 (by omega)]; exact (hox.put (by omega) (by omega)).c (fun x y a b c d => OBq.yes hb1 hb2 (by omega))) rfl)
set_option maxHeartbeats 1000000 in
set_option maxRecDepth 20000 in
theorem f_sh2 (d : Nat) {b : Nat} {σ0 : MS} {r : Int} {BG : Int → Prop} {post : Option Value → MS → Prop} (hr : 0 ≤ r ∧ r < 6) (hR0 : RG σ0) (hpar : PAR σ0) (hbl : BO 59 σ0) (hBG : ∀ g, 0 ≤ g → g < 192 → ((PMQ σ0 r g ∨ σ0.2.1 59 g = 1) ↔ BG g)) (hx_78 : ∀ (a1 : Int) (σ : MS) , (Fr [] [63] [] σ0 σ) → (RG σ) → (BO 63 σ) → (OX σ (OBq BG 192 0)) → Tm (d + 3) m_X12_share 78 b σ [(2, .int (iI a1)), (0, .ref b), (1, .int (iI r))] [] post) : ∀ (n : Nat) (a1 : Int) (σ : MS) , (Fr [] [63] [] σ0 σ) → (RG σ) → (0 ≤ a1 ∧ a1 ≤ 192) → (BO 63 σ) → (OX σ (OBq BG a1 0)) → (192 - a1).toNat = n → Tm (d + 3) m_X12_share 28 b σ [(2, .int (iI a1)), (0, .ref b), (1, .int (iI r))] [] post := by
  intro n
  induction n using Nat.strongRecOn with
  | _ n ih =>
    intro a1 σ hF hR h0 hbd hox hm
    have hPM : ∀ g, PMQ σ r g ↔ PMQ σ0 r g := fun g => by unfold PMQ; rw [hF.2.1 11 (by decide), hF.2.1 18 (by decide)]
    have hBG1 : ∀ g, 0 ≤ g → g < 192 → ((PMQ σ r g ∨ σ.2.1 59 g = 1) ↔ BG g) := fun g a b => by rw [hPM g, hF.2.1 59 (by decide)]; exact hBG g a b
    refine tm_iload_n dX12_share_28 rfl 0 rfl ?_
    refine tm_sipush dX12_share_29 (by decide) ?_
    refine tm_icmp_ge (tgt := 78) dX12_share_32 (by decide) ⟨by omega, by omega⟩ ⟨by decide, by decide⟩ (fun h1 => ?_) (fun h1 => ?_)
    · exact tm_sub [0, 1, 2] rfl (hx_78 (a1) σ (Fr.rfl.trans (Fr.sub hF (by decide) (by decide) (by decide))) hR hbd (by have e9 := hox; rw [show a1 = 192 by omega] at e9; exact e9))
    · refine tm_iconst dX12_share_35 ?_
      refine tm_istore_n (L' := [(3, .int (iI 0)), (2, .int (iI a1)), (0, .ref b), (1, .int (iI r))]) dX12_share_36 rfl (by decide) rfl ?_
      refine tm_sub [0, 1, 2, 3] rfl (f_sh3 (d) (σ0 := σ) (r := r) (a1 := a1) (BG := BG) hr hR (hpar.fr hF (by decide)) (hbl.fr hF (by decide)) (by omega) hBG1 (fun c18 σ9 F4 R5 f6 f7 => ?_) _ (0) σ Fr.rfl hR (by omega) hbd hox rfl)
      show Tm _ _ 72 b σ9 [(3, .int (iI c18)), (2, .int (iI a1)), (0, .ref b), (1, .int (iI r))] [] _
      refine tm_iinc (q0 := 1) (L' := [(2, .int (iI (a1 + 1))), (3, .int (iI c18)), (0, .ref b), (1, .int (iI r))]) dX12_share_72 rfl (by decide) rfl ?_
      refine tm_goto (tgt := 28) dX12_share_75 (by decide) ?_
      exact tm_sub [0, 2, 3] rfl (ih _ (by omega) (a1 + 1) σ9 ((Fr.rfl.trans (Fr.sub hF (by decide) (by decide) (by decide))).trans (Fr.sub F4 (by decide) (by decide) (by decide))) R5 (by omega) f6 f7 rfl)
set_option maxHeartbeats 1000000 in
set_option maxRecDepth 20000 in
theorem f_sh5 (d : Nat) {b : Nat} {σ0 : MS} {r : Int} {F : Int} {k : Int} {V : Int → It} {N : Int} {BG : Int → Prop} {post : Option Value → MS → Prop} (hr : 0 ≤ r ∧ r < 6) (hR0 : RG σ0) (hit : ITM σ0) (hok : OKS σ0 F r) (hbl : BO 59 σ0) (hl : LAB σ0) (htd : TGD σ0 r) (hV : V = rV σ0 r) (hN : N = σ0.2.1 9 r) (hld : LDV σ0 V N) (hk : 0 ≤ k ∧ k < σ0.2.1 9 r) (hx_149 : ∀ (g : Int) (σ : MS) , (Fr [] [63] [] σ0 σ) → (RG σ) → (BO 63 σ) → (OX σ (OWq BG V N (k + 1) 0)) → Tm (d + 4) m_X12_share 149 b σ [(4, .int (iI g)), (3, .int (iI (220 * r + k))), (2, .int (iI k)), (0, .ref b), (1, .int (iI r))] [] post) : ∀ (n : Nat) (g : Int) (σ : MS) , (Fr [] [63] [] σ0 σ) → (RG σ) → (0 ≤ g ∧ g ≤ 192) → (BO 63 σ) → (OX σ (OWq BG V N k g)) → (192 - g).toNat = n → Tm (d + 4) m_X12_share 100 b σ [(4, .int (iI g)), (3, .int (iI (220 * r + k))), (2, .int (iI k)), (0, .ref b), (1, .int (iI r))] [] post := by
  intro n
  induction n using Nat.strongRecOn with
  | _ n ih =>
    intro g σ hF hR h0 hbd hox hm
    have hit1 := hit.fr hF (by decide)
    have hok1 := hok.fr hF (by decide)
    have q1 := hit r (by omega) (by omega)
    have q9 : σ.2.1 9 r = σ0.2.1 9 r := by rw [hF.2.1 9 (by decide)]
    have hV1 : V = rV σ r := hV.trans (rv_fr hF (by decide)).symm
    have htd1 := htd.fr hF (by decide)
    have hld1 : LDV σ V N := fun k g a b c d => by rw [hF.2.1 59 (by decide)]; exact hld k g a b c d
    have e3k : σ.2.1 3 (220 * r + k) = σ0.2.1 3 (220 * r + k) := by rw [hF.2.1 3 (by decide)]
    refine tm_iload dX12_share_100 0 rfl ?_
    refine tm_sipush dX12_share_102 (by decide) ?_
    refine tm_icmp_ge (tgt := 149) dX12_share_105 (by decide) ⟨by omega, by omega⟩ ⟨by decide, by decide⟩ (fun h1 => ?_) (fun h1 => ?_)
    · exact tm_sub [0, 1, 2, 3, 4] rfl (hx_149 (g) σ (Fr.rfl.trans (Fr.sub hF (by decide) (by decide) (by decide))) hR hbd (hox.c (fun x y a b c d => OWq.nx (Or.inl (by omega)) (by omega) a b c d)))
    · refine tm_aload_n dX12_share_108 rfl 3 rfl ?_
      refine tm_get (k := 3) (v := .ref (b + 1 + 1)) lay_12 dX12_share_109 (by decide) fl12_13 rfl ?_
      refine tm_iload_n dX12_share_112 rfl 1 rfl ?_
      refine tm_iald (z := 220 * r + k) (v := σ0.2.1 3 (220 * r + k)) dX12_share_113 (show mT[1]? = some (3, 0, 2860) from rfl) (by omega) (by omega) (by decide) (ra_F hF (by decide) (rfl)) ?_
      have g2 := RG.a hR0 3 (220 * r + k)
      refine tm_callS (M := m_X12_share) (pc := 114) (ix := 192) (M' := m_X12_writes) (As := [.int (iI (σ0.2.1 3 (220 * r + k)))]) (rest := []) dX12_share_114 ok_X12_writes stt_X12_writes ml12_192 np_X12_writes rfl (Nat.le_of_ble_eq_true rfl) (Nat.le_of_ble_eq_true rfl) rfl (c_X12_writes (d + 2) (σ := σ) (x := σ0.2.1 3 (220 * r + k)) (by omega)) (fun r3 σ4 hp => ?_)
      obtain ⟨v5, rfl, rfl, f6, f7⟩ := hp
      show Tm _ _ 117 b σ [(4, .int (iI g)), (3, .int (iI (220 * r + k))), (2, .int (iI k)), (0, .ref b), (1, .int (iI r))] [.int (iI v5)] _
      refine tm_if_eq (tgt := 149) dX12_share_117 (by decide) ⟨by omega, by omega⟩ (fun h8 => ?_) (fun h8 => ?_)
      · exact tm_sub [0, 1, 2, 3, 4] rfl (hx_149 (g) σ (Fr.rfl.trans (Fr.sub hF (by decide) (by decide) (by decide))) hR hbd (hox.c (fun x y a b c d => OWq.nx (Or.inr (by rw [hV, rv_at (by omega) (by omega)]; show ¬ (σ0.2.1 3 (220 * r + k) ≤ 5 ∨ σ0.2.1 3 (220 * r + k) = 10); omega)) (by omega) a b c d)))
      · have q2 := hok.dest (k := k) (by omega) (by omega) (by omega)
        refine tm_aload_n dX12_share_120 rfl 3 rfl ?_
        refine tm_iload_n dX12_share_121 rfl 4 rfl ?_
        refine tm_iload_n dX12_share_122 rfl 2 rfl ?_
        refine tm_iload dX12_share_123 0 rfl ?_
        refine tm_callV (M := m_X12_share) (pc := 125) (ix := 433) (M' := m_X12_livesBehind) (As := [.int (iI r), .int (iI k), .int (iI g)]) (rest := []) dX12_share_125 ok_X12_livesBehind im_X12_livesBehind se_X12_livesBehind ml12_433 np_X12_livesBehind rfl rfl (Nat.le_of_ble_eq_true rfl) (Nat.le_of_ble_eq_true rfl) rfl (f_X12_livesBehind (d) (σ := σ) (r := r) (k := k) (g := g) (by omega) hR hit1 hok1.jmp (hbl.fr hF (by decide)) (hl.fr hF (by decide)) (by omega) (by omega)) (fun r9 σ10 hp => ?_)
        obtain ⟨v11, rfl, rfl, f12, f13⟩ := hp
        show Tm _ _ 128 b σ [(4, .int (iI g)), (3, .int (iI (220 * r + k))), (2, .int (iI k)), (0, .ref b), (1, .int (iI r))] [.int (iI v11)] _
        have hLB := f13
        refine tm_if_eq (tgt := 143) dX12_share_128 (by decide) ⟨by omega, by omega⟩ (fun h14 => ?_) (fun h14 => ?_)
        · refine tm_iinc (q0 := 0) (L' := [(4, .int (iI (g + 1))), (3, .int (iI (220 * r + k))), (2, .int (iI k)), (0, .ref b), (1, .int (iI r))]) dX12_share_143 rfl (by decide) rfl ?_
          refine tm_goto (tgt := 100) dX12_share_146 (by decide) ?_
          exact tm_sub [0, 1, 2, 3, 4] rfl (ih _ (by omega) (g + 1) σ (Fr.rfl.trans (Fr.sub hF (by decide) (by decide) (by decide))) hR (by omega) hbd (hox.c (fun x y a b c d => OWq.no (fun ⟨e, e1, e2, e3⟩ => absurd (hLB.mpr ((sh_lb hV1 (by omega) hld1 (by omega) (by omega) (by omega)).mpr e3)) (by omega)))) rfl)
        · refine tm_aload_n dX12_share_131 rfl 3 rfl ?_
          refine tm_aload_n dX12_share_132 rfl 3 rfl ?_
          refine tm_get (k := 4) (v := .ref (b + 1 + 2)) lay_12 dX12_share_133 (by decide) fl12_17 rfl ?_
          refine tm_iload_n dX12_share_136 rfl 1 rfl ?_
          refine tm_iald (z := 220 * r + k) (v := σ0.2.1 4 (220 * r + k)) dX12_share_137 (show mT[2]? = some (4, 0, 2860) from rfl) (by omega) (by omega) (by decide) (ra_F hF (by decide) (rfl)) ?_
          have g15 := RG.a hR0 4 (220 * r + k)
          refine tm_iload dX12_share_138 0 rfl ?_
          refine tm_callV (M := m_X12_share) (pc := 140) (ix := 524) (M' := m_X12_atOdds) (As := [.int (iI (σ0.2.1 4 (220 * r + k))), .int (iI g)]) (rest := []) dX12_share_140 ok_X12_atOdds im_X12_atOdds se_X12_atOdds ml12_524 np_X12_atOdds rfl rfl (Nat.le_of_ble_eq_true rfl) (Nat.le_of_ble_eq_true rfl) rfl (f_X12_atOdds (d + 2) (σ := σ) (x := σ0.2.1 4 (220 * r + k)) (y := g) (by omega) (by omega) hR hbd) (fun r16 σ17 hp => ?_)
          obtain ⟨rfl, f19, f20, f21, f22, f23⟩ := hp
          show Tm _ _ 143 b σ17 [(4, .int (iI g)), (3, .int (iI (220 * r + k))), (2, .int (iI k)), (0, .ref b), (1, .int (iI r))] [] _
          refine tm_iinc (q0 := 0) (L' := [(4, .int (iI (g + 1))), (3, .int (iI (220 * r + k))), (2, .int (iI k)), (0, .ref b), (1, .int (iI r))]) dX12_share_143 rfl (by decide) rfl ?_
          refine tm_goto (tgt := 100) dX12_share_146 (by decide) ?_
          exact tm_sub [0, 1, 2, 3, 4] rfl (ih _ (by omega) (g + 1) σ17 ((Fr.rfl.trans (Fr.sub hF (by decide) (by decide) (by decide))).trans (Fr.sub f19 (by decide) (by decide) (by decide))) f20 (by omega) f21 (by
          have hlv := (sh_lb hV1 (by omega) hld1 (by omega) (by omega) (by omega)).mp (hLB.mp (by omega))
          have hwt : wrT (V k) (σ0.2.1 4 (220 * r + k)) := by rw [hV, rv_in (by omega) (by omega)]; exact ⟨by show σ0.2.1 3 (220 * r + k) ≤ 5 ∨ σ0.2.1 3 (220 * r + k) = 10; omega, rfl⟩
          by_cases z : σ0.2.1 4 (220 * r + k) = g
          · rw [f22 z]
            exact hox.c (fun x y a b c d => OWq.no (fun ⟨e, e1, e2, _⟩ => e1 (by have := e2.2; have := hwt.2; omega)))
          · rw [f23 z]
            exact (hox.put (by omega) (by omega)).c (fun x y a b c d => OWq.yes (by omega) hwt hlv z)) rfl)
set_option maxHeartbeats 1000000 in
set_option maxRecDepth 20000 in
theorem f_sh4 (d : Nat) {b : Nat} {σ0 : MS} {r : Int} {F : Int} {V : Int → It} {N : Int} {BG : Int → Prop} {post : Option Value → MS → Prop} (hr : 0 ≤ r ∧ r < 6) (hR0 : RG σ0) (hit : ITM σ0) (hok : OKS σ0 F r) (hbl : BO 59 σ0) (hl : LAB σ0) (htd : TGD σ0 r) (hV : V = rV σ0 r) (hN : N = σ0.2.1 9 r) (hld : LDV σ0 V N) (hx_155 : ∀ (k : Int) (σ : MS) , (Fr [] [63] [] σ0 σ) → (RG σ) → (BO 63 σ) → (OX σ (OWq BG V N N 0)) → Tm (d + 4) m_X12_share 155 b σ [(2, .int (iI k)), (0, .ref b), (1, .int (iI r))] [] post) : ∀ (n : Nat) (k : Int) (σ : MS) , (Fr [] [63] [] σ0 σ) → (RG σ) → (0 ≤ k ∧ k ≤ σ0.2.1 9 r) → (BO 63 σ) → (OX σ (OWq BG V N k 0)) → (220 - k).toNat = n → Tm (d + 4) m_X12_share 80 b σ [(2, .int (iI k)), (0, .ref b), (1, .int (iI r))] [] post := by
  intro n
  induction n using Nat.strongRecOn with
  | _ n ih =>
    intro k σ hF hR h0 hbd hox hm
    have hit1 := hit.fr hF (by decide)
    have hok1 := hok.fr hF (by decide)
    have q1 := hit r (by omega) (by omega)
    have q9 : σ.2.1 9 r = σ0.2.1 9 r := by rw [hF.2.1 9 (by decide)]
    have hV1 : V = rV σ r := hV.trans (rv_fr hF (by decide)).symm
    have htd1 := htd.fr hF (by decide)
    have hld1 : LDV σ V N := fun k g a b c d => by rw [hF.2.1 59 (by decide)]; exact hld k g a b c d
    refine tm_iload_n dX12_share_80 rfl 0 rfl ?_
    refine tm_aload_n dX12_share_81 rfl 1 rfl ?_
    refine tm_get (k := 9) (v := .ref (b + 1 + 7)) lay_12 dX12_share_82 (by decide) fl12_32 rfl ?_
    refine tm_iload_n dX12_share_85 rfl 2 rfl ?_
    refine tm_iald (z := r) (v := σ0.2.1 9 r) dX12_share_86 (show mT[7]? = some (9, 0, 13) from rfl) (by omega) (by omega) (by decide) (ra_F hF (by decide) (rfl)) ?_
    have g1 := RG.a hR0 9 (r)
    refine tm_icmp_ge (tgt := 155) dX12_share_87 (by decide) ⟨by omega, by omega⟩ ⟨by omega, by omega⟩ (fun h2 => ?_) (fun h2 => ?_)
    · exact tm_sub [0, 1, 2] rfl (hx_155 (k) σ (Fr.rfl.trans (Fr.sub hF (by decide) (by decide) (by decide))) hR hbd (by have e9 := hox; rw [show k = N by omega] at e9; exact e9))
    · refine tm_aload_n dX12_share_90 rfl 1 rfl ?_
      refine tm_iload_n dX12_share_91 rfl 2 rfl ?_
      refine tm_iload_n dX12_share_92 rfl 0 rfl ?_
      refine tm_callV (M := m_X12_share) (pc := 93) (ix := 203) (M' := m_X12_at) (As := [.int (iI r), .int (iI k)]) (rest := []) dX12_share_93 ok_X12_at im_X12_at se_X12_at ml12_203 np_X12_at rfl rfl (Nat.le_of_ble_eq_true rfl) (Nat.le_of_ble_eq_true rfl) rfl (c_X12_at (d + 2) (σ := σ) (x := r) (k := k) ) (fun r3 σ4 hp => ?_)
      obtain ⟨v5, rfl, rfl, f6⟩ := hp
      subst f6
      show Tm _ _ 96 b σ [(2, .int (iI k)), (0, .ref b), (1, .int (iI r))] [.int (iI (220 * r + k))] _
      refine tm_istore_n (L' := [(3, .int (iI (220 * r + k))), (2, .int (iI k)), (0, .ref b), (1, .int (iI r))]) dX12_share_96 rfl (by decide) rfl ?_
      refine tm_iconst dX12_share_97 ?_
      refine tm_istore (L' := [(4, .int (iI 0)), (3, .int (iI (220 * r + k))), (2, .int (iI k)), (0, .ref b), (1, .int (iI r))]) dX12_share_98 (by decide) rfl ?_
      refine tm_sub [0, 1, 2, 3, 4] rfl (f_sh5 (d) (σ0 := σ) (r := r) (k := k) (F := F) (V := V) (N := N) (BG := BG) hr hR hit1 hok1 (hbl.fr hF (by decide)) (hl.fr hF (by decide)) htd1 hV1 (by omega) hld1 (by omega) (fun g13 σ14 F9 R10 f11 f12 => ?_) _ (0) σ Fr.rfl hR (by omega) hbd hox rfl)
      show Tm _ _ 149 b σ14 [(4, .int (iI g13)), (3, .int (iI (220 * r + k))), (2, .int (iI k)), (0, .ref b), (1, .int (iI r))] [] _
      refine tm_iinc (q0 := 2) (L' := [(2, .int (iI (k + 1))), (4, .int (iI g13)), (3, .int (iI (220 * r + k))), (0, .ref b), (1, .int (iI r))]) dX12_share_149 rfl (by decide) rfl ?_
      refine tm_goto (tgt := 80) dX12_share_152 (by decide) ?_
      exact tm_sub [0, 3, 4] rfl (ih _ (by omega) (k + 1) σ14 ((Fr.rfl.trans (Fr.sub hF (by decide) (by decide) (by decide))).trans (Fr.sub F9 (by decide) (by decide) (by decide))) R10 (by omega) f11 f12 rfl)
set_option maxHeartbeats 1000000 in
set_option maxRecDepth 20000 in
theorem f_sh7 (d : Nat) {b : Nat} {σ : MS} {r : Int} {g : Int} {post : Option Value → MS → Prop} (hR : RG σ) (hbd : BO 63 σ) (hnl : NUL σ) (hg : 0 ≤ g ∧ g < 192) (hx_217 : ∀ (n1 : Int) (c1 : Int) , (0 ≤ n1 ∧ n1 ≤ g) → (∀ u, 0 ≤ u → u < n1 → ∃ b, 0 ≤ b ∧ b < g ∧ σ.2.1 63 (192 * g + b) = 1 ∧ σ.2.1 64 b = u) → (∀ b, 0 ≤ b → b < g → ¬ (σ.2.1 63 (192 * g + b) = 1 ∧ σ.2.1 64 b = n1)) → Tm (d + 1) m_X12_share 217 b σ [(4, .int (iI c1)), (3, .int (iI n1)), (2, .int (iI g)), (0, .ref b), (1, .int (iI r))] [] post) : ∀ (n : Nat) (n1 : Int) (c1 : Int) , (0 ≤ n1 ∧ n1 ≤ g ∧ 0 ≤ c1 ∧ c1 ≤ g) → (∀ u, 0 ≤ u → u < n1 → ∃ b, 0 ≤ b ∧ b < g ∧ σ.2.1 63 (192 * g + b) = 1 ∧ σ.2.1 64 b = u) → (∀ b, 0 ≤ b → b < c1 → ¬ (σ.2.1 63 (192 * g + b) = 1 ∧ σ.2.1 64 b = n1)) → ((192 - n1) * 200 + (g - c1)).toNat = n → Tm (d + 1) m_X12_share 169 b σ [(4, .int (iI c1)), (3, .int (iI n1)), (2, .int (iI g)), (0, .ref b), (1, .int (iI r))] [] post := by
  intro n
  induction n using Nat.strongRecOn with
  | _ n ih =>
    intro n1 c1 h0 hbl hbc hm
    refine tm_iload dX12_share_169 0 rfl ?_
    refine tm_iload_n dX12_share_171 rfl 2 rfl ?_
    refine tm_icmp_ge (tgt := 217) dX12_share_172 (by decide) ⟨by omega, by omega⟩ ⟨by omega, by omega⟩ (fun h1 => ?_) (fun h1 => ?_)
    · exact tm_sub [0, 1, 2, 3, 4] rfl (hx_217 (n1) (c1) (by omega) hbl (fun b x y => hbc b x (by omega)))
    · refine tm_aload_n dX12_share_175 rfl 3 rfl ?_
      refine tm_get (k := 63) (v := .ref (b + 1 + 40)) lay_12 dX12_share_176 (by decide) fl12_140 rfl ?_
      refine tm_sipush dX12_share_179 (by decide) ?_
      refine tm_iload_n dX12_share_182 rfl 2 rfl ?_
      refine tm_imul dX12_share_183 ?_
      refine tm_iload dX12_share_184 0 rfl ?_
      refine tm_iadd dX12_share_186 ?_
      refine tm_zald (z := (192 * g) + c1) (v := σ.2.1 63 ((192 * g) + c1)) dX12_share_187 (show mT[40]? = some (63, 2, 36864) from rfl) (by omega) (by omega) (by decide) (rfl) ?_
      have g2 := RG.a hR 63 ((192 * g) + c1)
      have := hbd ((192 * g) + c1)
      refine tm_if_eq (tgt := 211) dX12_share_188 (by decide) ⟨by omega, by omega⟩ (fun h3 => ?_) (fun h3 => ?_)
      · refine tm_iinc (q0 := 0) (L' := [(4, .int (iI (c1 + 1))), (3, .int (iI n1)), (2, .int (iI g)), (0, .ref b), (1, .int (iI r))]) dX12_share_211 rfl (by decide) rfl ?_
        refine tm_goto (tgt := 169) dX12_share_214 (by decide) ?_
        exact tm_sub [0, 1, 2, 3, 4] rfl (ih _ (by omega) (n1) (c1 + 1) (by omega) hbl (fun b x y => by
          by_cases e : b = c1
          · subst e; omega
          · exact hbc b x (by omega)) rfl)
      · refine tm_aload_n dX12_share_191 rfl 3 rfl ?_
        refine tm_get (k := 64) (v := .ref (b + 1 + 41)) lay_12 dX12_share_192 (by decide) fl12_143 rfl ?_
        refine tm_iload dX12_share_195 0 rfl ?_
        refine tm_iald (z := c1) (v := σ.2.1 64 c1) dX12_share_197 (show mT[41]? = some (64, 0, 192) from rfl) (by omega) (by omega) (by decide) (rfl) ?_
        have g4 := RG.a hR 64 (c1)
        have := hnl (c1) (by omega) (by omega)
        refine tm_iload_n dX12_share_198 rfl 1 rfl ?_
        refine tm_icmp_ne (tgt := 211) dX12_share_199 (by decide) ⟨by omega, by omega⟩ ⟨by omega, by omega⟩ (fun h5 => ?_) (fun h5 => ?_)
        · refine tm_iinc (q0 := 0) (L' := [(4, .int (iI (c1 + 1))), (3, .int (iI n1)), (2, .int (iI g)), (0, .ref b), (1, .int (iI r))]) dX12_share_211 rfl (by decide) rfl ?_
          refine tm_goto (tgt := 169) dX12_share_214 (by decide) ?_
          exact tm_sub [0, 1, 2, 3, 4] rfl (ih _ (by omega) (n1) (c1 + 1) (by omega) hbl (fun b x y => by
          by_cases e : b = c1
          · subst e; omega
          · exact hbc b x (by omega)) rfl)
        · refine tm_iinc (q0 := 1) (L' := [(3, .int (iI (n1 + 1))), (4, .int (iI c1)), (2, .int (iI g)), (0, .ref b), (1, .int (iI r))]) dX12_share_202 rfl (by decide) rfl ?_
          refine tm_iconst dX12_share_205 ?_
          refine tm_istore (L' := [(4, .int (iI 0)), (3, .int (iI (n1 + 1))), (2, .int (iI g)), (0, .ref b), (1, .int (iI r))]) dX12_share_206 (by decide) rfl ?_
          refine tm_goto (tgt := 169) dX12_share_208 (by decide) ?_
          exact tm_sub [0, 1, 2, 3, 4] rfl (ih _ (by omega) (n1 + 1) (0) (by omega) (fun u a b => by
          by_cases e : u = n1
          · subst e; exact ⟨c1, by omega, by omega, by omega, by omega⟩
          · exact hbl u a (by omega)) (fun b x y => by omega) rfl)
set_option maxHeartbeats 1000000 in
set_option maxRecDepth 20000 in
theorem f_sh6 (d : Nat) {b : Nat} {σ0 : MS} {r : Int} {post : Option Value → MS → Prop} (hR0 : RG σ0) (hbd : BO 63 σ0) (hx_230 : ∀ (g : Int) (σ : MS) , (Fr [] [64] [] σ0 σ) → (RG σ) → (NUL σ) → (nbV (fun x y => σ0.2.1 63 (192 * x + y) = 1) 192 (σ.2.1 64)) → Tm (d + 1) m_X12_share 230 b σ [(2, .int (iI g)), (0, .ref b), (1, .int (iI r))] [] post) : ∀ (n : Nat) (g : Int) (σ : MS) , (Fr [] [64] [] σ0 σ) → (RG σ) → (0 ≤ g ∧ g ≤ 192) → (NUL σ) → (nbV (fun x y => σ0.2.1 63 (192 * x + y) = 1) g (σ.2.1 64)) → (192 - g).toNat = n → Tm (d + 1) m_X12_share 157 b σ [(2, .int (iI g)), (0, .ref b), (1, .int (iI r))] [] post := by
  intro n
  induction n using Nat.strongRecOn with
  | _ n ih =>
    intro g σ hF hR h0 hnl hnb hm
    refine tm_iload_n dX12_share_157 rfl 0 rfl ?_
    refine tm_sipush dX12_share_158 (by decide) ?_
    refine tm_icmp_ge (tgt := 230) dX12_share_161 (by decide) ⟨by omega, by omega⟩ ⟨by decide, by decide⟩ (fun h1 => ?_) (fun h1 => ?_)
    · exact tm_sub [0, 1, 2] rfl (hx_230 (g) σ (Fr.rfl.trans (Fr.sub hF (by decide) (by decide) (by decide))) hR hnl (by have e9 := hnb; rw [show g = 192 by omega] at e9; exact e9))
    · refine tm_iconst dX12_share_164 ?_
      refine tm_istore_n (L' := [(3, .int (iI 0)), (2, .int (iI g)), (0, .ref b), (1, .int (iI r))]) dX12_share_165 rfl (by decide) rfl ?_
      refine tm_iconst dX12_share_166 ?_
      refine tm_istore (L' := [(4, .int (iI 0)), (3, .int (iI 0)), (2, .int (iI g)), (0, .ref b), (1, .int (iI r))]) dX12_share_167 (by decide) rfl ?_
      refine tm_sub [0, 1, 2, 3, 4] rfl (f_sh7 (d) (σ := σ) (r := r) (g := g) hR (hbd.fr hF (by decide)) hnl (by omega) (fun n19 c110 f6 f7 f8 => ?_) _ (0) (0) (by omega) (fun u a b => by omega) (fun b x y => by omega) rfl)
      show Tm _ _ 217 b σ [(4, .int (iI c110)), (3, .int (iI n19)), (2, .int (iI g)), (0, .ref b), (1, .int (iI r))] [] _
      have hL := f7
      have hC := f8
      rw [hF.2.1 63 (by decide)] at hL hC
      refine tm_aload_n dX12_share_217 rfl 3 rfl ?_
      refine tm_get (k := 64) (v := .ref (b + 1 + 41)) lay_12 dX12_share_218 (by decide) fl12_143 rfl ?_
      refine tm_iload_n dX12_share_221 rfl 2 rfl ?_
      refine tm_iload_n dX12_share_222 rfl 1 rfl ?_
      refine tm_iast (z := g) (v := n19) dX12_share_223 (show mT[41]? = some (64, 0, 192) from rfl) (by omega) (by omega) (by decide) ?_
      refine tm_iinc (q0 := 2) (L' := [(2, .int (iI (g + 1))), (4, .int (iI c110)), (3, .int (iI n19)), (0, .ref b), (1, .int (iI r))]) dX12_share_224 rfl (by decide) rfl ?_
      refine tm_goto (tgt := 157) dX12_share_227 (by decide) ?_
      exact tm_sub [0, 3, 4] rfl (ih _ (by omega) (g + 1) (sA 64 (g) (n19) σ) ((Fr.rfl.trans (Fr.sub hF (by decide) (by decide) (by decide))).A (by decide)) (hR.A (by omega)) (by omega) (hnl.A (by omega)) (hnb.put (by omega) hL hC) rfl)
end
section
def LTA (σ : MS) (k u : Int) : Prop := σ.2.1 65 (192 * k + σ.2.1 64 u) ≠ u
def NWA (σ : MS) (u : Int) : Prop := σ.2.1 66 (σ.2.1 64 u) ≠ u
def LSX (σ : MS) (V : Int → It) (n : Int) (nb : Int → Int) (BG : Int → Prop) : Prop := ∀ k, 0 ≤ k → k ≤ n → σ.2.1 47 k = 1 → RCG V n 0 (fun _ => False) k ∧ ∀ u, 0 ≤ u → u < 192 → LTA σ k u → lsV V n nb BG k u
def CLJ (σ : MS) (V : Int → It) (j t : Int) : Prop := σ.2.1 47 t = 1 ∧ ∀ u, 0 ≤ u → u < 192 → lsT V (σ.2.1 64) (LTA σ j) j u → LTA σ t u
def CLZ (σ : MS) (V : Int → It) (r k : Int) : Prop := ∀ j, 0 ≤ j → j < k → σ.2.1 47 j = 1 → (¬ (σ.2.1 3 (220 * r + j) = 8 ∨ σ.2.1 3 (220 * r + j) = 7) → CLJ σ V j (j + 1)) ∧ ((σ.2.1 3 (220 * r + j) = 8 ∨ σ.2.1 3 (220 * r + j) = 9) → CLJ σ V j (σ.2.1 46 (σ.2.1 4 (220 * r + j))))
def CLA (σ τ : MS) (to : Int) : Prop := (∀ g, 0 ≤ g → g < 192 → τ.2.1 65 (192 * to + g) = (if σ.2.1 47 to = 0 then σ.2.1 66 g else if σ.2.1 65 (192 * to + g) = σ.2.1 66 g then σ.2.1 66 g else -1)) ∧ (∀ y, (y < 192 * to ∨ 192 * to + 192 ≤ y) → τ.2.1 65 y = σ.2.1 65 y) ∧ τ.2.1 47 to = 1 ∧ (∀ j, j ≠ to → τ.2.1 47 j = σ.2.1 47 j)
def CLU (σ τ : MS) (to : Int) : Prop := σ.2.1 47 to = 1 ∧ ∀ g, 0 ≤ g → g < 192 → τ.2.1 65 (192 * to + g) = σ.2.1 65 (192 * to + g)
section SH
variable {σ τ : MS} {V : Int → It} {n : Int} {nb : Int → Int} {BG : Int → Prop} {to k r u v : Int}
theorem CLA.at (h : CLA σ τ to) (h64 : τ.2.1 64 = σ.2.1 64) (hn : 0 ≤ σ.2.1 64 u ∧ σ.2.1 64 u < 192) (hu : 0 ≤ u) (hb : σ.2.1 47 to = 0 ∨ σ.2.1 47 to = 1) : LTA τ to u ↔ NWA σ u ∨ (σ.2.1 47 to = 1 ∧ LTA σ to u) := by
  unfold LTA NWA
  rw [h64, h.1 _ hn.1 hn.2]
  rcases hb with q | q
  · rw [if_pos q]
    exact ⟨Or.inl, fun z => z.elim id (fun w => by omega)⟩
  · rw [if_neg (by omega)]
    by_cases e : σ.2.1 65 (192 * to + σ.2.1 64 u) = σ.2.1 66 (σ.2.1 64 u)
    · rw [if_pos e, e]
      exact ⟨Or.inl, fun z => z.elim id (fun w => w.2)⟩
    · rw [if_neg e]
      refine ⟨fun _ => ?_, fun _ => by omega⟩
      by_cases a : σ.2.1 66 (σ.2.1 64 u) = u
      · exact Or.inr ⟨q, fun z => e (z.trans a.symm)⟩
      · exact Or.inl a
theorem CLA.ne (h : CLA σ τ to) (h64 : τ.2.1 64 = σ.2.1 64) (hn : 0 ≤ σ.2.1 64 u ∧ σ.2.1 64 u < 192) (hk : k ≠ to) : LTA τ k u ↔ LTA σ k u := by
  unfold LTA
  rw [h64, h.2.1 _ (by omega)]
theorem LSX.go (h : LSX σ V n nb BG) (hc : CLA σ τ to) (h64 : τ.2.1 64 = σ.2.1 64) (hnm : NUM σ) (hb : BO 47 σ) (hr : RCG V n 0 (fun _ => False) to) (hs : ∀ u, 0 ≤ u → u < 192 → NWA σ u → lsV V n nb BG to u) : LSX τ V n nb BG := fun k a b c => by
  by_cases e : k = to
  · subst e
    refine ⟨hr, fun u x y z => ?_⟩
    rcases (hc.at h64 (hnm u x y) x (hb k)).mp z with w | w
    · exact hs u x y w
    · exact (h k a b w.1).2 u x y w.2
  · rw [hc.2.2.2 k e] at c
    exact ⟨(h k a b c).1, fun u x y z => (h k a b c).2 u x y ((hc.ne h64 (hnm u x y) e).mp z)⟩
theorem CLU.same (h : CLU σ τ to) (hc : CLA σ τ to) : τ.2.1 65 = σ.2.1 65 ∧ τ.2.1 47 = σ.2.1 47 := by
  constructor
  · funext y
    by_cases q : y < 192 * to ∨ 192 * to + 192 ≤ y
    · exact hc.2.1 y q
    · have := h.2 (y - 192 * to) (by omega) (by omega)
      rw [show 192 * to + (y - 192 * to) = y by omega] at this
      exact this
  · funext j
    by_cases e : j = to
    · rw [e, hc.2.2.1, h.1]
    · exact hc.2.2.2 j e
theorem CLU.cl (h : CLU σ τ to) (hc : CLA σ τ to) (h64 : τ.2.1 64 = σ.2.1 64) (hnm : NUM σ) (hb : BO 47 σ) (hw : ∀ u, 0 ≤ u → u < 192 → lsT V (σ.2.1 64) (LTA σ k) k u → NWA σ u) : CLJ τ V k to := by
  obtain ⟨e5, e7⟩ := h.same hc
  have el : ∀ j u, LTA τ j u ↔ LTA σ j u := fun j u => by unfold LTA; rw [e5, h64]
  refine ⟨hc.2.2.1, fun u a b q => (hc.at h64 (hnm u a b) a (hb to)).mpr (Or.inl (hw u a b ?_))⟩
  rw [h64] at q
  exact q.mono (fun z => (el k u).mp z)
theorem CLZ.same (h : CLZ σ V r k) (e5 : τ.2.1 65 = σ.2.1 65) (e7 : τ.2.1 47 = σ.2.1 47) (e64 : τ.2.1 64 = σ.2.1 64) (e3 : τ.2.1 3 = σ.2.1 3) (e4 : τ.2.1 4 = σ.2.1 4) (e46 : τ.2.1 46 = σ.2.1 46) : CLZ τ V r k := by
  have el : LTA τ = LTA σ := by funext j u; unfold LTA; rw [e5, e64]
  unfold CLZ CLJ
  rw [e7, e64, e3, e4, e46, el]
  exact h
theorem LSX.full (h : LSX σ V n nb BG) (hV : V = rV σ r) (hn : n = σ.2.1 9 r) (hnb : nb = σ.2.1 64) (hc : CLZ σ V r n) (hz : σ.2.1 47 0 = 1 ∧ ∀ u, 0 ≤ u → u < 192 → ¬ BG u → LTA σ 0 u) (hd : TGD σ r) (hu : UNQ V n) (h0 : 0 ≤ n) : ∀ k, 0 ≤ k → k ≤ n → (σ.2.1 47 k = 1 ↔ RCG V n 0 (fun _ => False) k) ∧ (σ.2.1 47 k = 1 → ∀ u, 0 ≤ u → u < 192 → (LTA σ k u ↔ lsV V n nb BG k u)) := by
  subst hV hn hnb
  have rc : ∀ k, RCG (rV σ r) (σ.2.1 9 r) 0 (fun _ => False) k → σ.2.1 47 k = 1 := fun k q => q (fun i => σ.2.1 47 i = 1) hz.1 (fun i t x y z _ e => by
    rcases (ed_rv hd hu x y).mp e with ⟨e1, e2⟩ | ⟨e1, e2⟩
    · rw [e2]; exact ((hc i x y z).1 e1).1
    · rw [e2]; exact ((hc i x y z).2 e1).1)
  intro k a b
  refine ⟨⟨fun q => (h k a b q).1, rc k⟩, fun q u x y => ⟨(h k a b q).2 u x y, fun w => ?_⟩⟩
  have z := w (fun i v => 0 ≤ v ∧ v < 192 → LTA σ i v) (fun v q2 q3 => hz.2 v q3.1 q3.2 q2) (fun i t v p1 p2 p3 p4 p5 p6 => by
    have p7 : lsT (rV σ r) (σ.2.1 64) (LTA σ i) i v := p5.mono (fun z => z p6)
    rcases (ed_rv hd hu p1 p2).mp p4 with ⟨e1, e2⟩ | ⟨e1, e2⟩
    · rw [e2]; exact ((hc i p1 p2 (rc i p3)).1 e1).2 v p6.1 p6.2 p7
    · rw [e2]; exact ((hc i p1 p2 (rc i p3)).2 e1).2 v p6.1 p6.2 p7)
  exact z ⟨x, y⟩
theorem now_wr {σ1 : MS} (h66 : ∀ g, 0 ≤ g → g < 192 → σ1.2.1 66 g = σ.2.1 65 (192 * k + g)) (h64 : σ1.2.1 64 = σ.2.1 64) (hV : V = rV σ r) (hk : 0 ≤ k ∧ k < σ.2.1 9 r) (hnm : NUM σ) (hw : σ.2.1 3 (220 * r + k) ≤ 5 ∨ σ.2.1 3 (220 * r + k) = 10) (hu : 0 ≤ u ∧ u < 192) : NWA (sA 66 (σ.2.1 64 (σ.2.1 4 (220 * r + k))) (σ.2.1 4 (220 * r + k)) σ1) u ↔ lsT V (σ.2.1 64) (LTA σ k) k u := by
  subst hV
  have e64 : (sA 66 (σ.2.1 64 (σ.2.1 4 (220 * r + k))) (σ.2.1 4 (220 * r + k)) σ1).2.1 64 = σ.2.1 64 := h64
  unfold NWA lsT
  rw [e64, rv_in hk.1 hk.2, ri0, ri1]
  have nu := hnm u hu.1 hu.2
  by_cases e : σ.2.1 64 u = σ.2.1 64 (σ.2.1 4 (220 * r + k))
  · rw [e, show (sA 66 (σ.2.1 64 (σ.2.1 4 (220 * r + k))) (σ.2.1 4 (220 * r + k)) σ1).2.1 66 (σ.2.1 64 (σ.2.1 4 (220 * r + k))) = σ.2.1 4 (220 * r + k) from ra_eq]
    refine ⟨fun z => Or.inl ⟨hw, fun w => z w.symm, Or.inl rfl⟩, fun z => ?_⟩
    rcases z with z | z
    · exact fun w => z.2.1 w.symm
    · exact absurd hw z.1
  · rw [show (sA 66 (σ.2.1 64 (σ.2.1 4 (220 * r + k))) (σ.2.1 4 (220 * r + k)) σ1).2.1 66 (σ.2.1 64 u) = σ1.2.1 66 (σ.2.1 64 u) from ra_ne e rfl, h66 _ nu.1 nu.2]
    refine ⟨fun z => Or.inl ⟨hw, fun w => e (by rw [w]), Or.inr z⟩, fun z => ?_⟩
    rcases z with z | z
    · exact z.2.2.elim (fun w => absurd w e) id
    · exact absurd hw z.1
theorem now_no {σ1 : MS} (h66 : ∀ g, 0 ≤ g → g < 192 → σ1.2.1 66 g = σ.2.1 65 (192 * k + g)) (h64 : σ1.2.1 64 = σ.2.1 64) (hV : V = rV σ r) (hk : 0 ≤ k ∧ k < σ.2.1 9 r) (hnm : NUM σ) (hw : ¬ (σ.2.1 3 (220 * r + k) ≤ 5 ∨ σ.2.1 3 (220 * r + k) = 10)) (hu : 0 ≤ u ∧ u < 192) : NWA σ1 u ↔ lsT V (σ.2.1 64) (LTA σ k) k u := by
  subst hV
  have nu := hnm u hu.1 hu.2
  unfold NWA lsT
  rw [h64, rv_in hk.1 hk.2, ri0, ri1, h66 _ nu.1 nu.2]
  refine ⟨fun z => Or.inr ⟨hw, z⟩, fun z => ?_⟩
  rcases z with z | z
  · exact absurd z.1 hw
  · exact z.2
end SH
def CLIg (σ0 σ : MS) (to g w : Int) : Prop := (∀ u, 0 ≤ u → u < g → σ.2.1 65 (192 * to + u) = (if σ0.2.1 47 to = 0 then σ0.2.1 66 u else if σ0.2.1 65 (192 * to + u) = σ0.2.1 66 u then σ0.2.1 66 u else -1)) ∧ (∀ u, g ≤ u → u < 192 → σ.2.1 65 (192 * to + u) = σ0.2.1 65 (192 * to + u)) ∧ (w = 0 → σ0.2.1 47 to = 1 ∧ ∀ u, 0 ≤ u → u < g → σ.2.1 65 (192 * to + u) = σ0.2.1 65 (192 * to + u))
theorem CLIg.put {σ0 σ : MS} {to g w w' v : Int} (h : CLIg σ0 σ to g w) (h0 : 0 ≤ g ∧ g < 192) (hv : (σ0.2.1 47 to = 0 → v = σ0.2.1 66 g) ∧ (σ0.2.1 47 to ≠ 0 → σ.2.1 65 (192 * to + g) = σ0.2.1 66 g → v = σ0.2.1 66 g) ∧ (σ0.2.1 47 to ≠ 0 → σ.2.1 65 (192 * to + g) ≠ σ0.2.1 66 g → v = -1)) (hw : w' = 0 → w = 0 ∧ σ.2.1 65 (192 * to + g) = v) : CLIg σ0 (sA 65 (192 * to + g) v σ) to (g + 1) w' := by
  have eg := h.2.1 g (Int.le_refl g) h0.2
  refine ⟨fun u a b => ?_, fun u a b => (ra_ne (by omega) rfl).trans (h.2.1 u (by omega) b), fun z => ?_⟩
  · by_cases e : u = g
    · subst e
      rw [show (sA 65 (192 * to + u) v σ).2.1 65 (192 * to + u) = v from ra_eq]
      by_cases p : σ0.2.1 47 to = 0
      · rw [if_pos p]; exact hv.1 p
      · rw [if_neg p]
        by_cases q : σ0.2.1 65 (192 * to + u) = σ0.2.1 66 u
        · rw [if_pos q]; exact hv.2.1 p (by omega)
        · rw [if_neg q]; exact hv.2.2 p (by omega)
    · exact (ra_ne (by omega) rfl).trans (h.1 u a (by omega))
  · have q := h.2.2 (hw z).1
    refine ⟨q.1, fun u a b => ?_⟩
    by_cases e : u = g
    · subst e
      exact ra_eq.trans (by have := (hw z).2; omega)
    · exact (ra_ne (by omega) rfl).trans (q.2 u a (by omega))
theorem CLIg.start {σ0 : MS} {to w : Int} (hb : σ0.2.1 47 to = 0 ∨ σ0.2.1 47 to = 1) (hw : σ0.2.1 47 to = 0 → w = 1) : CLIg σ0 σ0 to 0 w := ⟨fun u a b => by omega, fun u a b => rfl, fun z => ⟨by omega, fun u a b => by omega⟩⟩
theorem CLIg.fin {σ σ1 : MS} {to w : Int} (h : CLIg σ σ1 to 192 w) (hre : ∀ y, (y < 192 * to ∨ 192 * to + 192 ≤ y) → σ1.2.1 65 y = σ.2.1 65 y) (f : Fr [] [65] [] σ σ1) : CLA σ (sA 47 to 1 σ1) to ∧ (w = 0 → CLU σ (sA 47 to 1 σ1) to) := ⟨⟨fun g a b => h.1 g a b, fun y q => hre y q, ra_eq, fun j e => ra_ne e (by rw [f.2.1 47 (by decide)])⟩, fun z => ⟨(h.2.2 z).1, fun g a b => (h.2.2 z).2 g a b⟩⟩
theorem beg_put {σ : MS} {BG : Int → Prop} {nb : Int → Int} {g : Int} (h : ∀ u, 0 ≤ u → u < 192 → (σ.2.1 66 (nb u) = u ↔ u < g ∧ BG u)) (hg : 0 ≤ g ∧ g < 192) (hb : BG g) (hd : ∀ x y, 0 ≤ x → x < 192 → 0 ≤ y → y < 192 → BG x → BG y → x ≠ y → nb x ≠ nb y) : ∀ u, 0 ≤ u → u < 192 → ((sA 66 (nb g) g σ).2.1 66 (nb u) = u ↔ u < g + 1 ∧ BG u) := fun u a b => by
  by_cases e : nb u = nb g
  · rw [e, show (sA 66 (nb g) g σ).2.1 66 (nb g) = g from ra_eq]
    constructor
    · intro q; subst q; exact ⟨by omega, hb⟩
    · rintro ⟨q1, q2⟩
      by_cases w : g = u
      · exact w
      · exact absurd e.symm (hd g u hg.1 hg.2 a b hb q2 w)
  · rw [show (sA 66 (nb g) g σ).2.1 66 (nb u) = σ.2.1 66 (nb u) from ra_ne e rfl, h u a b]
    have : u ≠ g := fun w => e (by rw [w])
    exact ⟨fun z => ⟨by omega, z.2⟩, fun z => ⟨by omega, z.2⟩⟩
section SH2
variable {σ τ : MS} {V : Int → It} {n : Int} {nb : Int → Int} {BG : Int → Prop} {to k r u v j t : Int}
theorem ed_V (hV : V = rV σ r) (hn : n = σ.2.1 9 r) (hd : TGD σ r) (hu : UNQ V n) (h0 : 0 ≤ k) (h1 : k < n) : EDv V n k t ↔ (¬ (σ.2.1 3 (220 * r + k) = 8 ∨ σ.2.1 3 (220 * r + k) = 7) ∧ t = k + 1) ∨ ((σ.2.1 3 (220 * r + k) = 8 ∨ σ.2.1 3 (220 * r + k) = 9) ∧ t = σ.2.1 46 (σ.2.1 4 (220 * r + k))) := by
  subst hV hn
  exact ed_rv hd hu h0 h1
theorem CLJ.same (h : CLJ σ V j t) (e5 : τ.2.1 65 = σ.2.1 65) (e7 : τ.2.1 47 = σ.2.1 47) (e64 : τ.2.1 64 = σ.2.1 64) : CLJ τ V j t := by
  have el : LTA τ = LTA σ := by funext j u; unfold LTA; rw [e5, e64]
  unfold CLJ
  rw [e7, e64, el]
  exact h
def Z0 (σ : MS) (BG : Int → Prop) : Prop := σ.2.1 47 0 = 1 ∧ ∀ u, 0 ≤ u → u < 192 → ¬ BG u → LTA σ 0 u
theorem Z0.go (h : Z0 σ BG) (hc : CLA σ τ to) (h64 : τ.2.1 64 = σ.2.1 64) (hnm : NUM σ) (hb : BO 47 σ) : Z0 τ BG := by
  by_cases e : to = 0
  · subst e
    exact ⟨hc.2.2.1, fun u a b q => (hc.at h64 (hnm u a b) a (hb 0)).mpr (Or.inr ⟨h.1, h.2 u a b q⟩)⟩
  · exact ⟨by rw [hc.2.2.2 0 (fun z => e z.symm)]; exact h.1, fun u a b q => (hc.ne h64 (hnm u a b) (fun z => e z.symm)).mpr (h.2 u a b q)⟩
theorem Z0.same (h : Z0 σ BG) (e5 : τ.2.1 65 = σ.2.1 65) (e7 : τ.2.1 47 = σ.2.1 47) (e64 : τ.2.1 64 = σ.2.1 64) : Z0 τ BG := by
  have el : LTA τ = LTA σ := by funext j u; unfold LTA; rw [e5, e64]
  unfold Z0
  rw [e7, el]
  exact h
theorem LSX.same (h : LSX σ V n nb BG) (e5 : τ.2.1 65 = σ.2.1 65) (e7 : τ.2.1 47 = σ.2.1 47) (e64 : τ.2.1 64 = σ.2.1 64) : LSX τ V n nb BG := by
  have el : LTA τ = LTA σ := by funext j u; unfold LTA; rw [e5, e64]
  unfold LSX
  rw [e7, el]
  exact h
theorem now_fr {ss ks js : List Nat} (f : Fr ss ks js σ τ) (h : ∀ k ∈ [64, 66], k ∉ ks) : NWA τ u ↔ NWA σ u := by
  unfold NWA
  rw [f.2.1 64 (h 64 (by decide)), f.2.1 66 (h 66 (by decide))]
theorem lta_of (e5 : τ.2.1 65 = σ.2.1 65) (e64 : τ.2.1 64 = σ.2.1 64) : LTA τ = LTA σ := by funext j u; unfold LTA; rw [e5, e64]
def UB8 (σ0 σ : MS) (r n k : Int) : Prop := ∀ j, 0 ≤ j → j < n → rI σ (220 * r + j) = dI (j < k ∧ rI σ0 (220 * r + j) 0 = 12 ∧ σ0.2.1 47 j = 1 ∧ ∃ u, rdI (rI σ0 (220 * r + j)) u ∧ LTA σ0 j u) (goI (rI σ0 (220 * r + j)) 13) (rI σ0 (220 * r + j))
theorem UB8.start : UB8 σ σ r n 0 := fun j _ _ => (dI_n (fun z => by omega)).symm
theorem UB8.at {σ0 : MS} (h : UB8 σ0 σ r n k) (a : 0 ≤ j) (b : j < n) (c : k ≤ j) : rI σ (220 * r + j) = rI σ0 (220 * r + j) := (h j a b).trans (dI_n (fun z => by omega))
theorem UB8.skip {σ0 : MS} (h : UB8 σ0 σ r n k) (hn : ¬ (rI σ0 (220 * r + k) 0 = 12 ∧ σ0.2.1 47 k = 1 ∧ ∃ u, rdI (rI σ0 (220 * r + k)) u ∧ LTA σ0 k u)) : UB8 σ0 σ r n (k + 1) := fun j a b => by
  rw [h j a b]
  by_cases e : j = k
  · subst e
    rw [dI_n (fun z => hn z.2), dI_n (fun z => hn z.2)]
  · exact dI_c ⟨fun z => ⟨by omega, z.2⟩, fun z => ⟨by omega, z.2⟩⟩
theorem UB8.take {σ0 : MS} (h : UB8 σ0 σ r n k) (h0 : 0 ≤ k ∧ k < n) (hy : rI σ0 (220 * r + k) 0 = 12 ∧ σ0.2.1 47 k = 1 ∧ ∃ u, rdI (rI σ0 (220 * r + k)) u ∧ LTA σ0 k u) : UB8 σ0 (fGone (220 * r + k) 13 σ) r n (k + 1) := fun j a b => by
  by_cases e : j = k
  · subst e
    rw [dI_y ⟨by omega, hy⟩, gon_ri, h.at a b (Int.le_refl j)]
  · rw [fGone_off.ri (by omega), h j a b]
    exact dI_c ⟨fun z => ⟨by omega, z.2⟩, fun z => ⟨by omega, z.2⟩⟩
theorem ub_fin {σc : MS} {F : Int} (hV : V = rV σc r) (hn : n = σc.2.1 9 r) (h9 : τ.2.1 9 r = n) (ho : OKS σc F r) (hf : ∀ k, 0 ≤ k → k ≤ n → (σc.2.1 47 k = 1 ↔ RCG V n 0 (fun _ => False) k) ∧ (σc.2.1 47 k = 1 → ∀ u, 0 ≤ u → u < 192 → (LTA σc k u ↔ lsV V n nb BG k u))) (h : UB8 σc τ r n n) : rV τ r = ubV V n nb BG := by
  subst hV hn
  funext j
  unfold ubV
  by_cases q : 0 ≤ j ∧ j < σc.2.1 9 r
  · rw [rv_in q.1 (by rw [h9]; exact q.2), h j q.1 q.2, rv_in q.1 q.2]
    have f := hf j q.1 (by omega)
    have rg : ∀ u, rdI (rI σc (220 * r + j)) u → 0 ≤ u ∧ u < 192 := fun u ⟨i, i0, i1, i2, i3⟩ => by
      rw [riK i0 i1] at i2
      rw [riN i0 i1] at i3
      rw [← i3]
      exact (((ho j q.1 q.2).2.2.2.2.2.2.2.1 i i0 i1).2 i2).1
    refine dI_c ⟨fun ⟨_, z1, z2, u, z3, z4⟩ => ⟨q, z1, f.1.mp z2, u, z3, (f.2 z2 u (rg u z3).1 (rg u z3).2).mp z4⟩, fun ⟨_, z1, z2, u, z3, z4⟩ => ⟨q.2, z1, f.1.mpr z2, u, z3, (f.2 (f.1.mpr z2) u (rg u z3).1 (rg u z3).2).mpr z4⟩⟩
  · rw [show rV τ r j = zI from if_neg (by rw [h9]; exact q), dI_n (fun z => q z.1)]
    exact (if_neg q).symm
end SH2
theorem beg_ls {σ τ : MS} {V : Int → It} {n : Int} {nb : Int → Int} {BG : Int → Prop} (hc : CLA σ τ 0) (h64 : τ.2.1 64 = σ.2.1 64) (hnm : NUM σ) (h0 : 0 ≤ n) (hz : ∀ j, 0 ≤ j → j ≤ n → σ.2.1 47 j = 0) (hbe : ∀ u, 0 ≤ u → u < 192 → (σ.2.1 66 (σ.2.1 64 u) = u ↔ BG u)) : LSX τ V n nb BG ∧ Z0 τ BG := by
  have z0 := hz 0 (Int.le_refl 0) h0
  refine ⟨fun k a b c => ?_, hc.2.2.1, fun u a b q => (hc.at h64 (hnm u a b) a (Or.inl z0)).mpr (Or.inl (fun z => q ((hbe u a b).mp z)))⟩
  by_cases e : k = 0
  · subst e
    refine ⟨RCG.z, fun u x y z => lsV.z (fun w => ?_)⟩
    rcases (hc.at h64 (hnm u x y) x (Or.inl z0)).mp z with q | q
    · exact q ((hbe u x y).mpr w)
    · have := q.1; omega
  · rw [hc.2.2.2 k e, hz k a b] at c
    omega
theorem ub_ex {σ : MS} {x k w : Int} (h : w = 1 ↔ ∀ e, 0 ≤ e → e < 4 → σ.2.1 7 (4 * x + e) = 2 → ¬ LTA σ k (σ.2.1 8 (4 * x + e))) : (∃ u, rdI (rI σ x) u ∧ LTA σ k u) ↔ ¬ w = 1 := by
  rw [h]
  constructor
  · rintro ⟨u, ⟨i, i0, i1, i2, i3⟩, q⟩ z
    rw [riK i0 i1] at i2
    rw [riN i0 i1] at i3
    exact z i i0 i1 i2 (by rw [i3]; exact q)
  · intro z
    apply Classical.byContradiction
    intro w
    refine z (fun e a b c q => w ⟨_, ⟨e, a, b, by rw [riK a b]; exact c, rfl⟩, by rw [riN a b]; exact q⟩)
end
section
set_option maxHeartbeats 1000000 in
set_option maxRecDepth 20000 in
theorem f_comesLast (d : Nat) {b : Nat} {σ0 : MS} {to : Int} {C0 : Int} {post : Option Value → MS → Prop} (hR0 : RG σ0) (hto : 0 ≤ to ∧ to ≤ 220) (hbo : BO 47 σ0) (hx_105 : ∀ (w : Int) (g : Int) (σ : MS) , (Fr [] [65] [] σ0 σ) → (RG σ) → ((w = 0 ∨ w = 1) ∧ (σ0.2.1 47 to = 0 → w = 1)) → (σ0.2.1 47 to = 1 → (cl (σ.2.1 65) (192 * to) 192 : Int) + w ≤ C0) → (∀ y, (y < 192 * to ∨ 192 * to + 192 ≤ y) → σ.2.1 65 y = σ0.2.1 65 y) → (CLIg σ0 σ to 192 w) → Tm (d + 1) m_X12_comesLast 105 b σ [(3, .int (iI g)), (2, .int (iI w)), (0, .ref b), (1, .int (iI to))] [] post) : ∀ (n : Nat) (w : Int) (g : Int) (σ : MS) , (Fr [] [65] [] σ0 σ) → (RG σ) → (0 ≤ g ∧ g ≤ 192 ∧ (w = 0 ∨ w = 1) ∧ (σ0.2.1 47 to = 0 → w = 1)) → (σ0.2.1 47 to = 1 → (cl (σ.2.1 65) (192 * to) 192 : Int) + w ≤ C0) → (∀ y, (y < 192 * to ∨ 192 * to + 192 ≤ y) → σ.2.1 65 y = σ0.2.1 65 y) → (CLIg σ0 σ to g w) → (192 - g).toNat = n → Tm (d + 1) m_X12_comesLast 17 b σ [(3, .int (iI g)), (2, .int (iI w)), (0, .ref b), (1, .int (iI to))] [] post := by
  intro n
  induction n using Nat.strongRecOn with
  | _ n ih =>
    intro w g σ hF hR h0 hcl hre hca hm
    refine tm_iload_n dX12_comesLast_17 rfl 0 rfl ?_
    refine tm_sipush dX12_comesLast_18 (by decide) ?_
    refine tm_icmp_ge (tgt := 105) dX12_comesLast_21 (by decide) ⟨by omega, by omega⟩ ⟨by decide, by decide⟩ (fun h1 => ?_) (fun h1 => ?_)
    · exact tm_sub [0, 1, 2, 3] rfl (hx_105 (w) (g) σ (Fr.rfl.trans (Fr.sub hF (by decide) (by decide) (by decide))) hR (by omega) hcl hre (by have e9 := hca; rw [show g = 192 by omega] at e9; exact e9))
    · refine tm_sipush dX12_comesLast_24 (by decide) ?_
      refine tm_iload_n dX12_comesLast_27 rfl 3 rfl ?_
      refine tm_imul dX12_comesLast_28 ?_
      refine tm_iload_n dX12_comesLast_29 rfl 0 rfl ?_
      refine tm_iadd dX12_comesLast_30 ?_
      refine tm_istore (L' := [(4, .int (iI ((192 * to) + g))), (3, .int (iI g)), (2, .int (iI w)), (0, .ref b), (1, .int (iI to))]) dX12_comesLast_31 (by decide) rfl ?_
      refine tm_aload_n dX12_comesLast_33 rfl 3 rfl ?_
      refine tm_get (k := 47) (v := .ref (b + 1 + 25)) lay_12 dX12_comesLast_34 (by decide) fl12_91 rfl ?_
      refine tm_iload_n dX12_comesLast_37 rfl 4 rfl ?_
      refine tm_zald (z := to) (v := σ0.2.1 47 to) dX12_comesLast_38 (show mT[25]? = some (47, 2, 221) from rfl) (by omega) (by omega) (by decide) (ra_F hF (by decide) (rfl)) ?_
      have g2 := RG.a hR0 47 (to)
      have := hbo (to)
      refine tm_if_eq (tgt := 58) dX12_comesLast_39 (by decide) ⟨by omega, by omega⟩ (fun h3 => ?_) (fun h3 => ?_)
      · refine tm_aload_n dX12_comesLast_58 rfl 3 rfl ?_
        refine tm_get (k := 66) (v := .ref (b + 1 + 43)) lay_12 dX12_comesLast_59 (by decide) fl12_149 rfl ?_
        refine tm_iload_n dX12_comesLast_62 rfl 1 rfl ?_
        refine tm_iald (z := g) (v := σ0.2.1 66 g) dX12_comesLast_63 (show mT[43]? = some (66, 0, 192) from rfl) (by omega) (by omega) (by decide) (ra_F hF (by decide) (rfl)) ?_
        have g4 := RG.a hR0 66 (g)
        refine tm_goto (tgt := 68) dX12_comesLast_64 (by decide) ?_
        refine tm_istore (L' := [(5, .int (iI (σ0.2.1 66 g))), (4, .int (iI ((192 * to) + g))), (3, .int (iI g)), (2, .int (iI w)), (0, .ref b), (1, .int (iI to))]) dX12_comesLast_68 (by decide) rfl ?_
        refine tm_iload_n dX12_comesLast_70 rfl 3 rfl ?_
        refine tm_aload_n dX12_comesLast_71 rfl 4 rfl ?_
        refine tm_get (k := 65) (v := .ref (b + 1 + 42)) lay_12 dX12_comesLast_72 (by decide) fl12_146 rfl ?_
        refine tm_iload dX12_comesLast_75 1 rfl ?_
        refine tm_iald (z := (192 * to) + g) (v := σ.2.1 65 ((192 * to) + g)) dX12_comesLast_77 (show mT[42]? = some (65, 0, 42432) from rfl) (by omega) (by omega) (by decide) (rfl) ?_
        have g5 := RG.a hR 65 ((192 * to) + g)
        refine tm_iload dX12_comesLast_78 0 rfl ?_
        refine tm_icmp_eq (tgt := 87) dX12_comesLast_80 (by decide) ⟨by omega, by omega⟩ ⟨by omega, by omega⟩ (fun h6 => ?_) (fun h6 => ?_)
        · refine tm_iconst dX12_comesLast_87 ?_
          refine tm_iorZ (x := w) (y := 0) dX12_comesLast_88 (by omega) (by omega) (fun c7 g8 => ?_)
          refine tm_istore_n (L' := [(2, .int (iI c7)), (5, .int (iI (σ0.2.1 66 g))), (4, .int (iI ((192 * to) + g))), (3, .int (iI g)), (0, .ref b), (1, .int (iI to))]) dX12_comesLast_89 rfl (by decide) rfl ?_
          refine tm_aload_n dX12_comesLast_90 rfl 4 rfl ?_
          refine tm_get (k := 65) (v := .ref (b + 1 + 42)) lay_12 dX12_comesLast_91 (by decide) fl12_146 rfl ?_
          refine tm_iload dX12_comesLast_94 2 rfl ?_
          refine tm_iload dX12_comesLast_96 1 rfl ?_
          refine tm_iast (z := (192 * to) + g) (v := σ0.2.1 66 g) dX12_comesLast_98 (show mT[42]? = some (65, 0, 42432) from rfl) (by omega) (by omega) (by decide) ?_
          refine tm_iinc (q0 := 3) (L' := [(3, .int (iI (g + 1))), (2, .int (iI c7)), (5, .int (iI (σ0.2.1 66 g))), (4, .int (iI ((192 * to) + g))), (0, .ref b), (1, .int (iI to))]) dX12_comesLast_99 rfl (by decide) rfl ?_
          refine tm_goto (tgt := 17) dX12_comesLast_102 (by decide) ?_
          exact tm_sub [0, 1, 4, 5] rfl (ih _ (by omega) (c7) (g + 1) (sA 65 ((192 * to) + g) (σ0.2.1 66 g) σ) ((Fr.rfl.trans (Fr.sub hF (by decide) (by decide) (by decide))).A (by decide)) (hR.A (by omega)) (by omega) (fun e => by
          have hq := cl_upd (f := σ.2.1 65) (lo := 192 * to) (z := 192 * to + g) (v := σ0.2.1 66 g) (n := 192) (by omega) (by omega)
          have hs : (sA 65 ((192 * to) + g) (σ0.2.1 66 g) σ).2.1 65 = fun q => if q = 192 * to + g then σ0.2.1 66 g else σ.2.1 65 q := by simp only [sA, if_true]
          rw [hs]
          generalize cl (fun q => if q = 192 * to + g then σ0.2.1 66 g else σ.2.1 65 q) (192 * to) 192 = a at hq ⊢
          have := hcl e
          split at hq <;> split at hq <;> omega) (fun y c => ra_ne (by omega) (hre y c)) (hca.put (by omega) ⟨fun _ => by omega, fun _ _ => by omega, fun _ _ => by omega⟩ (fun _ => by omega)) rfl)
        · refine tm_iconst dX12_comesLast_83 ?_
          refine tm_goto (tgt := 88) dX12_comesLast_84 (by decide) ?_
          refine tm_iorZ (x := w) (y := 1) dX12_comesLast_88 (by omega) (by omega) (fun c9 g10 => ?_)
          refine tm_istore_n (L' := [(2, .int (iI c9)), (5, .int (iI (σ0.2.1 66 g))), (4, .int (iI ((192 * to) + g))), (3, .int (iI g)), (0, .ref b), (1, .int (iI to))]) dX12_comesLast_89 rfl (by decide) rfl ?_
          refine tm_aload_n dX12_comesLast_90 rfl 4 rfl ?_
          refine tm_get (k := 65) (v := .ref (b + 1 + 42)) lay_12 dX12_comesLast_91 (by decide) fl12_146 rfl ?_
          refine tm_iload dX12_comesLast_94 2 rfl ?_
          refine tm_iload dX12_comesLast_96 1 rfl ?_
          refine tm_iast (z := (192 * to) + g) (v := σ0.2.1 66 g) dX12_comesLast_98 (show mT[42]? = some (65, 0, 42432) from rfl) (by omega) (by omega) (by decide) ?_
          refine tm_iinc (q0 := 3) (L' := [(3, .int (iI (g + 1))), (2, .int (iI c9)), (5, .int (iI (σ0.2.1 66 g))), (4, .int (iI ((192 * to) + g))), (0, .ref b), (1, .int (iI to))]) dX12_comesLast_99 rfl (by decide) rfl ?_
          refine tm_goto (tgt := 17) dX12_comesLast_102 (by decide) ?_
          exact tm_sub [0, 1, 4, 5] rfl (ih _ (by omega) (c9) (g + 1) (sA 65 ((192 * to) + g) (σ0.2.1 66 g) σ) ((Fr.rfl.trans (Fr.sub hF (by decide) (by decide) (by decide))).A (by decide)) (hR.A (by omega)) (by omega) (fun e => by
          have hq := cl_upd (f := σ.2.1 65) (lo := 192 * to) (z := 192 * to + g) (v := σ0.2.1 66 g) (n := 192) (by omega) (by omega)
          have hs : (sA 65 ((192 * to) + g) (σ0.2.1 66 g) σ).2.1 65 = fun q => if q = 192 * to + g then σ0.2.1 66 g else σ.2.1 65 q := by simp only [sA, if_true]
          rw [hs]
          generalize cl (fun q => if q = 192 * to + g then σ0.2.1 66 g else σ.2.1 65 q) (192 * to) 192 = a at hq ⊢
          have := hcl e
          split at hq <;> split at hq <;> omega) (fun y c => ra_ne (by omega) (hre y c)) (hca.put (by omega) ⟨fun _ => by omega, fun _ _ => by omega, fun _ _ => by omega⟩ (fun _ => by omega)) rfl)
      · refine tm_aload_n dX12_comesLast_42 rfl 3 rfl ?_
        refine tm_get (k := 65) (v := .ref (b + 1 + 42)) lay_12 dX12_comesLast_43 (by decide) fl12_146 rfl ?_
        refine tm_iload dX12_comesLast_46 0 rfl ?_
        refine tm_iald (z := (192 * to) + g) (v := σ.2.1 65 ((192 * to) + g)) dX12_comesLast_48 (show mT[42]? = some (65, 0, 42432) from rfl) (by omega) (by omega) (by decide) (rfl) ?_
        have g11 := RG.a hR 65 ((192 * to) + g)
        refine tm_aload_n dX12_comesLast_49 rfl 3 rfl ?_
        refine tm_get (k := 66) (v := .ref (b + 1 + 43)) lay_12 dX12_comesLast_50 (by decide) fl12_149 rfl ?_
        refine tm_iload_n dX12_comesLast_53 rfl 1 rfl ?_
        refine tm_iald (z := g) (v := σ0.2.1 66 g) dX12_comesLast_54 (show mT[43]? = some (66, 0, 192) from rfl) (by omega) (by omega) (by decide) (ra_F hF (by decide) (rfl)) ?_
        have g12 := RG.a hR0 66 (g)
        refine tm_icmp_ne (tgt := 67) dX12_comesLast_55 (by decide) ⟨by omega, by omega⟩ ⟨by omega, by omega⟩ (fun h13 => ?_) (fun h13 => ?_)
        · refine tm_iconst dX12_comesLast_67 ?_
          refine tm_istore (L' := [(5, .int (iI (-1))), (4, .int (iI ((192 * to) + g))), (3, .int (iI g)), (2, .int (iI w)), (0, .ref b), (1, .int (iI to))]) dX12_comesLast_68 (by decide) rfl ?_
          refine tm_iload_n dX12_comesLast_70 rfl 3 rfl ?_
          refine tm_aload_n dX12_comesLast_71 rfl 4 rfl ?_
          refine tm_get (k := 65) (v := .ref (b + 1 + 42)) lay_12 dX12_comesLast_72 (by decide) fl12_146 rfl ?_
          refine tm_iload dX12_comesLast_75 1 rfl ?_
          refine tm_iald (z := (192 * to) + g) (v := σ.2.1 65 ((192 * to) + g)) dX12_comesLast_77 (show mT[42]? = some (65, 0, 42432) from rfl) (by omega) (by omega) (by decide) (rfl) ?_
          have g14 := RG.a hR 65 ((192 * to) + g)
          refine tm_iload dX12_comesLast_78 0 rfl ?_
          refine tm_icmp_eq (tgt := 87) dX12_comesLast_80 (by decide) ⟨by omega, by omega⟩ ⟨by decide, by decide⟩ (fun h15 => ?_) (fun h15 => ?_)
          · refine tm_iconst dX12_comesLast_87 ?_
            refine tm_iorZ (x := w) (y := 0) dX12_comesLast_88 (by omega) (by omega) (fun c16 g17 => ?_)
            refine tm_istore_n (L' := [(2, .int (iI c16)), (5, .int (iI (-1))), (4, .int (iI ((192 * to) + g))), (3, .int (iI g)), (0, .ref b), (1, .int (iI to))]) dX12_comesLast_89 rfl (by decide) rfl ?_
            refine tm_aload_n dX12_comesLast_90 rfl 4 rfl ?_
            refine tm_get (k := 65) (v := .ref (b + 1 + 42)) lay_12 dX12_comesLast_91 (by decide) fl12_146 rfl ?_
            refine tm_iload dX12_comesLast_94 2 rfl ?_
            refine tm_iload dX12_comesLast_96 1 rfl ?_
            refine tm_iast (z := (192 * to) + g) (v := -1) dX12_comesLast_98 (show mT[42]? = some (65, 0, 42432) from rfl) (by omega) (by omega) (by decide) ?_
            refine tm_iinc (q0 := 3) (L' := [(3, .int (iI (g + 1))), (2, .int (iI c16)), (5, .int (iI (-1))), (4, .int (iI ((192 * to) + g))), (0, .ref b), (1, .int (iI to))]) dX12_comesLast_99 rfl (by decide) rfl ?_
            refine tm_goto (tgt := 17) dX12_comesLast_102 (by decide) ?_
            exact tm_sub [0, 1, 4, 5] rfl (ih _ (by omega) (c16) (g + 1) (sA 65 ((192 * to) + g) (-1) σ) ((Fr.rfl.trans (Fr.sub hF (by decide) (by decide) (by decide))).A (by decide)) (hR.A (by omega)) (by omega) (fun e => by
          have hq := cl_upd (f := σ.2.1 65) (lo := 192 * to) (z := 192 * to + g) (v := -1) (n := 192) (by omega) (by omega)
          have hs : (sA 65 ((192 * to) + g) (-1) σ).2.1 65 = fun q => if q = 192 * to + g then -1 else σ.2.1 65 q := by simp only [sA, if_true]
          rw [hs]
          generalize cl (fun q => if q = 192 * to + g then -1 else σ.2.1 65 q) (192 * to) 192 = a at hq ⊢
          have := hcl e
          split at hq <;> split at hq <;> omega) (fun y c => ra_ne (by omega) (hre y c)) (hca.put (by omega) ⟨fun _ => by omega, fun _ _ => by omega, fun _ _ => by omega⟩ (fun _ => by omega)) rfl)
          · refine tm_iconst dX12_comesLast_83 ?_
            refine tm_goto (tgt := 88) dX12_comesLast_84 (by decide) ?_
            refine tm_iorZ (x := w) (y := 1) dX12_comesLast_88 (by omega) (by omega) (fun c18 g19 => ?_)
            refine tm_istore_n (L' := [(2, .int (iI c18)), (5, .int (iI (-1))), (4, .int (iI ((192 * to) + g))), (3, .int (iI g)), (0, .ref b), (1, .int (iI to))]) dX12_comesLast_89 rfl (by decide) rfl ?_
            refine tm_aload_n dX12_comesLast_90 rfl 4 rfl ?_
            refine tm_get (k := 65) (v := .ref (b + 1 + 42)) lay_12 dX12_comesLast_91 (by decide) fl12_146 rfl ?_
            refine tm_iload dX12_comesLast_94 2 rfl ?_
            refine tm_iload dX12_comesLast_96 1 rfl ?_
            refine tm_iast (z := (192 * to) + g) (v := -1) dX12_comesLast_98 (show mT[42]? = some (65, 0, 42432) from rfl) (by omega) (by omega) (by decide) ?_
            refine tm_iinc (q0 := 3) (L' := [(3, .int (iI (g + 1))), (2, .int (iI c18)), (5, .int (iI (-1))), (4, .int (iI ((192 * to) + g))), (0, .ref b), (1, .int (iI to))]) dX12_comesLast_99 rfl (by decide) rfl ?_
            refine tm_goto (tgt := 17) dX12_comesLast_102 (by decide) ?_
            exact tm_sub [0, 1, 4, 5] rfl (ih _ (by omega) (c18) (g + 1) (sA 65 ((192 * to) + g) (-1) σ) ((Fr.rfl.trans (Fr.sub hF (by decide) (by decide) (by decide))).A (by decide)) (hR.A (by omega)) (by omega) (fun e => by
          have hq := cl_upd (f := σ.2.1 65) (lo := 192 * to) (z := 192 * to + g) (v := -1) (n := 192) (by omega) (by omega)
          have hs : (sA 65 ((192 * to) + g) (-1) σ).2.1 65 = fun q => if q = 192 * to + g then -1 else σ.2.1 65 q := by simp only [sA, if_true]
          rw [hs]
          generalize cl (fun q => if q = 192 * to + g then -1 else σ.2.1 65 q) (192 * to) 192 = a at hq ⊢
          have := hcl e
          split at hq <;> split at hq <;> omega) (fun y c => ra_ne (by omega) (hre y c)) (hca.put (by omega) ⟨fun _ => by omega, fun _ _ => by omega, fun _ _ => by omega⟩ (fun _ => by omega)) rfl)
        · refine tm_aload_n dX12_comesLast_58 rfl 3 rfl ?_
          refine tm_get (k := 66) (v := .ref (b + 1 + 43)) lay_12 dX12_comesLast_59 (by decide) fl12_149 rfl ?_
          refine tm_iload_n dX12_comesLast_62 rfl 1 rfl ?_
          refine tm_iald (z := g) (v := σ0.2.1 66 g) dX12_comesLast_63 (show mT[43]? = some (66, 0, 192) from rfl) (by omega) (by omega) (by decide) (ra_F hF (by decide) (rfl)) ?_
          have g20 := RG.a hR0 66 (g)
          refine tm_goto (tgt := 68) dX12_comesLast_64 (by decide) ?_
          refine tm_istore (L' := [(5, .int (iI (σ0.2.1 66 g))), (4, .int (iI ((192 * to) + g))), (3, .int (iI g)), (2, .int (iI w)), (0, .ref b), (1, .int (iI to))]) dX12_comesLast_68 (by decide) rfl ?_
          refine tm_iload_n dX12_comesLast_70 rfl 3 rfl ?_
          refine tm_aload_n dX12_comesLast_71 rfl 4 rfl ?_
          refine tm_get (k := 65) (v := .ref (b + 1 + 42)) lay_12 dX12_comesLast_72 (by decide) fl12_146 rfl ?_
          refine tm_iload dX12_comesLast_75 1 rfl ?_
          refine tm_iald (z := (192 * to) + g) (v := σ.2.1 65 ((192 * to) + g)) dX12_comesLast_77 (show mT[42]? = some (65, 0, 42432) from rfl) (by omega) (by omega) (by decide) (rfl) ?_
          have g21 := RG.a hR 65 ((192 * to) + g)
          refine tm_iload dX12_comesLast_78 0 rfl ?_
          refine tm_icmp_eq (tgt := 87) dX12_comesLast_80 (by decide) ⟨by omega, by omega⟩ ⟨by omega, by omega⟩ (fun h22 => ?_) (fun h22 => ?_)
          · refine tm_iconst dX12_comesLast_87 ?_
            refine tm_iorZ (x := w) (y := 0) dX12_comesLast_88 (by omega) (by omega) (fun c23 g24 => ?_)
            refine tm_istore_n (L' := [(2, .int (iI c23)), (5, .int (iI (σ0.2.1 66 g))), (4, .int (iI ((192 * to) + g))), (3, .int (iI g)), (0, .ref b), (1, .int (iI to))]) dX12_comesLast_89 rfl (by decide) rfl ?_
            refine tm_aload_n dX12_comesLast_90 rfl 4 rfl ?_
            refine tm_get (k := 65) (v := .ref (b + 1 + 42)) lay_12 dX12_comesLast_91 (by decide) fl12_146 rfl ?_
            refine tm_iload dX12_comesLast_94 2 rfl ?_
            refine tm_iload dX12_comesLast_96 1 rfl ?_
            refine tm_iast (z := (192 * to) + g) (v := σ0.2.1 66 g) dX12_comesLast_98 (show mT[42]? = some (65, 0, 42432) from rfl) (by omega) (by omega) (by decide) ?_
            refine tm_iinc (q0 := 3) (L' := [(3, .int (iI (g + 1))), (2, .int (iI c23)), (5, .int (iI (σ0.2.1 66 g))), (4, .int (iI ((192 * to) + g))), (0, .ref b), (1, .int (iI to))]) dX12_comesLast_99 rfl (by decide) rfl ?_
            refine tm_goto (tgt := 17) dX12_comesLast_102 (by decide) ?_
            exact tm_sub [0, 1, 4, 5] rfl (ih _ (by omega) (c23) (g + 1) (sA 65 ((192 * to) + g) (σ0.2.1 66 g) σ) ((Fr.rfl.trans (Fr.sub hF (by decide) (by decide) (by decide))).A (by decide)) (hR.A (by omega)) (by omega) (fun e => by
          have hq := cl_upd (f := σ.2.1 65) (lo := 192 * to) (z := 192 * to + g) (v := σ0.2.1 66 g) (n := 192) (by omega) (by omega)
          have hs : (sA 65 ((192 * to) + g) (σ0.2.1 66 g) σ).2.1 65 = fun q => if q = 192 * to + g then σ0.2.1 66 g else σ.2.1 65 q := by simp only [sA, if_true]
          rw [hs]
          generalize cl (fun q => if q = 192 * to + g then σ0.2.1 66 g else σ.2.1 65 q) (192 * to) 192 = a at hq ⊢
          have := hcl e
          split at hq <;> split at hq <;> omega) (fun y c => ra_ne (by omega) (hre y c)) (hca.put (by omega) ⟨fun _ => by omega, fun _ _ => by omega, fun _ _ => by omega⟩ (fun _ => by omega)) rfl)
          · exact absurd h22 (by omega)
set_option maxHeartbeats 1000000 in
set_option maxRecDepth 20000 in
theorem f_X12_comesLast (d : Nat) {b : Nat} {σ : MS} {to : Int} (hR : RG σ) (hbo : BO 47 σ) (hto : 0 ≤ to ∧ to ≤ 220) : Tm (d + 1) m_X12_comesLast 0 b σ [(0, .ref b), (1, .int (iI to))] [] (fun ro σ2 => ∃ v : Int, ro = some (.int (iI v)) ∧ ((v = 0 ∨ v = 1)) ∧ (Fr [] [47, 65] [] σ σ2) ∧ (RG σ2) ∧ (BO 47 σ2) ∧ (193 * (cz (σ2.2.1 47) 221 : Int) + (cr (σ2.2.1 47) (σ2.2.1 65) 221 : Int) + v ≤ 193 * (cz (σ.2.1 47) 221 : Int) + (cr (σ.2.1 47) (σ.2.1 65) 221 : Int)) ∧ (CLA σ σ2 to) ∧ (v = 0 → CLU σ σ2 to)) := by
  refine tm_aload_n dX12_comesLast_0 rfl 0 rfl ?_
  refine tm_get (k := 47) (v := .ref (b + 1 + 25)) lay_12 dX12_comesLast_1 (by decide) fl12_91 rfl ?_
  refine tm_iload_n dX12_comesLast_4 rfl 1 rfl ?_
  refine tm_zald (z := to) (v := σ.2.1 47 to) dX12_comesLast_5 (show mT[25]? = some (47, 2, 221) from rfl) (by omega) (by omega) (by decide) (rfl) ?_
  have g1 := RG.a hR 47 (to)
  have := hbo (to)
  refine tm_if_ne (tgt := 13) dX12_comesLast_6 (by decide) ⟨by omega, by omega⟩ (fun h2 => ?_) (fun h2 => ?_)
  · refine tm_iconst dX12_comesLast_13 ?_
    refine tm_istore_n (L' := [(2, .int (iI 0)), (0, .ref b), (1, .int (iI to))]) dX12_comesLast_14 rfl (by decide) rfl ?_
    refine tm_iconst dX12_comesLast_15 ?_
    refine tm_istore_n (L' := [(3, .int (iI 0)), (2, .int (iI 0)), (0, .ref b), (1, .int (iI to))]) dX12_comesLast_16 rfl (by decide) rfl ?_
    refine tm_sub [0, 1, 2, 3] rfl (f_comesLast (d) (σ0 := σ) (to := to) (C0 := (cl (σ.2.1 65) (192 * to) 192 : Int)) hR (by omega) hbo (fun w12 g13 σ14 F6 R7 f8 f9 f10 f11 => ?_) _ (0) (0) σ Fr.rfl hR (by omega) (by omega) (fun y _ => rfl) (CLIg.start (hbo to) (by omega)) rfl)
    show Tm _ _ 105 b σ14 [(3, .int (iI g13)), (2, .int (iI w12)), (0, .ref b), (1, .int (iI to))] [] _
    refine tm_aload_n dX12_comesLast_105 rfl 2 rfl ?_
    refine tm_get (k := 47) (v := .ref (b + 1 + 25)) lay_12 dX12_comesLast_106 (by decide) fl12_91 rfl ?_
    refine tm_iload_n dX12_comesLast_109 rfl 3 rfl ?_
    refine tm_iconst dX12_comesLast_110 ?_
    refine tm_zast (z := to) (v := 1) dX12_comesLast_111 (show mT[25]? = some (47, 2, 221) from rfl) (by omega) (by omega) (by decide) (by omega) ?_
    refine tm_iload_n dX12_comesLast_112 rfl 1 rfl ?_
    exact tm_zret (v := w12) rfl (by omega) dX12_comesLast_113 (⟨_, rfl, by omega, ((Fr.rfl.trans (Fr.sub F6 (by decide) (by decide) (by decide))).A (by decide)), (R7.A (by omega)), BO.A (hbo.fr F6 (by decide)) (by omega), by
      have e8 := cz_fr (n := 221) F6 (k := 47) (by decide)
      have e7 : σ14.2.1 47 to = σ.2.1 47 to := by rw [F6.2.1 47 (by decide)]
      have e6 : (sA 47 to 1 σ14).2.1 65 = σ14.2.1 65 := rfl
      have e5 : (sA 47 to 1 σ14).2.1 47 to = 1 := ra_eq
      have e4 := cr_one (p := σ.2.1 47) (q := (sA 47 to 1 σ14).2.1 47) (f := σ.2.1 65) (g := σ14.2.1 65) 221 hto.1 (by omega) (fun k hk => ra_ne hk (by rw [F6.2.1 47 (by decide)])) f10
      have e3 := cl_le (σ14.2.1 65) (192 * to) 192
      rw [e6]
      rw [if_pos e5] at e4
      have e2 := f9
      rcases hbo to with e | e
      · have := cz_sA (σ := σ14) (k := 47) (n := 221) (z := to) (v := 1) (by omega) (by omega) (by omega) (by decide)
        rw [if_neg (by omega)] at e4
        omega
      · have e9 : cz ((sA 47 to 1 σ14).2.1 47) 221 = cz (σ14.2.1 47) 221 := cz_ext _ (fun j a c => by
          by_cases q : j = to
          · subst q; rw [e7, e]; exact ra_eq
          · exact ra_ne q rfl)
        rw [if_pos e] at e4
        have := e2 e
        omega, (CLIg.fin f11 f10 F6).1, (CLIg.fin f11 f10 F6).2⟩)
  · refine tm_iconst dX12_comesLast_9 ?_
    refine tm_goto (tgt := 14) dX12_comesLast_10 (by decide) ?_
    refine tm_istore_n (L' := [(2, .int (iI 1)), (0, .ref b), (1, .int (iI to))]) dX12_comesLast_14 rfl (by decide) rfl ?_
    refine tm_iconst dX12_comesLast_15 ?_
    refine tm_istore_n (L' := [(3, .int (iI 0)), (2, .int (iI 1)), (0, .ref b), (1, .int (iI to))]) dX12_comesLast_16 rfl (by decide) rfl ?_
    refine tm_sub [0, 1, 2, 3] rfl (f_comesLast (d) (σ0 := σ) (to := to) (C0 := (cl (σ.2.1 65) (192 * to) 192 : Int)) hR (by omega) hbo (fun w24 g25 σ26 F18 R19 f20 f21 f22 f23 => ?_) _ (1) (0) σ Fr.rfl hR (by omega) (by omega) (fun y _ => rfl) (CLIg.start (hbo to) (by omega)) rfl)
    show Tm _ _ 105 b σ26 [(3, .int (iI g25)), (2, .int (iI w24)), (0, .ref b), (1, .int (iI to))] [] _
    refine tm_aload_n dX12_comesLast_105 rfl 2 rfl ?_
    refine tm_get (k := 47) (v := .ref (b + 1 + 25)) lay_12 dX12_comesLast_106 (by decide) fl12_91 rfl ?_
    refine tm_iload_n dX12_comesLast_109 rfl 3 rfl ?_
    refine tm_iconst dX12_comesLast_110 ?_
    refine tm_zast (z := to) (v := 1) dX12_comesLast_111 (show mT[25]? = some (47, 2, 221) from rfl) (by omega) (by omega) (by decide) (by omega) ?_
    refine tm_iload_n dX12_comesLast_112 rfl 1 rfl ?_
    exact tm_zret (v := w24) rfl (by omega) dX12_comesLast_113 (⟨_, rfl, by omega, ((Fr.rfl.trans (Fr.sub F18 (by decide) (by decide) (by decide))).A (by decide)), (R19.A (by omega)), BO.A (hbo.fr F18 (by decide)) (by omega), by
      have e8 := cz_fr (n := 221) F18 (k := 47) (by decide)
      have e7 : σ26.2.1 47 to = σ.2.1 47 to := by rw [F18.2.1 47 (by decide)]
      have e6 : (sA 47 to 1 σ26).2.1 65 = σ26.2.1 65 := rfl
      have e5 : (sA 47 to 1 σ26).2.1 47 to = 1 := ra_eq
      have e4 := cr_one (p := σ.2.1 47) (q := (sA 47 to 1 σ26).2.1 47) (f := σ.2.1 65) (g := σ26.2.1 65) 221 hto.1 (by omega) (fun k hk => ra_ne hk (by rw [F18.2.1 47 (by decide)])) f22
      have e3 := cl_le (σ26.2.1 65) (192 * to) 192
      rw [e6]
      rw [if_pos e5] at e4
      have e2 := f21
      rcases hbo to with e | e
      · have := cz_sA (σ := σ26) (k := 47) (n := 221) (z := to) (v := 1) (by omega) (by omega) (by omega) (by decide)
        rw [if_neg (by omega)] at e4
        omega
      · have e9 : cz ((sA 47 to 1 σ26).2.1 47) 221 = cz (σ26.2.1 47) 221 := cz_ext _ (fun j a c => by
          by_cases q : j = to
          · subst q; rw [e7, e]; exact ra_eq
          · exact ra_ne q rfl)
        rw [if_pos e] at e4
        have := e2 e
        omega, (CLIg.fin f23 f22 F18).1, (CLIg.fin f23 f22 F18).2⟩)
set_option maxHeartbeats 1000000 in
set_option maxRecDepth 20000 in
theorem f_unb1 (d : Nat) {b : Nat} {σ0 : MS} {r : Int} {post : Option Value → MS → Prop} (hr : 0 ≤ r ∧ r < 6) (hR0 : RG σ0) (hit : 0 ≤ σ0.2.1 9 r ∧ σ0.2.1 9 r ≤ 220) (hx_30 : ∀ (k : Int) (σ : MS) , (Fr [] [47] [] σ0 σ) → (RG σ) → (BO 47 σ) → (∀ j, 0 ≤ j → j ≤ σ0.2.1 9 r → σ.2.1 47 j = 0) → Tm (d + 1) m_X12_unbind 30 b σ [(2, .int (iI k)), (0, .ref b), (1, .int (iI r))] [] post) : ∀ (n : Nat) (k : Int) (σ : MS) , (Fr [] [47] [] σ0 σ) → (RG σ) → (0 ≤ k ∧ k ≤ 221) → (BO 47 σ) → (∀ j, 0 ≤ j → j < k → σ.2.1 47 j = 0) → (221 - k).toNat = n → Tm (d + 1) m_X12_unbind 7 b σ [(2, .int (iI k)), (0, .ref b), (1, .int (iI r))] [] post := by
  intro n
  induction n using Nat.strongRecOn with
  | _ n ih =>
    intro k σ hF hR h0 hbo hj hm
    refine tm_iload_n dX12_unbind_7 rfl 0 rfl ?_
    refine tm_aload_n dX12_unbind_8 rfl 1 rfl ?_
    refine tm_get (k := 9) (v := .ref (b + 1 + 7)) lay_12 dX12_unbind_9 (by decide) fl12_32 rfl ?_
    refine tm_iload_n dX12_unbind_12 rfl 2 rfl ?_
    refine tm_iald (z := r) (v := σ0.2.1 9 r) dX12_unbind_13 (show mT[7]? = some (9, 0, 13) from rfl) (by omega) (by omega) (by decide) (ra_F hF (by decide) (rfl)) ?_
    have g1 := RG.a hR0 9 (r)
    refine tm_icmp_gt (tgt := 30) dX12_unbind_14 (by decide) ⟨by omega, by omega⟩ ⟨by omega, by omega⟩ (fun h2 => ?_) (fun h2 => ?_)
    · exact tm_sub [0, 1, 2] rfl (hx_30 (k) σ (Fr.rfl.trans (Fr.sub hF (by decide) (by decide) (by decide))) hR hbo (fun j a c => hj j a (by omega)))
    · refine tm_aload_n dX12_unbind_17 rfl 1 rfl ?_
      refine tm_get (k := 47) (v := .ref (b + 1 + 25)) lay_12 dX12_unbind_18 (by decide) fl12_91 rfl ?_
      refine tm_iload_n dX12_unbind_21 rfl 0 rfl ?_
      refine tm_iconst dX12_unbind_22 ?_
      refine tm_zast (z := k) (v := 0) dX12_unbind_23 (show mT[25]? = some (47, 2, 221) from rfl) (by omega) (by omega) (by decide) (by omega) ?_
      refine tm_iinc (q0 := 0) (L' := [(2, .int (iI (k + 1))), (0, .ref b), (1, .int (iI r))]) dX12_unbind_24 rfl (by decide) rfl ?_
      refine tm_goto (tgt := 7) dX12_unbind_27 (by decide) ?_
      exact tm_sub [0, 1, 2] rfl (ih _ (by omega) (k + 1) (sA 47 (k) (0) σ) ((Fr.rfl.trans (Fr.sub hF (by decide) (by decide) (by decide))).A (by decide)) (hR.A (by omega)) (by omega) (hbo.A (by omega)) (fun j a c => by
          by_cases z : j = k
          · subst z; exact ra_eq
          · exact ra_ne z (hj j a (by omega))) rfl)
set_option maxHeartbeats 1000000 in
set_option maxRecDepth 20000 in
theorem f_unb2 (d : Nat) {b : Nat} {σ0 : MS} {r : Int} {post : Option Value → MS → Prop} (hx_52 : ∀ (g : Int) (σ : MS) , (Fr [] [66] [] σ0 σ) → (RG σ) → (∀ j, 0 ≤ j → j < 192 → σ.2.1 66 j = -1) → Tm (d + 1) m_X12_unbind 52 b σ [(2, .int (iI g)), (0, .ref b), (1, .int (iI r))] [] post) : ∀ (n : Nat) (g : Int) (σ : MS) , (Fr [] [66] [] σ0 σ) → (RG σ) → (0 ≤ g ∧ g ≤ 192) → (∀ j, 0 ≤ j → j < g → σ.2.1 66 j = -1) → (192 - g).toNat = n → Tm (d + 1) m_X12_unbind 32 b σ [(2, .int (iI g)), (0, .ref b), (1, .int (iI r))] [] post := by
  intro n
  induction n using Nat.strongRecOn with
  | _ n ih =>
    intro g σ hF hR h0 hj hm
    refine tm_iload_n dX12_unbind_32 rfl 0 rfl ?_
    refine tm_sipush dX12_unbind_33 (by decide) ?_
    refine tm_icmp_ge (tgt := 52) dX12_unbind_36 (by decide) ⟨by omega, by omega⟩ ⟨by decide, by decide⟩ (fun h1 => ?_) (fun h1 => ?_)
    · exact tm_sub [0, 1, 2] rfl (hx_52 (g) σ (Fr.rfl.trans (Fr.sub hF (by decide) (by decide) (by decide))) hR (fun j a c => hj j a (by omega)))
    · refine tm_aload_n dX12_unbind_39 rfl 1 rfl ?_
      refine tm_get (k := 66) (v := .ref (b + 1 + 43)) lay_12 dX12_unbind_40 (by decide) fl12_149 rfl ?_
      refine tm_iload_n dX12_unbind_43 rfl 0 rfl ?_
      refine tm_iconst dX12_unbind_44 ?_
      refine tm_iast (z := g) (v := -1) dX12_unbind_45 (show mT[43]? = some (66, 0, 192) from rfl) (by omega) (by omega) (by decide) ?_
      refine tm_iinc (q0 := 0) (L' := [(2, .int (iI (g + 1))), (0, .ref b), (1, .int (iI r))]) dX12_unbind_46 rfl (by decide) rfl ?_
      refine tm_goto (tgt := 32) dX12_unbind_49 (by decide) ?_
      exact tm_sub [0, 1, 2] rfl (ih _ (by omega) (g + 1) (sA 66 (g) (-1) σ) ((Fr.rfl.trans (Fr.sub hF (by decide) (by decide) (by decide))).A (by decide)) (hR.A (by omega)) (by omega) (fun j a c => by
          by_cases z : j = g
          · subst z; exact ra_eq
          · exact ra_ne z (hj j a (by omega))) rfl)
set_option maxHeartbeats 1000000 in
set_option maxRecDepth 20000 in
theorem f_unb3 (d : Nat) {b : Nat} {σ0 : MS} {r : Int} {BG : Int → Prop} {post : Option Value → MS → Prop} (hr : 0 ≤ r ∧ r < 6) (hR0 : RG σ0) (hpar : PAR σ0) (hbl : BO 59 σ0) (hnu : NUM σ0) (hBG : ∀ g, 0 ≤ g → g < 192 → ((PMQ σ0 r g ∨ σ0.2.1 59 g = 1) ↔ BG g)) (hdi : ∀ x y, 0 ≤ x → x < 192 → 0 ≤ y → y < 192 → BG x → BG y → x ≠ y → σ0.2.1 64 x ≠ σ0.2.1 64 y) (hx_88 : ∀ (g : Int) (σ : MS) , (Fr [] [66] [] σ0 σ) → (RG σ) → (∀ u, 0 ≤ u → u < 192 → (σ.2.1 66 (σ0.2.1 64 u) = u ↔ BG u)) → Tm (d + 3) m_X12_unbind 88 b σ [(2, .int (iI g)), (0, .ref b), (1, .int (iI r))] [] post) : ∀ (n : Nat) (g : Int) (σ : MS) , (Fr [] [66] [] σ0 σ) → (RG σ) → (0 ≤ g ∧ g ≤ 192) → (∀ u, 0 ≤ u → u < 192 → (σ.2.1 66 (σ0.2.1 64 u) = u ↔ u < g ∧ BG u)) → (192 - g).toNat = n → Tm (d + 3) m_X12_unbind 54 b σ [(2, .int (iI g)), (0, .ref b), (1, .int (iI r))] [] post := by
  intro n
  induction n using Nat.strongRecOn with
  | _ n ih =>
    intro g σ hF hR h0 hnw hm
    have hPM : ∀ g, PMQ σ r g ↔ PMQ σ0 r g := fun g => by unfold PMQ; rw [hF.2.1 11 (by decide), hF.2.1 18 (by decide)]
    have hBG1 : ∀ g, 0 ≤ g → g < 192 → ((PMQ σ r g ∨ σ.2.1 59 g = 1) ↔ BG g) := fun g a b => by rw [hPM g, hF.2.1 59 (by decide)]; exact hBG g a b
    refine tm_iload_n dX12_unbind_54 rfl 0 rfl ?_
    refine tm_sipush dX12_unbind_55 (by decide) ?_
    refine tm_icmp_ge (tgt := 88) dX12_unbind_58 (by decide) ⟨by omega, by omega⟩ ⟨by decide, by decide⟩ (fun h1 => ?_) (fun h1 => ?_)
    · exact tm_sub [0, 1, 2] rfl (hx_88 (g) σ (Fr.rfl.trans (Fr.sub hF (by decide) (by decide) (by decide))) hR (fun u a b => (hnw u a b).trans ⟨fun z => z.2, fun z => ⟨by omega, z⟩⟩))
    · refine tm_aload_n dX12_unbind_61 rfl 1 rfl ?_
      refine tm_iload_n dX12_unbind_62 rfl 2 rfl ?_
      refine tm_iload_n dX12_unbind_63 rfl 0 rfl ?_
      refine tm_callV (M := m_X12_unbind) (pc := 64) (ix := 521) (M' := m_X12_isAtBegin) (As := [.int (iI r), .int (iI g)]) (rest := []) dX12_unbind_64 ok_X12_isAtBegin im_X12_isAtBegin se_X12_isAtBegin ml12_521 np_X12_isAtBegin rfl rfl (Nat.le_of_ble_eq_true rfl) (Nat.le_of_ble_eq_true rfl) rfl (f_X12_isAtBegin (d) (σ := σ) (r := r) (g := g) (by omega) hR (hpar.fr hF (by decide)) (hbl.fr hF (by decide)) (by omega)) (fun r2 σ3 hp => ?_)
      obtain ⟨v4, rfl, rfl, f5, f6⟩ := hp
      show Tm _ _ 67 b σ [(2, .int (iI g)), (0, .ref b), (1, .int (iI r))] [.int (iI v4)] _
      have hB := f6
      rw [hBG1 g (by omega) (by omega)] at hB
      refine tm_if_eq (tgt := 82) dX12_unbind_67 (by decide) ⟨by omega, by omega⟩ (fun h7 => ?_) (fun h7 => ?_)
      · refine tm_iinc (q0 := 0) (L' := [(2, .int (iI (g + 1))), (0, .ref b), (1, .int (iI r))]) dX12_unbind_82 rfl (by decide) rfl ?_
        refine tm_goto (tgt := 54) dX12_unbind_85 (by decide) ?_
        exact tm_sub [0, 1, 2] rfl (ih _ (by omega) (g + 1) σ (Fr.rfl.trans (Fr.sub hF (by decide) (by decide) (by decide))) hR (by omega) (fun u a b => (hnw u a b).trans ⟨fun z => ⟨by omega, z.2⟩, fun z => ⟨by have e9 : u ≠ g := fun e => absurd (hB.mpr (by rw [← e]; exact z.2)) (by omega); omega, z.2⟩⟩) rfl)
      · refine tm_aload_n dX12_unbind_70 rfl 1 rfl ?_
        refine tm_get (k := 66) (v := .ref (b + 1 + 43)) lay_12 dX12_unbind_71 (by decide) fl12_149 rfl ?_
        refine tm_aload_n dX12_unbind_74 rfl 1 rfl ?_
        refine tm_get (k := 64) (v := .ref (b + 1 + 41)) lay_12 dX12_unbind_75 (by decide) fl12_143 rfl ?_
        refine tm_iload_n dX12_unbind_78 rfl 0 rfl ?_
        refine tm_iald (z := g) (v := σ0.2.1 64 g) dX12_unbind_79 (show mT[41]? = some (64, 0, 192) from rfl) (by omega) (by omega) (by decide) (ra_F hF (by decide) (rfl)) ?_
        have g8 := RG.a hR0 64 (g)
        have := hnu (g) (by omega) (by omega)
        refine tm_iload_n dX12_unbind_80 rfl 0 rfl ?_
        refine tm_iast (z := σ0.2.1 64 g) (v := g) dX12_unbind_81 (show mT[43]? = some (66, 0, 192) from rfl) (by omega) (by omega) (by decide) ?_
        refine tm_iinc (q0 := 0) (L' := [(2, .int (iI (g + 1))), (0, .ref b), (1, .int (iI r))]) dX12_unbind_82 rfl (by decide) rfl ?_
        refine tm_goto (tgt := 54) dX12_unbind_85 (by decide) ?_
        exact tm_sub [0, 1, 2] rfl (ih _ (by omega) (g + 1) (sA 66 (σ0.2.1 64 g) (g) σ) ((Fr.rfl.trans (Fr.sub hF (by decide) (by decide) (by decide))).A (by decide)) (hR.A (by omega)) (by omega) (beg_put (nb := σ0.2.1 64) hnw (by omega) (hB.mp (by omega)) hdi) rfl)
set_option maxHeartbeats 1000000 in
set_option maxRecDepth 20000 in
theorem f_unb7 (d : Nat) {b : Nat} {σ0 : MS} {r : Int} {F : Int} {m : Int} {k : Int} {C0 : Int} {V : Int → It} {BG : Int → Prop} {nb : Int → Int} {post : Option Value → MS → Prop} (hr : 0 ≤ r ∧ r < 6) (hR0 : RG σ0) (hit : ITM σ0) (hok : OKS σ0 F r) (htg : TGT σ0 r) (hnu : NUM σ0) (hm : m = σ0.2.1 9 r) (htd : TGD σ0 r) (hV : V = rV σ0 r) (hu : UNQ V m) (hnb : nb = σ0.2.1 64) (hk : 0 ≤ k ∧ k < m) (hrk : RCG V m 0 (fun _ => False) k) (hx_254 : ∀ (w : Int) (i : Int) (σ : MS) , (Fr [] [47, 65] [] σ0 σ) → (RG σ) → (w = 0 ∨ w = 1) → (BO 47 σ) → (193 * (cz (σ.2.1 47) 221 : Int) + (cr (σ.2.1 47) (σ.2.1 65) 221 : Int) + w ≤ C0) → (LSX σ V m nb BG) → (Wz w (CLZ σ V r (k + 1))) → (Z0 σ BG) → Tm (d + 3) m_X12_unbind 254 b σ [(5, .int (iI i)), (3, .int (iI k)), (2, .int (iI w)), (0, .ref b), (1, .int (iI r))] [] post) : ∀ (n : Nat) (w : Int) (i : Int) (σ : MS) , (Fr [] [47, 65] [] σ0 σ) → (RG σ) → ((w = 0 ∨ w = 1) ∧ 0 ≤ i ∧ i ≤ 2) → (BO 47 σ) → (193 * (cz (σ.2.1 47) 221 : Int) + (cr (σ.2.1 47) (σ.2.1 65) 221 : Int) + w ≤ C0) → (LSX σ V m nb BG) → (∀ u, 0 ≤ u → u < 192 → NWA σ u → ∀ t, EDv V m k t → lsV V m nb BG t u) → (Wz w (∀ u, 0 ≤ u → u < 192 → lsT V (σ.2.1 64) (LTA σ k) k u → NWA σ u)) → (Wz w (CLZ σ V r k)) → (Z0 σ BG) → (Wz w (1 ≤ i → ¬ (σ.2.1 3 (220 * r + k) = 8 ∨ σ.2.1 3 (220 * r + k) = 7) → CLJ σ V k (k + 1))) → (Wz w (2 ≤ i → (σ.2.1 3 (220 * r + k) = 8 ∨ σ.2.1 3 (220 * r + k) = 9) → CLJ σ V k (σ.2.1 46 (σ.2.1 4 (220 * r + k))))) → (2 - i).toNat = n → Tm (d + 3) m_X12_unbind 209 b σ [(5, .int (iI i)), (3, .int (iI k)), (2, .int (iI w)), (0, .ref b), (1, .int (iI r))] [] post := by
  intro n
  induction n using Nat.strongRecOn with
  | _ n ih =>
    intro w i σ hF hR h0 hbo hcn hls hsn hcp hcl hzz hp0 hp1 hm
    have hit1 := hit.fr hF (by decide)
    have hok1 := hok.fr hF (by decide)
    have htg1 := htg.fr hF (by decide)
    have hnu1 := hnu.fr hF (by decide)
    have q1 := hit r (by omega) (by omega)
    have q9 : σ.2.1 9 r = σ0.2.1 9 r := by rw [hF.2.1 9 (by decide)]
    have hV1 : V = rV σ r := hV.trans (rv_fr hF (by decide)).symm
    have htd1 := htd.fr hF (by decide)
    have hnb1 : nb = σ.2.1 64 := hnb.trans (hF.2.1 64 (by decide)).symm
    have e64 : σ.2.1 64 = σ0.2.1 64 := hF.2.1 64 (by decide)
    have e3 : σ.2.1 3 = σ0.2.1 3 := hF.2.1 3 (by decide)
    have e4 : σ.2.1 4 = σ0.2.1 4 := hF.2.1 4 (by decide)
    have e46 : σ.2.1 46 = σ0.2.1 46 := hF.2.1 46 (by decide)
    have hV9 : V = rV σ0 r := hV
    have q5 := htg1 k (by omega) (by omega)
    refine tm_iload dX12_unbind_209 0 rfl ?_
    refine tm_iconst dX12_unbind_211 ?_
    refine tm_icmp_ge (tgt := 254) dX12_unbind_212 (by decide) ⟨by omega, by omega⟩ ⟨by decide, by decide⟩ (fun h1 => ?_) (fun h1 => ?_)
    · exact tm_sub [0, 1, 2, 3, 4] rfl (hx_254 (w) (i) σ (Fr.rfl.trans (Fr.sub hF (by decide) (by decide) (by decide))) hR (by omega) hbo hcn hls (fun e j a b q => by
          by_cases z : j = k
          · subst z; exact ⟨hp0 e (by omega), hp1 e (by omega)⟩
          · exact hcl e j a (by omega) q) hzz)
    · refine tm_aload_n dX12_unbind_215 rfl 3 rfl ?_
      refine tm_iload_n dX12_unbind_216 rfl 4 rfl ?_
      refine tm_iload_n dX12_unbind_217 rfl 1 rfl ?_
      refine tm_iload dX12_unbind_218 0 rfl ?_
      refine tm_callV (M := m_X12_unbind) (pc := 220) (ix := 413) (M' := m_X12_goesOn) (As := [.int (iI r), .int (iI k), .int (iI i)]) (rest := []) dX12_unbind_220 ok_X12_goesOn im_X12_goesOn se_X12_goesOn ml12_413 np_X12_goesOn rfl rfl (Nat.le_of_ble_eq_true rfl) (Nat.le_of_ble_eq_true rfl) rfl (c_X12_goesOn (d) (σ := σ) (r := r) (k := k) (how := i) (by omega) hR (by omega) (fun q => hok1.jmp _ (by omega) (by omega) (by omega)) (by omega)) (fun r2 σ3 hp => ?_)
      obtain ⟨v4, rfl, rfl, f5, f6, f7, f8⟩ := hp
      show Tm _ _ 223 b σ [(5, .int (iI i)), (3, .int (iI k)), (2, .int (iI w)), (0, .ref b), (1, .int (iI r))] [.int (iI v4)] _
      refine tm_istore (L' := [(6, .int (iI v4)), (5, .int (iI i)), (3, .int (iI k)), (2, .int (iI w)), (0, .ref b), (1, .int (iI r))]) dX12_unbind_223 (by decide) rfl ?_
      refine tm_iload_n dX12_unbind_225 rfl 3 rfl ?_
      refine tm_iload dX12_unbind_226 0 rfl ?_
      refine tm_iconst dX12_unbind_228 ?_
      refine tm_icmp_eq (tgt := 245) dX12_unbind_229 (by decide) ⟨by omega, by omega⟩ ⟨by decide, by decide⟩ (fun h10 => ?_) (fun h10 => ?_)
      · refine tm_iconst dX12_unbind_245 ?_
        refine tm_iorZ (x := w) (y := 0) dX12_unbind_246 (by omega) (by omega) (fun c11 g12 => ?_)
        refine tm_istore_n (L' := [(2, .int (iI c11)), (6, .int (iI v4)), (5, .int (iI i)), (3, .int (iI k)), (0, .ref b), (1, .int (iI r))]) dX12_unbind_247 rfl (by decide) rfl ?_
        refine tm_iinc (q0 := 2) (L' := [(5, .int (iI (i + 1))), (2, .int (iI c11)), (6, .int (iI v4)), (3, .int (iI k)), (0, .ref b), (1, .int (iI r))]) dX12_unbind_248 rfl (by decide) rfl ?_
        refine tm_goto (tgt := 209) dX12_unbind_251 (by decide) ?_
        exact tm_sub [0, 3, 1, 4, 5] rfl (ih _ (by omega) (c11) (i + 1) σ (Fr.rfl.trans (Fr.sub hF (by decide) (by decide) (by decide))) hR (by omega) hbo (by omega) hls hsn (fun e => hcp (by omega)) (fun e => hcl (by omega)) hzz (fun e a q => by
            by_cases z : i = 0
            · exfalso; omega
            · exact hp0 (by omega) (by omega) q) (fun e a q => by exfalso; omega) rfl)
      · refine tm_aload_n dX12_unbind_232 rfl 4 rfl ?_
        refine tm_iload dX12_unbind_233 0 rfl ?_
        refine tm_callV (M := m_X12_unbind) (pc := 235) (ix := 533) (M' := m_X12_comesLast) (As := [.int (iI v4)]) (rest := [.int (iI w)]) dX12_unbind_235 ok_X12_comesLast im_X12_comesLast se_X12_comesLast ml12_533 np_X12_comesLast rfl rfl (Nat.le_of_ble_eq_true rfl) (Nat.le_of_ble_eq_true rfl) rfl (f_X12_comesLast (d + 1) (σ := σ) (to := v4) hR hbo (by omega)) (fun r13 σ14 hp => ?_)
        obtain ⟨v15, rfl, f16, f17, f18, f19, f20, f21, f22⟩ := hp
        show Tm _ _ 238 b σ14 [(6, .int (iI v4)), (5, .int (iI i)), (3, .int (iI k)), (2, .int (iI w)), (0, .ref b), (1, .int (iI r))] [.int (iI v15), .int (iI w)] _
        have hED : EDv V m k (v4) := (ed_V hV1 (by omega) htd1 hu (by omega) (by omega)).mpr (by omega)
        have hCA := f21
        have hCU := f22
        have hfr := f17
        have c64 : σ14.2.1 64 = σ.2.1 64 := hfr.2.1 64 (by decide)
        have c3 : σ14.2.1 3 = σ.2.1 3 := hfr.2.1 3 (by decide)
        have c4 : σ14.2.1 4 = σ.2.1 4 := hfr.2.1 4 (by decide)
        have c46 : σ14.2.1 46 = σ.2.1 46 := hfr.2.1 46 (by decide)
        clear f21 f22
        refine tm_if_eq (tgt := 245) dX12_unbind_238 (by decide) ⟨by omega, by omega⟩ (fun h23 => ?_) (fun h23 => ?_)
        · refine tm_iconst dX12_unbind_245 ?_
          refine tm_iorZ (x := w) (y := 0) dX12_unbind_246 (by omega) (by omega) (fun c24 g25 => ?_)
          refine tm_istore_n (L' := [(2, .int (iI c24)), (6, .int (iI v4)), (5, .int (iI i)), (3, .int (iI k)), (0, .ref b), (1, .int (iI r))]) dX12_unbind_247 rfl (by decide) rfl ?_
          refine tm_iinc (q0 := 2) (L' := [(5, .int (iI (i + 1))), (2, .int (iI c24)), (6, .int (iI v4)), (3, .int (iI k)), (0, .ref b), (1, .int (iI r))]) dX12_unbind_248 rfl (by decide) rfl ?_
          refine tm_goto (tgt := 209) dX12_unbind_251 (by decide) ?_
          exact tm_sub [0, 3, 1, 4, 5] rfl (ih _ (by omega) (c24) (i + 1) σ14 ((Fr.rfl.trans (Fr.sub hF (by decide) (by decide) (by decide))).trans (Fr.sub f17 (by decide) (by decide) (by decide))) f18 (by omega) (by assumption) (by omega) (hls.go hCA c64 hnu1 hbo (hrk.s (by omega) (by omega) (fun z => z) hED) (fun u a b z => hsn u a b z _ hED)) (fun u a b z t e => hsn u a b ((now_fr hfr (by decide)).mp z) t e) (fun e u a b q => by
            have hU := hCU (by omega)
            obtain ⟨e5, e7⟩ := hU.same hCA
            rw [c64, lta_of e5 c64] at q
            exact (now_fr hfr (by decide)).mpr (hcp (by omega) u a b q)) (fun e => by
            have hU := hCU (by omega)
            obtain ⟨e5, e7⟩ := hU.same hCA
            exact (hcl (by omega)).same e5 e7 c64 c3 c4 c46) (hzz.go hCA c64 hnu1 hbo) (fun e a q => by
            have hU := hCU (by omega)
            obtain ⟨e5, e7⟩ := hU.same hCA
            rw [c3] at q
            by_cases z : i = 0
            · have e9 : v4 = k + 1 := by omega
              have e8 := hU.cl hCA c64 hnu1 hbo (hcp (by omega))
              rw [e9] at e8
              exact e8
            · exact (hp0 (by omega) (by omega) q).same e5 e7 c64) (fun e a q => by
            have hU := hCU (by omega)
            obtain ⟨e5, e7⟩ := hU.same hCA
            rw [c3] at q
            have e9 : v4 = σ.2.1 46 (σ.2.1 4 (220 * r + k)) := by omega
            have e8 := hU.cl hCA c64 hnu1 hbo (hcp (by omega))
            rw [c46, c4, ← e9]
            exact e8) rfl)
        · refine tm_iconst dX12_unbind_241 ?_
          refine tm_goto (tgt := 246) dX12_unbind_242 (by decide) ?_
          refine tm_iorZ (x := w) (y := 1) dX12_unbind_246 (by omega) (by omega) (fun c26 g27 => ?_)
          refine tm_istore_n (L' := [(2, .int (iI c26)), (6, .int (iI v4)), (5, .int (iI i)), (3, .int (iI k)), (0, .ref b), (1, .int (iI r))]) dX12_unbind_247 rfl (by decide) rfl ?_
          refine tm_iinc (q0 := 2) (L' := [(5, .int (iI (i + 1))), (2, .int (iI c26)), (6, .int (iI v4)), (3, .int (iI k)), (0, .ref b), (1, .int (iI r))]) dX12_unbind_248 rfl (by decide) rfl ?_
          refine tm_goto (tgt := 209) dX12_unbind_251 (by decide) ?_
          exact tm_sub [0, 3, 1, 4, 5] rfl (ih _ (by omega) (c26) (i + 1) σ14 ((Fr.rfl.trans (Fr.sub hF (by decide) (by decide) (by decide))).trans (Fr.sub f17 (by decide) (by decide) (by decide))) f18 (by omega) (by assumption) (by omega) (hls.go hCA c64 hnu1 hbo (hrk.s (by omega) (by omega) (fun z => z) hED) (fun u a b z => hsn u a b z _ hED)) (fun u a b z t e => hsn u a b ((now_fr hfr (by decide)).mp z) t e) (fun e u a b q => by
            have hU := hCU (by omega)
            obtain ⟨e5, e7⟩ := hU.same hCA
            rw [c64, lta_of e5 c64] at q
            exact (now_fr hfr (by decide)).mpr (hcp (by omega) u a b q)) (fun e => by
            have hU := hCU (by omega)
            obtain ⟨e5, e7⟩ := hU.same hCA
            exact (hcl (by omega)).same e5 e7 c64 c3 c4 c46) (hzz.go hCA c64 hnu1 hbo) (fun e a q => by
            have hU := hCU (by omega)
            obtain ⟨e5, e7⟩ := hU.same hCA
            rw [c3] at q
            by_cases z : i = 0
            · have e9 : v4 = k + 1 := by omega
              have e8 := hU.cl hCA c64 hnu1 hbo (hcp (by omega))
              rw [e9] at e8
              exact e8
            · exact (hp0 (by omega) (by omega) q).same e5 e7 c64) (fun e a q => by
            have hU := hCU (by omega)
            obtain ⟨e5, e7⟩ := hU.same hCA
            rw [c3] at q
            have e9 : v4 = σ.2.1 46 (σ.2.1 4 (220 * r + k)) := by omega
            have e8 := hU.cl hCA c64 hnu1 hbo (hcp (by omega))
            rw [c46, c4, ← e9]
            exact e8) rfl)
set_option maxHeartbeats 1000000 in
set_option maxRecDepth 20000 in
theorem f_unb6 (d : Nat) {b : Nat} {σ0 : MS} {r : Int} {k : Int} {w : Int} {post : Option Value → MS → Prop} (hR0 : RG σ0) (hk : 0 ≤ k ∧ k ≤ 219) (hx_161 : ∀ (g : Int) (σ : MS) , (Fr [] [66] [] σ0 σ) → (RG σ) → (∀ u, 0 ≤ u → u < 192 → σ.2.1 66 u = σ0.2.1 65 (192 * k + u)) → Tm (d + 1) m_X12_unbind 161 b σ [(4, .int (iI g)), (3, .int (iI k)), (2, .int (iI w)), (0, .ref b), (1, .int (iI r))] [] post) : ∀ (n : Nat) (g : Int) (σ : MS) , (Fr [] [66] [] σ0 σ) → (RG σ) → (0 ≤ g ∧ g ≤ 192) → (∀ u, 0 ≤ u → u < g → σ.2.1 66 u = σ0.2.1 65 (192 * k + u)) → (192 - g).toNat = n → Tm (d + 1) m_X12_unbind 127 b σ [(4, .int (iI g)), (3, .int (iI k)), (2, .int (iI w)), (0, .ref b), (1, .int (iI r))] [] post := by
  intro n
  induction n using Nat.strongRecOn with
  | _ n ih =>
    intro g σ hF hR h0 hj hm
    refine tm_iload dX12_unbind_127 0 rfl ?_
    refine tm_sipush dX12_unbind_129 (by decide) ?_
    refine tm_icmp_ge (tgt := 161) dX12_unbind_132 (by decide) ⟨by omega, by omega⟩ ⟨by decide, by decide⟩ (fun h1 => ?_) (fun h1 => ?_)
    · exact tm_sub [0, 1, 2, 3, 4] rfl (hx_161 (g) σ (Fr.rfl.trans (Fr.sub hF (by decide) (by decide) (by decide))) hR (fun u a b => hj u a (by omega)))
    · refine tm_aload_n dX12_unbind_135 rfl 3 rfl ?_
      refine tm_get (k := 66) (v := .ref (b + 1 + 43)) lay_12 dX12_unbind_136 (by decide) fl12_149 rfl ?_
      refine tm_iload dX12_unbind_139 0 rfl ?_
      refine tm_aload_n dX12_unbind_141 rfl 3 rfl ?_
      refine tm_get (k := 65) (v := .ref (b + 1 + 42)) lay_12 dX12_unbind_142 (by decide) fl12_146 rfl ?_
      refine tm_sipush dX12_unbind_145 (by decide) ?_
      refine tm_iload_n dX12_unbind_148 rfl 1 rfl ?_
      refine tm_imul dX12_unbind_149 ?_
      refine tm_iload dX12_unbind_150 0 rfl ?_
      refine tm_iadd dX12_unbind_152 ?_
      refine tm_iald (z := (192 * k) + g) (v := σ0.2.1 65 ((192 * k) + g)) dX12_unbind_153 (show mT[42]? = some (65, 0, 42432) from rfl) (by omega) (by omega) (by decide) (ra_F hF (by decide) (rfl)) ?_
      have g2 := RG.a hR0 65 ((192 * k) + g)
      refine tm_iast (z := g) (v := σ0.2.1 65 ((192 * k) + g)) dX12_unbind_154 (show mT[43]? = some (66, 0, 192) from rfl) (by omega) (by omega) (by decide) ?_
      refine tm_iinc (q0 := 0) (L' := [(4, .int (iI (g + 1))), (3, .int (iI k)), (2, .int (iI w)), (0, .ref b), (1, .int (iI r))]) dX12_unbind_155 rfl (by decide) rfl ?_
      refine tm_goto (tgt := 127) dX12_unbind_158 (by decide) ?_
      exact tm_sub [0, 1, 2, 3, 4] rfl (ih _ (by omega) (g + 1) (sA 66 (g) (σ0.2.1 65 ((192 * k) + g)) σ) ((Fr.rfl.trans (Fr.sub hF (by decide) (by decide) (by decide))).A (by decide)) (hR.A (by omega)) (by omega) (fun u a b => by
          by_cases z : u = g
          · subst z; exact ra_eq
          · exact ra_ne z (hj u a (by omega))) rfl)
set_option maxHeartbeats 1000000 in
set_option maxRecDepth 20000 in
theorem f_unb5 (d : Nat) {b : Nat} {σ0 : MS} {r : Int} {F : Int} {m : Int} {C0 : Int} {V : Int → It} {BG : Int → Prop} {nb : Int → Int} {post : Option Value → MS → Prop} (hr : 0 ≤ r ∧ r < 6) (hR0 : RG σ0) (hit : ITM σ0) (hok : OKS σ0 F r) (htg : TGT σ0 r) (hnu : NUM σ0) (hm : m = σ0.2.1 9 r) (htd : TGD σ0 r) (hV : V = rV σ0 r) (hu : UNQ V m) (hnb : nb = σ0.2.1 64) (hx_260 : ∀ (w : Int) (k : Int) (σ : MS) , (Fr [] [47, 65, 66] [] σ0 σ) → (RG σ) → (w = 0 ∨ w = 1) → (BO 47 σ) → (193 * (cz (σ.2.1 47) 221 : Int) + (cr (σ.2.1 47) (σ.2.1 65) 221 : Int) + w ≤ C0) → (LSX σ V m nb BG) → (Wz w (CLZ σ V r m)) → (Z0 σ BG) → Tm (d + 3) m_X12_unbind 260 b σ [(3, .int (iI k)), (2, .int (iI w)), (0, .ref b), (1, .int (iI r))] [] post) : ∀ (n : Nat) (w : Int) (k : Int) (σ : MS) , (Fr [] [47, 65, 66] [] σ0 σ) → (RG σ) → ((w = 0 ∨ w = 1) ∧ 0 ≤ k ∧ k ≤ m) → (BO 47 σ) → (193 * (cz (σ.2.1 47) 221 : Int) + (cr (σ.2.1 47) (σ.2.1 65) 221 : Int) + w ≤ C0) → (LSX σ V m nb BG) → (Wz w (CLZ σ V r k)) → (Z0 σ BG) → (m - k).toNat = n → Tm (d + 3) m_X12_unbind 102 b σ [(3, .int (iI k)), (2, .int (iI w)), (0, .ref b), (1, .int (iI r))] [] post := by
  intro n
  induction n using Nat.strongRecOn with
  | _ n ih =>
    intro w k σ hF hR h0 hbo hcn hls hcl hzz hm
    have hit1 := hit.fr hF (by decide)
    have hok1 := hok.fr hF (by decide)
    have htg1 := htg.fr hF (by decide)
    have hnu1 := hnu.fr hF (by decide)
    have q1 := hit r (by omega) (by omega)
    have q9 : σ.2.1 9 r = σ0.2.1 9 r := by rw [hF.2.1 9 (by decide)]
    have hV1 : V = rV σ r := hV.trans (rv_fr hF (by decide)).symm
    have htd1 := htd.fr hF (by decide)
    have hnb1 : nb = σ.2.1 64 := hnb.trans (hF.2.1 64 (by decide)).symm
    have e64 : σ.2.1 64 = σ0.2.1 64 := hF.2.1 64 (by decide)
    have e3 : σ.2.1 3 = σ0.2.1 3 := hF.2.1 3 (by decide)
    have e4 : σ.2.1 4 = σ0.2.1 4 := hF.2.1 4 (by decide)
    have e46 : σ.2.1 46 = σ0.2.1 46 := hF.2.1 46 (by decide)
    have hV9 : V = rV σ0 r := hV
    refine tm_iload_n dX12_unbind_102 rfl 0 rfl ?_
    refine tm_aload_n dX12_unbind_103 rfl 2 rfl ?_
    refine tm_get (k := 9) (v := .ref (b + 1 + 7)) lay_12 dX12_unbind_104 (by decide) fl12_32 rfl ?_
    refine tm_iload_n dX12_unbind_107 rfl 3 rfl ?_
    refine tm_iald (z := r) (v := σ0.2.1 9 r) dX12_unbind_108 (show mT[7]? = some (9, 0, 13) from rfl) (by omega) (by omega) (by decide) (ra_F hF (by decide) (rfl)) ?_
    have g1 := RG.a hR0 9 (r)
    refine tm_icmp_ge (tgt := 260) dX12_unbind_109 (by decide) ⟨by omega, by omega⟩ ⟨by omega, by omega⟩ (fun h2 => ?_) (fun h2 => ?_)
    · exact tm_sub [0, 1, 2, 3] rfl (hx_260 (w) (k) σ (Fr.rfl.trans (Fr.sub hF (by decide) (by decide) (by decide))) hR (by omega) hbo hcn hls (fun e j a b => hcl e j a (by omega)) hzz)
    · refine tm_aload_n dX12_unbind_112 rfl 2 rfl ?_
      refine tm_get (k := 47) (v := .ref (b + 1 + 25)) lay_12 dX12_unbind_113 (by decide) fl12_91 rfl ?_
      refine tm_iload_n dX12_unbind_116 rfl 0 rfl ?_
      refine tm_zald (z := k) (v := σ.2.1 47 k) dX12_unbind_117 (show mT[25]? = some (47, 2, 221) from rfl) (by omega) (by omega) (by decide) (rfl) ?_
      have g3 := RG.a hR 47 (k)
      have := hbo (k)
      refine tm_if_ne (tgt := 124) dX12_unbind_118 (by decide) ⟨by omega, by omega⟩ (fun h4 => ?_) (fun h4 => ?_)
      · refine tm_iconst dX12_unbind_124 ?_
        refine tm_istore (L' := [(4, .int (iI 0)), (3, .int (iI k)), (2, .int (iI w)), (0, .ref b), (1, .int (iI r))]) dX12_unbind_125 (by decide) rfl ?_
        refine tm_sub [0, 1, 2, 3, 4] rfl (f_unb6 (d + 2) (σ0 := σ) (r := r) (k := k) (w := w) hR (by omega) (fun g10 σ11 F7 R8 f9 => ?_) _ (0) σ Fr.rfl hR (by omega) (fun u a b => by omega) rfl)
        show Tm _ _ 161 b σ11 [(4, .int (iI g10)), (3, .int (iI k)), (2, .int (iI w)), (0, .ref b), (1, .int (iI r))] [] _
        have h66 := f9
        have h64n : σ11.2.1 64 = σ.2.1 64 := F7.2.1 64 (by decide)
        refine tm_aload_n dX12_unbind_161 rfl 3 rfl ?_
        refine tm_iload_n dX12_unbind_162 rfl 4 rfl ?_
        refine tm_iload_n dX12_unbind_163 rfl 1 rfl ?_
        refine tm_callV (M := m_X12_unbind) (pc := 164) (ix := 203) (M' := m_X12_at) (As := [.int (iI r), .int (iI k)]) (rest := []) dX12_unbind_164 ok_X12_at im_X12_at se_X12_at ml12_203 np_X12_at rfl rfl (Nat.le_of_ble_eq_true rfl) (Nat.le_of_ble_eq_true rfl) rfl (c_X12_at (d + 1) (σ := σ11) (x := r) (k := k) ) (fun r12 σ13 hp => ?_)
        obtain ⟨v14, rfl, rfl, f15⟩ := hp
        subst f15
        show Tm _ _ 167 b σ11 [(4, .int (iI g10)), (3, .int (iI k)), (2, .int (iI w)), (0, .ref b), (1, .int (iI r))] [.int (iI (220 * r + k))] _
        refine tm_istore (L' := [(4, .int (iI (220 * r + k))), (3, .int (iI k)), (2, .int (iI w)), (0, .ref b), (1, .int (iI r))]) dX12_unbind_167 (by decide) rfl ?_
        refine tm_aload_n dX12_unbind_169 rfl 3 rfl ?_
        refine tm_get (k := 3) (v := .ref (b + 1 + 1)) lay_12 dX12_unbind_170 (by decide) fl12_13 rfl ?_
        refine tm_iload dX12_unbind_173 0 rfl ?_
        refine tm_iald (z := 220 * r + k) (v := σ0.2.1 3 (220 * r + k)) dX12_unbind_175 (show mT[1]? = some (3, 0, 2860) from rfl) (by omega) (by omega) (by decide) (ra_F F7 (by decide) (ra_F hF (by decide) (rfl))) ?_
        have g16 := RG.a hR0 3 (220 * r + k)
        refine tm_callS (M := m_X12_unbind) (pc := 176) (ix := 192) (M' := m_X12_writes) (As := [.int (iI (σ0.2.1 3 (220 * r + k)))]) (rest := []) dX12_unbind_176 ok_X12_writes stt_X12_writes ml12_192 np_X12_writes rfl (Nat.le_of_ble_eq_true rfl) (Nat.le_of_ble_eq_true rfl) rfl (c_X12_writes (d + 1) (σ := σ11) (x := σ0.2.1 3 (220 * r + k)) (by omega)) (fun r17 σ18 hp => ?_)
        obtain ⟨v19, rfl, rfl, f20, f21⟩ := hp
        show Tm _ _ 179 b σ11 [(4, .int (iI (220 * r + k))), (3, .int (iI k)), (2, .int (iI w)), (0, .ref b), (1, .int (iI r))] [.int (iI v19)] _
        refine tm_if_eq (tgt := 206) dX12_unbind_179 (by decide) ⟨by omega, by omega⟩ (fun h22 => ?_) (fun h22 => ?_)
        · have e3k : σ.2.1 3 (220 * r + k) = σ0.2.1 3 (220 * r + k) := congrFun e3 _
          have c5 : σ11.2.1 65 = σ.2.1 65 := ((show Fr [] [66] [] σ σ11 from (Fr.rfl.trans (Fr.sub F7 (by decide) (by decide) (by decide))))).2.1 65 (by decide)
          have c7 : σ11.2.1 47 = σ.2.1 47 := ((show Fr [] [66] [] σ σ11 from (Fr.rfl.trans (Fr.sub F7 (by decide) (by decide) (by decide))))).2.1 47 (by decide)
          have c64 : σ11.2.1 64 = σ.2.1 64 := ((show Fr [] [66] [] σ σ11 from (Fr.rfl.trans (Fr.sub F7 (by decide) (by decide) (by decide))))).2.1 64 (by decide)
          have hNW : ∀ u, 0 ≤ u → u < 192 → (NWA σ11 u ↔ lsT V (σ.2.1 64) (LTA σ k) k u) := (fun u a b => now_no h66 h64n hV1 (by omega) hnu1 (by omega) ⟨a, b⟩)
          refine tm_iconst dX12_unbind_206 ?_
          refine tm_istore (L' := [(5, .int (iI 0)), (4, .int (iI (220 * r + k))), (3, .int (iI k)), (2, .int (iI w)), (0, .ref b), (1, .int (iI r))]) dX12_unbind_207 (by decide) rfl ?_
          refine tm_sub [0, 2, 3, 4, 5] rfl (f_unb7 (d) (σ0 := σ11) (r := r) (k := k) (F := F) (m := m) (C0 := C0) (V := V) (BG := BG) (nb := nb) hr R8 (hit.fr (show Fr [] [47, 65, 66] [] σ0 σ11 from ((Fr.rfl.trans (Fr.sub hF (by decide) (by decide) (by decide))).trans (Fr.sub F7 (by decide) (by decide) (by decide)))) (by decide)) (hok.fr (show Fr [] [47, 65, 66] [] σ0 σ11 from ((Fr.rfl.trans (Fr.sub hF (by decide) (by decide) (by decide))).trans (Fr.sub F7 (by decide) (by decide) (by decide)))) (by decide)) (htg.fr (show Fr [] [47, 65, 66] [] σ0 σ11 from ((Fr.rfl.trans (Fr.sub hF (by decide) (by decide) (by decide))).trans (Fr.sub F7 (by decide) (by decide) (by decide)))) (by decide)) (hnu.fr (show Fr [] [47, 65, 66] [] σ0 σ11 from ((Fr.rfl.trans (Fr.sub hF (by decide) (by decide) (by decide))).trans (Fr.sub F7 (by decide) (by decide) (by decide)))) (by decide)) (by rw [((show Fr [] [47, 65, 66] [] σ0 σ11 from ((Fr.rfl.trans (Fr.sub hF (by decide) (by decide) (by decide))).trans (Fr.sub F7 (by decide) (by decide) (by decide))))).2.1 9 (by decide)]; omega) (htd.fr (show Fr [] [47, 65, 66] [] σ0 σ11 from ((Fr.rfl.trans (Fr.sub hF (by decide) (by decide) (by decide))).trans (Fr.sub F7 (by decide) (by decide) (by decide)))) (by decide)) (hV.trans (rv_fr (show Fr [] [47, 65, 66] [] σ0 σ11 from ((Fr.rfl.trans (Fr.sub hF (by decide) (by decide) (by decide))).trans (Fr.sub F7 (by decide) (by decide) (by decide)))) (by decide)).symm) hu (hnb.trans (((show Fr [] [47, 65, 66] [] σ0 σ11 from ((Fr.rfl.trans (Fr.sub hF (by decide) (by decide) (by decide))).trans (Fr.sub F7 (by decide) (by decide) (by decide))))).2.1 64 (by decide)).symm) (by omega) (hls k (by omega) (by omega) (by omega)).1 (fun w34 i35 σ36 F26 R27 f28 f29 f30 f31 f32 f33 => ?_) _ (w) (0) σ11 Fr.rfl R8 (by omega) (hbo.fr (show Fr [] [66] [] σ σ11 from (Fr.rfl.trans (Fr.sub F7 (by decide) (by decide) (by decide)))) (by decide)) (by rw [((show Fr [] [66] [] σ σ11 from (Fr.rfl.trans (Fr.sub F7 (by decide) (by decide) (by decide))))).2.1 47 (by decide), ((show Fr [] [66] [] σ σ11 from (Fr.rfl.trans (Fr.sub F7 (by decide) (by decide) (by decide))))).2.1 65 (by decide)]; omega) (hls.same c5 c7 c64) (fun u a b z t e => lsV.s (by omega) (by omega) (hls k (by omega) (by omega) (by omega)).1 e (by rw [hnb1]; exact ((hNW u a b).mp z).mono (fun y => by rw [← hnb1]; exact (hls k (by omega) (by omega) (by omega)).2 u a b y))) (fun _ u a b q => by rw [c64, lta_of c5 c64] at q; exact (hNW u a b).mpr q) (fun e => (hcl e).same c5 c7 c64 (((show Fr [] [66] [] σ σ11 from (Fr.rfl.trans (Fr.sub F7 (by decide) (by decide) (by decide))))).2.1 3 (by decide)) (((show Fr [] [66] [] σ σ11 from (Fr.rfl.trans (Fr.sub F7 (by decide) (by decide) (by decide))))).2.1 4 (by decide)) (((show Fr [] [66] [] σ σ11 from (Fr.rfl.trans (Fr.sub F7 (by decide) (by decide) (by decide))))).2.1 46 (by decide))) (hzz.same c5 c7 c64) (fun _ a => by omega) (fun _ a => by omega) rfl)
          show Tm _ _ 254 b σ36 [(5, .int (iI i35)), (3, .int (iI k)), (2, .int (iI w34)), (0, .ref b), (1, .int (iI r))] [] _
          refine tm_iinc (q0 := 1) (L' := [(3, .int (iI (k + 1))), (5, .int (iI i35)), (2, .int (iI w34)), (0, .ref b), (1, .int (iI r))]) dX12_unbind_254 rfl (by decide) rfl ?_
          refine tm_goto (tgt := 102) dX12_unbind_257 (by decide) ?_
          exact tm_sub [0, 2, 3, 4] rfl (ih _ (by omega) (w34) (k + 1) σ36 (((Fr.rfl.trans (Fr.sub hF (by decide) (by decide) (by decide))).trans (Fr.sub F7 (by decide) (by decide) (by decide))).trans (Fr.sub F26 (by decide) (by decide) (by decide))) R27 (by omega) f29 (by omega) f31 f32 f33 rfl)
        · have q6 := hok.dest (k := k) (by omega) (by omega) (by omega)
          refine tm_aload_n dX12_unbind_182 rfl 3 rfl ?_
          refine tm_get (k := 66) (v := .ref (b + 1 + 43)) lay_12 dX12_unbind_183 (by decide) fl12_149 rfl ?_
          refine tm_aload_n dX12_unbind_186 rfl 3 rfl ?_
          refine tm_get (k := 64) (v := .ref (b + 1 + 41)) lay_12 dX12_unbind_187 (by decide) fl12_143 rfl ?_
          refine tm_aload_n dX12_unbind_190 rfl 3 rfl ?_
          refine tm_get (k := 4) (v := .ref (b + 1 + 2)) lay_12 dX12_unbind_191 (by decide) fl12_17 rfl ?_
          refine tm_iload dX12_unbind_194 0 rfl ?_
          refine tm_iald (z := 220 * r + k) (v := σ0.2.1 4 (220 * r + k)) dX12_unbind_196 (show mT[2]? = some (4, 0, 2860) from rfl) (by omega) (by omega) (by decide) (ra_F F7 (by decide) (ra_F hF (by decide) (rfl))) ?_
          have g37 := RG.a hR0 4 (220 * r + k)
          refine tm_iald (z := σ0.2.1 4 (220 * r + k)) (v := σ0.2.1 64 (σ0.2.1 4 (220 * r + k))) dX12_unbind_197 (show mT[41]? = some (64, 0, 192) from rfl) (by omega) (by omega) (by decide) (ra_F F7 (by decide) (ra_F hF (by decide) (rfl))) ?_
          have g38 := RG.a hR0 64 (σ0.2.1 4 (220 * r + k))
          have := hnu (σ0.2.1 4 (220 * r + k)) (by omega) (by omega)
          refine tm_aload_n dX12_unbind_198 rfl 3 rfl ?_
          refine tm_get (k := 4) (v := .ref (b + 1 + 2)) lay_12 dX12_unbind_199 (by decide) fl12_17 rfl ?_
          refine tm_iload dX12_unbind_202 0 rfl ?_
          refine tm_iald (z := 220 * r + k) (v := σ0.2.1 4 (220 * r + k)) dX12_unbind_204 (show mT[2]? = some (4, 0, 2860) from rfl) (by omega) (by omega) (by decide) (ra_F F7 (by decide) (ra_F hF (by decide) (rfl))) ?_
          have g39 := RG.a hR0 4 (220 * r + k)
          refine tm_iast (z := σ0.2.1 64 (σ0.2.1 4 (220 * r + k))) (v := σ0.2.1 4 (220 * r + k)) dX12_unbind_205 (show mT[43]? = some (66, 0, 192) from rfl) (by omega) (by omega) (by decide) ?_
          have e3k : σ.2.1 3 (220 * r + k) = σ0.2.1 3 (220 * r + k) := congrFun e3 _
          have c5 : (sA 66 (σ0.2.1 64 (σ0.2.1 4 (220 * r + k))) (σ0.2.1 4 (220 * r + k)) σ11).2.1 65 = σ.2.1 65 := ((show Fr [] [66] [] σ (sA 66 (σ0.2.1 64 (σ0.2.1 4 (220 * r + k))) (σ0.2.1 4 (220 * r + k)) σ11) from ((Fr.rfl.trans (Fr.sub F7 (by decide) (by decide) (by decide))).A (by decide)))).2.1 65 (by decide)
          have c7 : (sA 66 (σ0.2.1 64 (σ0.2.1 4 (220 * r + k))) (σ0.2.1 4 (220 * r + k)) σ11).2.1 47 = σ.2.1 47 := ((show Fr [] [66] [] σ (sA 66 (σ0.2.1 64 (σ0.2.1 4 (220 * r + k))) (σ0.2.1 4 (220 * r + k)) σ11) from ((Fr.rfl.trans (Fr.sub F7 (by decide) (by decide) (by decide))).A (by decide)))).2.1 47 (by decide)
          have c64 : (sA 66 (σ0.2.1 64 (σ0.2.1 4 (220 * r + k))) (σ0.2.1 4 (220 * r + k)) σ11).2.1 64 = σ.2.1 64 := ((show Fr [] [66] [] σ (sA 66 (σ0.2.1 64 (σ0.2.1 4 (220 * r + k))) (σ0.2.1 4 (220 * r + k)) σ11) from ((Fr.rfl.trans (Fr.sub F7 (by decide) (by decide) (by decide))).A (by decide)))).2.1 64 (by decide)
          have hNW : ∀ u, 0 ≤ u → u < 192 → (NWA (sA 66 (σ0.2.1 64 (σ0.2.1 4 (220 * r + k))) (σ0.2.1 4 (220 * r + k)) σ11) u ↔ lsT V (σ.2.1 64) (LTA σ k) k u) := (fun u a b => by rw [← e64, ← e4]; exact now_wr h66 h64n hV1 (by omega) hnu1 (by omega) ⟨a, b⟩)
          refine tm_iconst dX12_unbind_206 ?_
          refine tm_istore (L' := [(5, .int (iI 0)), (4, .int (iI (220 * r + k))), (3, .int (iI k)), (2, .int (iI w)), (0, .ref b), (1, .int (iI r))]) dX12_unbind_207 (by decide) rfl ?_
          refine tm_sub [0, 2, 3, 4, 5] rfl (f_unb7 (d) (σ0 := (sA 66 (σ0.2.1 64 (σ0.2.1 4 (220 * r + k))) (σ0.2.1 4 (220 * r + k)) σ11)) (r := r) (k := k) (F := F) (m := m) (C0 := C0) (V := V) (BG := BG) (nb := nb) hr (R8.A (by omega)) (hit.fr (show Fr [] [47, 65, 66] [] σ0 (sA 66 (σ0.2.1 64 (σ0.2.1 4 (220 * r + k))) (σ0.2.1 4 (220 * r + k)) σ11) from (((Fr.rfl.trans (Fr.sub hF (by decide) (by decide) (by decide))).trans (Fr.sub F7 (by decide) (by decide) (by decide))).A (by decide))) (by decide)) (hok.fr (show Fr [] [47, 65, 66] [] σ0 (sA 66 (σ0.2.1 64 (σ0.2.1 4 (220 * r + k))) (σ0.2.1 4 (220 * r + k)) σ11) from (((Fr.rfl.trans (Fr.sub hF (by decide) (by decide) (by decide))).trans (Fr.sub F7 (by decide) (by decide) (by decide))).A (by decide))) (by decide)) (htg.fr (show Fr [] [47, 65, 66] [] σ0 (sA 66 (σ0.2.1 64 (σ0.2.1 4 (220 * r + k))) (σ0.2.1 4 (220 * r + k)) σ11) from (((Fr.rfl.trans (Fr.sub hF (by decide) (by decide) (by decide))).trans (Fr.sub F7 (by decide) (by decide) (by decide))).A (by decide))) (by decide)) (hnu.fr (show Fr [] [47, 65, 66] [] σ0 (sA 66 (σ0.2.1 64 (σ0.2.1 4 (220 * r + k))) (σ0.2.1 4 (220 * r + k)) σ11) from (((Fr.rfl.trans (Fr.sub hF (by decide) (by decide) (by decide))).trans (Fr.sub F7 (by decide) (by decide) (by decide))).A (by decide))) (by decide)) (by rw [((show Fr [] [47, 65, 66] [] σ0 (sA 66 (σ0.2.1 64 (σ0.2.1 4 (220 * r + k))) (σ0.2.1 4 (220 * r + k)) σ11) from (((Fr.rfl.trans (Fr.sub hF (by decide) (by decide) (by decide))).trans (Fr.sub F7 (by decide) (by decide) (by decide))).A (by decide)))).2.1 9 (by decide)]; omega) (htd.fr (show Fr [] [47, 65, 66] [] σ0 (sA 66 (σ0.2.1 64 (σ0.2.1 4 (220 * r + k))) (σ0.2.1 4 (220 * r + k)) σ11) from (((Fr.rfl.trans (Fr.sub hF (by decide) (by decide) (by decide))).trans (Fr.sub F7 (by decide) (by decide) (by decide))).A (by decide))) (by decide)) (hV.trans (rv_fr (show Fr [] [47, 65, 66] [] σ0 (sA 66 (σ0.2.1 64 (σ0.2.1 4 (220 * r + k))) (σ0.2.1 4 (220 * r + k)) σ11) from (((Fr.rfl.trans (Fr.sub hF (by decide) (by decide) (by decide))).trans (Fr.sub F7 (by decide) (by decide) (by decide))).A (by decide))) (by decide)).symm) hu (hnb.trans (((show Fr [] [47, 65, 66] [] σ0 (sA 66 (σ0.2.1 64 (σ0.2.1 4 (220 * r + k))) (σ0.2.1 4 (220 * r + k)) σ11) from (((Fr.rfl.trans (Fr.sub hF (by decide) (by decide) (by decide))).trans (Fr.sub F7 (by decide) (by decide) (by decide))).A (by decide)))).2.1 64 (by decide)).symm) (by omega) (hls k (by omega) (by omega) (by omega)).1 (fun w51 i52 σ53 F43 R44 f45 f46 f47 f48 f49 f50 => ?_) _ (w) (0) (sA 66 (σ0.2.1 64 (σ0.2.1 4 (220 * r + k))) (σ0.2.1 4 (220 * r + k)) σ11) Fr.rfl (R8.A (by omega)) (by omega) (hbo.fr (show Fr [] [66] [] σ (sA 66 (σ0.2.1 64 (σ0.2.1 4 (220 * r + k))) (σ0.2.1 4 (220 * r + k)) σ11) from ((Fr.rfl.trans (Fr.sub F7 (by decide) (by decide) (by decide))).A (by decide))) (by decide)) (by rw [((show Fr [] [66] [] σ (sA 66 (σ0.2.1 64 (σ0.2.1 4 (220 * r + k))) (σ0.2.1 4 (220 * r + k)) σ11) from ((Fr.rfl.trans (Fr.sub F7 (by decide) (by decide) (by decide))).A (by decide)))).2.1 47 (by decide), ((show Fr [] [66] [] σ (sA 66 (σ0.2.1 64 (σ0.2.1 4 (220 * r + k))) (σ0.2.1 4 (220 * r + k)) σ11) from ((Fr.rfl.trans (Fr.sub F7 (by decide) (by decide) (by decide))).A (by decide)))).2.1 65 (by decide)]; omega) (hls.same c5 c7 c64) (fun u a b z t e => lsV.s (by omega) (by omega) (hls k (by omega) (by omega) (by omega)).1 e (by rw [hnb1]; exact ((hNW u a b).mp z).mono (fun y => by rw [← hnb1]; exact (hls k (by omega) (by omega) (by omega)).2 u a b y))) (fun _ u a b q => by rw [c64, lta_of c5 c64] at q; exact (hNW u a b).mpr q) (fun e => (hcl e).same c5 c7 c64 (((show Fr [] [66] [] σ (sA 66 (σ0.2.1 64 (σ0.2.1 4 (220 * r + k))) (σ0.2.1 4 (220 * r + k)) σ11) from ((Fr.rfl.trans (Fr.sub F7 (by decide) (by decide) (by decide))).A (by decide)))).2.1 3 (by decide)) (((show Fr [] [66] [] σ (sA 66 (σ0.2.1 64 (σ0.2.1 4 (220 * r + k))) (σ0.2.1 4 (220 * r + k)) σ11) from ((Fr.rfl.trans (Fr.sub F7 (by decide) (by decide) (by decide))).A (by decide)))).2.1 4 (by decide)) (((show Fr [] [66] [] σ (sA 66 (σ0.2.1 64 (σ0.2.1 4 (220 * r + k))) (σ0.2.1 4 (220 * r + k)) σ11) from ((Fr.rfl.trans (Fr.sub F7 (by decide) (by decide) (by decide))).A (by decide)))).2.1 46 (by decide))) (hzz.same c5 c7 c64) (fun _ a => by omega) (fun _ a => by omega) rfl)
          show Tm _ _ 254 b σ53 [(5, .int (iI i52)), (3, .int (iI k)), (2, .int (iI w51)), (0, .ref b), (1, .int (iI r))] [] _
          refine tm_iinc (q0 := 1) (L' := [(3, .int (iI (k + 1))), (5, .int (iI i52)), (2, .int (iI w51)), (0, .ref b), (1, .int (iI r))]) dX12_unbind_254 rfl (by decide) rfl ?_
          refine tm_goto (tgt := 102) dX12_unbind_257 (by decide) ?_
          exact tm_sub [0, 2, 3, 4] rfl (ih _ (by omega) (w51) (k + 1) σ53 ((((Fr.rfl.trans (Fr.sub hF (by decide) (by decide) (by decide))).trans (Fr.sub F7 (by decide) (by decide) (by decide))).A (by decide)).trans (Fr.sub F43 (by decide) (by decide) (by decide))) R44 (by omega) f46 (by omega) f48 f49 f50 rfl)
      · refine tm_goto (tgt := 254) dX12_unbind_121 (by decide) ?_
        refine tm_iinc (q0 := 0) (L' := [(3, .int (iI (k + 1))), (2, .int (iI w)), (0, .ref b), (1, .int (iI r))]) dX12_unbind_254 rfl (by decide) rfl ?_
        refine tm_goto (tgt := 102) dX12_unbind_257 (by decide) ?_
        exact tm_sub [0, 1, 2, 3] rfl (ih _ (by omega) (w) (k + 1) σ (Fr.rfl.trans (Fr.sub hF (by decide) (by decide) (by decide))) hR (by omega) hbo (by omega) hls (fun e j a b q => by
          by_cases z : j = k
          · subst z; omega
          · exact hcl e j a (by omega) q) hzz rfl)
set_option maxHeartbeats 1000000 in
set_option maxRecDepth 20000 in
theorem f_unb4 (d : Nat) {b : Nat} {σ0 : MS} {r : Int} {F : Int} {m : Int} {V : Int → It} {BG : Int → Prop} {nb : Int → Int} {post : Option Value → MS → Prop} (hr : 0 ≤ r ∧ r < 6) (hR0 : RG σ0) (hit : ITM σ0) (hok : OKS σ0 F r) (htg : TGT σ0 r) (hnu : NUM σ0) (hm : m = σ0.2.1 9 r) (htd : TGD σ0 r) (hV : V = rV σ0 r) (hu : UNQ V m) (hnb : nb = σ0.2.1 64) (hx_263 : ∀ (w : Int) (σ : MS) , (Fr [] [47, 65, 66] [] σ0 σ) → (RG σ) → (BO 47 σ) → (LSX σ V m nb BG) → (CLZ σ V r m) → (Z0 σ BG) → Tm (d + 3) m_X12_unbind 263 b σ [(2, .int (iI w)), (0, .ref b), (1, .int (iI r))] [] post) : ∀ (n : Nat) (w : Int) (σ : MS) , (Fr [] [47, 65, 66] [] σ0 σ) → (RG σ) → (w = 0 ∨ w = 1) → (BO 47 σ) → (LSX σ V m nb BG) → (Wz w (CLZ σ V r m)) → (Z0 σ BG) → (193 * (cz (σ.2.1 47) 221 : Int) + (cr (σ.2.1 47) (σ.2.1 65) 221 : Int) + w).toNat = n → Tm (d + 3) m_X12_unbind 94 b σ [(2, .int (iI w)), (0, .ref b), (1, .int (iI r))] [] post := by
  intro n
  induction n using Nat.strongRecOn with
  | _ n ih =>
    intro w σ hF hR h0 hbo hls hcl hzz hm
    have hit1 := hit.fr hF (by decide)
    have hok1 := hok.fr hF (by decide)
    have htg1 := htg.fr hF (by decide)
    have hnu1 := hnu.fr hF (by decide)
    have q1 := hit r (by omega) (by omega)
    have q9 : σ.2.1 9 r = σ0.2.1 9 r := by rw [hF.2.1 9 (by decide)]
    have hV1 : V = rV σ r := hV.trans (rv_fr hF (by decide)).symm
    have htd1 := htd.fr hF (by decide)
    have hnb1 : nb = σ.2.1 64 := hnb.trans (hF.2.1 64 (by decide)).symm
    have e64 : σ.2.1 64 = σ0.2.1 64 := hF.2.1 64 (by decide)
    have e3 : σ.2.1 3 = σ0.2.1 3 := hF.2.1 3 (by decide)
    have e4 : σ.2.1 4 = σ0.2.1 4 := hF.2.1 4 (by decide)
    have e46 : σ.2.1 46 = σ0.2.1 46 := hF.2.1 46 (by decide)
    have hV9 : V = rV σ0 r := hV
    refine tm_iload_n dX12_unbind_94 rfl 0 rfl ?_
    refine tm_if_eq (tgt := 263) dX12_unbind_95 (by decide) ⟨by omega, by omega⟩ (fun h1 => ?_) (fun h1 => ?_)
    · exact tm_sub [0, 1, 2] rfl (hx_263 (w) σ (Fr.rfl.trans (Fr.sub hF (by decide) (by decide) (by decide))) hR hbo hls (hcl (by omega)) hzz)
    · refine tm_iconst dX12_unbind_98 ?_
      refine tm_istore_n (L' := [(2, .int (iI 0)), (0, .ref b), (1, .int (iI r))]) dX12_unbind_99 rfl (by decide) rfl ?_
      refine tm_iconst dX12_unbind_100 ?_
      refine tm_istore_n (L' := [(3, .int (iI 0)), (2, .int (iI 0)), (0, .ref b), (1, .int (iI r))]) dX12_unbind_101 rfl (by decide) rfl ?_
      refine tm_sub [0, 1, 2, 3] rfl (f_unb5 (d) (σ0 := σ) (r := r) (F := F) (m := m) (C0 := (193 * (cz (σ.2.1 47) 221 : Int) + (cr (σ.2.1 47) (σ.2.1 65) 221 : Int))) (V := V) (BG := BG) (nb := nb) hr hR hit1 hok1 htg1 hnu1 (by omega) htd1 hV1 hu hnb1 (fun w13 k14 σ15 F5 R6 f7 f8 f9 f10 f11 f12 => ?_) _ (0) (0) σ Fr.rfl hR (by omega) hbo (by omega) hls (fun e j a b => by omega) hzz rfl)
      show Tm _ _ 260 b σ15 [(3, .int (iI k14)), (2, .int (iI w13)), (0, .ref b), (1, .int (iI r))] [] _
      refine tm_goto (tgt := 94) dX12_unbind_260 (by decide) ?_
      exact tm_sub [1, 2, 3] rfl (ih _ (by omega) (w13) σ15 ((Fr.rfl.trans (Fr.sub hF (by decide) (by decide) (by decide))).trans (Fr.sub F5 (by decide) (by decide) (by decide))) R6 (by omega) f8 f10 f11 f12 rfl)
end
section
set_option maxHeartbeats 1000000 in
set_option maxRecDepth 20000 in
theorem f_unb9 (d : Nat) {b : Nat} {σ : MS} {r : Int} {F : Int} {k : Int} {post : Option Value → MS → Prop} (hr : 0 ≤ r ∧ r < 6) (hR : RG σ) (hit : ITM σ) (hpar : PAR σ) (hok : OKS σ F r) (hnu : NUM σ) (hk : 0 ≤ k ∧ k < σ.2.1 9 r) (hx_401 : ∀ (w : Int) (i : Int) , (w = 0 ∨ w = 1) → (w = 1 ↔ ∀ e, 0 ≤ e → e < 4 → σ.2.1 7 (4 * (220 * r + k) + e) = 2 → ¬ LTA σ k (σ.2.1 8 (4 * (220 * r + k) + e))) → Tm (d + 4) m_X12_unbind 401 b σ [(6, .int (iI i)), (5, .int (iI w)), (4, .int (iI (220 * r + k))), (3, .int (iI k)), (0, .ref b), (1, .int (iI r))] [] post) : ∀ (n : Nat) (w : Int) (i : Int) , ((w = 0 ∨ w = 1) ∧ 0 ≤ i ∧ i ≤ 4) → (w = 1 ↔ ∀ e, 0 ≤ e → e < i → σ.2.1 7 (4 * (220 * r + k) + e) = 2 → ¬ LTA σ k (σ.2.1 8 (4 * (220 * r + k) + e))) → (4 - i).toNat = n → Tm (d + 4) m_X12_unbind 313 b σ [(6, .int (iI i)), (5, .int (iI w)), (4, .int (iI (220 * r + k))), (3, .int (iI k)), (0, .ref b), (1, .int (iI r))] [] post := by
  intro n
  induction n using Nat.strongRecOn with
  | _ n ih =>
    intro w i h0 hs hm
    have q1 := hit r (by omega) (by omega)
    refine tm_iload dX12_unbind_313 0 rfl ?_
    refine tm_aload_n dX12_unbind_315 rfl 4 rfl ?_
    refine tm_iload dX12_unbind_316 2 rfl ?_
    refine tm_callV (M := m_X12_unbind) (pc := 318) (ix := 199) (M' := m_X12_args) (As := [.int (iI (220 * r + k))]) (rest := [.int (iI i)]) dX12_unbind_318 ok_X12_args im_X12_args se_X12_args ml12_199 np_X12_args rfl rfl (Nat.le_of_ble_eq_true rfl) (Nat.le_of_ble_eq_true rfl) rfl (c_X12_args (d) (σ := σ) (x := 220 * r + k) (by omega) hR (hok.of (by omega) (by omega)) hpar) (fun r1 σ2 hp => ?_)
    obtain ⟨v3, rfl, rfl, f4, f5⟩ := hp
    show Tm _ _ 321 b σ [(6, .int (iI i)), (5, .int (iI w)), (4, .int (iI (220 * r + k))), (3, .int (iI k)), (0, .ref b), (1, .int (iI r))] [.int (iI v3), .int (iI i)] _
    refine tm_icmp_ge (tgt := 401) dX12_unbind_321 (by decide) ⟨by omega, by omega⟩ ⟨by omega, by omega⟩ (fun h6 => ?_) (fun h6 => ?_)
    · exact tm_sub [0, 1, 2, 3, 4, 5] rfl (hx_401 (w) (i) (by omega) ⟨fun q e a b c => hs.mp q e a (by have e9 := ((hok.arg (k := k) (by omega) (by omega) a b).2 c).2; omega) c, fun q => hs.mpr (fun e a b => q e a (by omega))⟩)
    · have q2 := hok.arg (k := k) (by omega) (by omega) (i := i) (by omega) (by omega)
      refine tm_iload dX12_unbind_324 1 rfl ?_
      refine tm_if_eq (tgt := 392) dX12_unbind_326 (by decide) ⟨by omega, by omega⟩ (fun h7 => ?_) (fun h7 => ?_)
      · refine tm_iconst dX12_unbind_392 ?_
        refine tm_istore (L' := [(5, .int (iI 0)), (6, .int (iI i)), (4, .int (iI (220 * r + k))), (3, .int (iI k)), (0, .ref b), (1, .int (iI r))]) dX12_unbind_393 (by decide) rfl ?_
        refine tm_iinc (q0 := 1) (L' := [(6, .int (iI (i + 1))), (5, .int (iI 0)), (4, .int (iI (220 * r + k))), (3, .int (iI k)), (0, .ref b), (1, .int (iI r))]) dX12_unbind_395 rfl (by decide) rfl ?_
        refine tm_goto (tgt := 313) dX12_unbind_398 (by decide) ?_
        exact tm_sub [0, 1, 2, 3, 4, 5] rfl (ih _ (by omega) (0) (i + 1) (by omega) ⟨fun q => absurd q (by decide), fun q => absurd (hs.mpr (fun e a b => q e a (by omega))) (by omega)⟩ rfl)
      · refine tm_aload_n dX12_unbind_329 rfl 4 rfl ?_
        refine tm_get (k := 7) (v := .ref (b + 1 + 5)) lay_12 dX12_unbind_330 (by decide) fl12_26 rfl ?_
        refine tm_iconst dX12_unbind_333 ?_
        refine tm_iload dX12_unbind_334 2 rfl ?_
        refine tm_imul dX12_unbind_336 ?_
        refine tm_iload dX12_unbind_337 0 rfl ?_
        refine tm_iadd dX12_unbind_339 ?_
        refine tm_iald (z := (4 * (220 * r + k)) + i) (v := σ.2.1 7 ((4 * (220 * r + k)) + i)) dX12_unbind_340 (show mT[5]? = some (7, 0, 11440) from rfl) (by omega) (by omega) (by decide) (rfl) ?_
        have g8 := RG.a hR 7 ((4 * (220 * r + k)) + i)
        refine tm_iconst dX12_unbind_341 ?_
        refine tm_icmp_ne (tgt := 388) dX12_unbind_342 (by decide) ⟨by omega, by omega⟩ ⟨by decide, by decide⟩ (fun h10 => ?_) (fun h10 => ?_)
        · refine tm_iconst dX12_unbind_388 ?_
          refine tm_goto (tgt := 393) dX12_unbind_389 (by decide) ?_
          refine tm_istore (L' := [(5, .int (iI 1)), (6, .int (iI i)), (4, .int (iI (220 * r + k))), (3, .int (iI k)), (0, .ref b), (1, .int (iI r))]) dX12_unbind_393 (by decide) rfl ?_
          refine tm_iinc (q0 := 1) (L' := [(6, .int (iI (i + 1))), (5, .int (iI 1)), (4, .int (iI (220 * r + k))), (3, .int (iI k)), (0, .ref b), (1, .int (iI r))]) dX12_unbind_395 rfl (by decide) rfl ?_
          refine tm_goto (tgt := 313) dX12_unbind_398 (by decide) ?_
          exact tm_sub [0, 1, 2, 3, 4, 5] rfl (ih _ (by omega) (1) (i + 1) (by omega) ⟨fun _ e a b c => by
          by_cases z : e = i
          · subst z; exact absurd c (by omega)
          · exact hs.mp (by omega) e a (by omega) c, fun _ => rfl⟩ rfl)
        · refine tm_aload_n dX12_unbind_345 rfl 4 rfl ?_
          refine tm_get (k := 65) (v := .ref (b + 1 + 42)) lay_12 dX12_unbind_346 (by decide) fl12_146 rfl ?_
          refine tm_sipush dX12_unbind_349 (by decide) ?_
          refine tm_iload_n dX12_unbind_352 rfl 3 rfl ?_
          refine tm_imul dX12_unbind_353 ?_
          refine tm_aload_n dX12_unbind_354 rfl 4 rfl ?_
          refine tm_get (k := 64) (v := .ref (b + 1 + 41)) lay_12 dX12_unbind_355 (by decide) fl12_143 rfl ?_
          refine tm_aload_n dX12_unbind_358 rfl 4 rfl ?_
          refine tm_get (k := 8) (v := .ref (b + 1 + 6)) lay_12 dX12_unbind_359 (by decide) fl12_29 rfl ?_
          refine tm_iconst dX12_unbind_362 ?_
          refine tm_iload dX12_unbind_363 2 rfl ?_
          refine tm_imul dX12_unbind_365 ?_
          refine tm_iload dX12_unbind_366 0 rfl ?_
          refine tm_iadd dX12_unbind_368 ?_
          refine tm_iald (z := (4 * (220 * r + k)) + i) (v := σ.2.1 8 ((4 * (220 * r + k)) + i)) dX12_unbind_369 (show mT[6]? = some (8, 0, 11440) from rfl) (by omega) (by omega) (by decide) (rfl) ?_
          have g11 := RG.a hR 8 ((4 * (220 * r + k)) + i)
          refine tm_iald (z := σ.2.1 8 ((4 * (220 * r + k)) + i)) (v := σ.2.1 64 (σ.2.1 8 ((4 * (220 * r + k)) + i))) dX12_unbind_370 (show mT[41]? = some (64, 0, 192) from rfl) (by omega) (by omega) (by decide) (rfl) ?_
          have g12 := RG.a hR 64 (σ.2.1 8 ((4 * (220 * r + k)) + i))
          have := hnu (σ.2.1 8 ((4 * (220 * r + k)) + i)) (by omega) (by omega)
          refine tm_iadd dX12_unbind_371 ?_
          refine tm_iald (z := (192 * k) + (σ.2.1 64 (σ.2.1 8 ((4 * (220 * r + k)) + i)))) (v := σ.2.1 65 ((192 * k) + (σ.2.1 64 (σ.2.1 8 ((4 * (220 * r + k)) + i))))) dX12_unbind_372 (show mT[42]? = some (65, 0, 42432) from rfl) (by omega) (by omega) (by decide) (rfl) ?_
          have g13 := RG.a hR 65 ((192 * k) + (σ.2.1 64 (σ.2.1 8 ((4 * (220 * r + k)) + i))))
          refine tm_aload_n dX12_unbind_373 rfl 4 rfl ?_
          refine tm_get (k := 8) (v := .ref (b + 1 + 6)) lay_12 dX12_unbind_374 (by decide) fl12_29 rfl ?_
          refine tm_iconst dX12_unbind_377 ?_
          refine tm_iload dX12_unbind_378 2 rfl ?_
          refine tm_imul dX12_unbind_380 ?_
          refine tm_iload dX12_unbind_381 0 rfl ?_
          refine tm_iadd dX12_unbind_383 ?_
          refine tm_iald (z := (4 * (220 * r + k)) + i) (v := σ.2.1 8 ((4 * (220 * r + k)) + i)) dX12_unbind_384 (show mT[6]? = some (8, 0, 11440) from rfl) (by omega) (by omega) (by decide) (rfl) ?_
          have g14 := RG.a hR 8 ((4 * (220 * r + k)) + i)
          refine tm_icmp_ne (tgt := 392) dX12_unbind_385 (by decide) ⟨by omega, by omega⟩ ⟨by omega, by omega⟩ (fun h15 => ?_) (fun h15 => ?_)
          · refine tm_iconst dX12_unbind_392 ?_
            refine tm_istore (L' := [(5, .int (iI 0)), (6, .int (iI i)), (4, .int (iI (220 * r + k))), (3, .int (iI k)), (0, .ref b), (1, .int (iI r))]) dX12_unbind_393 (by decide) rfl ?_
            refine tm_iinc (q0 := 1) (L' := [(6, .int (iI (i + 1))), (5, .int (iI 0)), (4, .int (iI (220 * r + k))), (3, .int (iI k)), (0, .ref b), (1, .int (iI r))]) dX12_unbind_395 rfl (by decide) rfl ?_
            refine tm_goto (tgt := 313) dX12_unbind_398 (by decide) ?_
            exact tm_sub [0, 1, 2, 3, 4, 5] rfl (ih _ (by omega) (0) (i + 1) (by omega) ⟨fun q => absurd q (by decide), fun q => absurd (show LTA σ k (σ.2.1 8 (4 * (220 * r + k) + i)) from by unfold LTA; omega) (q i (by omega) (by omega) (by omega))⟩ rfl)
          · refine tm_iconst dX12_unbind_388 ?_
            refine tm_goto (tgt := 393) dX12_unbind_389 (by decide) ?_
            refine tm_istore (L' := [(5, .int (iI 1)), (6, .int (iI i)), (4, .int (iI (220 * r + k))), (3, .int (iI k)), (0, .ref b), (1, .int (iI r))]) dX12_unbind_393 (by decide) rfl ?_
            refine tm_iinc (q0 := 1) (L' := [(6, .int (iI (i + 1))), (5, .int (iI 1)), (4, .int (iI (220 * r + k))), (3, .int (iI k)), (0, .ref b), (1, .int (iI r))]) dX12_unbind_395 rfl (by decide) rfl ?_
            refine tm_goto (tgt := 313) dX12_unbind_398 (by decide) ?_
            exact tm_sub [0, 1, 2, 3, 4, 5] rfl (ih _ (by omega) (1) (i + 1) (by omega) ⟨fun _ e a b c => by
          by_cases z : e = i
          · subst z; (intro q; exact q (by omega))
          · exact hs.mp (by omega) e a (by omega) c, fun _ => rfl⟩ rfl)
set_option maxHeartbeats 1000000 in
set_option maxRecDepth 20000 in
theorem f_unb8 (d : Nat) {b : Nat} {σ0 : MS} {r : Int} {F : Int} {post : Option Value → MS → Prop} (hr : 0 ≤ r ∧ r < 6) (hR0 : RG σ0) (hit : ITM σ0) (hpar : PAR σ0) (hnu : NUM σ0) (hbo : BO 47 σ0) (hx_439 : ∀ (k : Int) (σ : MS) , (Fr [] [6, 7, 8] [] σ0 σ) → (RG σ) → (OKS σ F r) → (XO r σ0 σ) → (UB8 σ0 σ r (σ0.2.1 9 r) (σ0.2.1 9 r)) → Tm (d + 4) m_X12_unbind 439 b σ [(3, .int (iI k)), (0, .ref b), (1, .int (iI r))] [] post) : ∀ (n : Nat) (k : Int) (σ : MS) , (Fr [] [6, 7, 8] [] σ0 σ) → (RG σ) → (0 ≤ k ∧ k ≤ σ0.2.1 9 r) → (OKS σ F r) → (XO r σ0 σ) → (UB8 σ0 σ r (σ0.2.1 9 r) k) → (220 - k).toNat = n → Tm (d + 4) m_X12_unbind 265 b σ [(3, .int (iI k)), (0, .ref b), (1, .int (iI r))] [] post := by
  intro n
  induction n using Nat.strongRecOn with
  | _ n ih =>
    intro k σ hF hR h0 hok hxo hub hm
    have hit1 := hit.fr hF (by decide)
    have q1 := hit r (by omega) (by omega)
    have q9 : σ.2.1 9 r = σ0.2.1 9 r := by rw [hF.2.1 9 (by decide)]
    have q3 : σ.2.1 3 = σ0.2.1 3 := hF.2.1 3 (by decide)
    refine tm_iload_n dX12_unbind_265 rfl 0 rfl ?_
    refine tm_aload_n dX12_unbind_266 rfl 1 rfl ?_
    refine tm_get (k := 9) (v := .ref (b + 1 + 7)) lay_12 dX12_unbind_267 (by decide) fl12_32 rfl ?_
    refine tm_iload_n dX12_unbind_270 rfl 2 rfl ?_
    refine tm_iald (z := r) (v := σ0.2.1 9 r) dX12_unbind_271 (show mT[7]? = some (9, 0, 13) from rfl) (by omega) (by omega) (by decide) (ra_F hF (by decide) (rfl)) ?_
    have g1 := RG.a hR0 9 (r)
    refine tm_icmp_ge (tgt := 439) dX12_unbind_272 (by decide) ⟨by omega, by omega⟩ ⟨by omega, by omega⟩ (fun h2 => ?_) (fun h2 => ?_)
    · exact tm_sub [0, 1, 2] rfl (hx_439 (k) σ (Fr.rfl.trans (Fr.sub hF (by decide) (by decide) (by decide))) hR hok hxo (by have e9 := hub; rw [show k = σ0.2.1 9 r by omega] at e9; exact e9))
    · have e3k : σ.2.1 3 (220 * r + k) = σ0.2.1 3 (220 * r + k) := congrFun q3 _
      have z6 := hub.at (j := k) (by omega) (by omega) (Int.le_refl k)
      have l6 : LTA σ = LTA σ0 := lta_of (hF.2.1 65 (by decide)) (hF.2.1 64 (by decide))
      refine tm_aload_n dX12_unbind_275 rfl 1 rfl ?_
      refine tm_iload_n dX12_unbind_276 rfl 2 rfl ?_
      refine tm_iload_n dX12_unbind_277 rfl 0 rfl ?_
      refine tm_callV (M := m_X12_unbind) (pc := 278) (ix := 203) (M' := m_X12_at) (As := [.int (iI r), .int (iI k)]) (rest := []) dX12_unbind_278 ok_X12_at im_X12_at se_X12_at ml12_203 np_X12_at rfl rfl (Nat.le_of_ble_eq_true rfl) (Nat.le_of_ble_eq_true rfl) rfl (c_X12_at (d + 2) (σ := σ) (x := r) (k := k) ) (fun r3 σ4 hp => ?_)
      obtain ⟨v5, rfl, rfl, f6⟩ := hp
      subst f6
      show Tm _ _ 281 b σ [(3, .int (iI k)), (0, .ref b), (1, .int (iI r))] [.int (iI (220 * r + k))] _
      refine tm_istore (L' := [(4, .int (iI (220 * r + k))), (3, .int (iI k)), (0, .ref b), (1, .int (iI r))]) dX12_unbind_281 (by decide) rfl ?_
      refine tm_aload_n dX12_unbind_283 rfl 2 rfl ?_
      refine tm_get (k := 3) (v := .ref (b + 1 + 1)) lay_12 dX12_unbind_284 (by decide) fl12_13 rfl ?_
      refine tm_iload dX12_unbind_287 0 rfl ?_
      refine tm_iald (z := 220 * r + k) (v := σ0.2.1 3 (220 * r + k)) dX12_unbind_289 (show mT[1]? = some (3, 0, 2860) from rfl) (by omega) (by omega) (by decide) (ra_F hF (by decide) (rfl)) ?_
      have g7 := RG.a hR0 3 (220 * r + k)
      refine tm_bipush dX12_unbind_290 (by decide) ?_
      refine tm_icmp_ne (tgt := 433) dX12_unbind_292 (by decide) ⟨by omega, by omega⟩ ⟨by decide, by decide⟩ (fun h8 => ?_) (fun h8 => ?_)
      · refine tm_iinc (q0 := 1) (L' := [(3, .int (iI (k + 1))), (4, .int (iI (220 * r + k))), (0, .ref b), (1, .int (iI r))]) dX12_unbind_433 rfl (by decide) rfl ?_
        refine tm_goto (tgt := 265) dX12_unbind_436 (by decide) ?_
        exact tm_sub [0, 2, 3] rfl (ih _ (by omega) (k + 1) σ (Fr.rfl.trans (Fr.sub hF (by decide) (by decide) (by decide))) hR (by omega) hok hxo (hub.skip (fun z => by rw [← z6, ← l6] at z; have z3 : σ.2.1 3 (220 * r + k) = 12 := z.1; omega)) rfl)
      · refine tm_aload_n dX12_unbind_295 rfl 2 rfl ?_
        refine tm_get (k := 47) (v := .ref (b + 1 + 25)) lay_12 dX12_unbind_296 (by decide) fl12_91 rfl ?_
        refine tm_iload_n dX12_unbind_299 rfl 1 rfl ?_
        refine tm_zald (z := k) (v := σ0.2.1 47 k) dX12_unbind_300 (show mT[25]? = some (47, 2, 221) from rfl) (by omega) (by omega) (by decide) (ra_F hF (by decide) (rfl)) ?_
        have g9 := RG.a hR0 47 (k)
        have := hbo (k)
        refine tm_if_ne (tgt := 307) dX12_unbind_301 (by decide) ⟨by omega, by omega⟩ (fun h10 => ?_) (fun h10 => ?_)
        · refine tm_iconst dX12_unbind_307 ?_
          refine tm_istore (L' := [(5, .int (iI 1)), (4, .int (iI (220 * r + k))), (3, .int (iI k)), (0, .ref b), (1, .int (iI r))]) dX12_unbind_308 (by decide) rfl ?_
          refine tm_iconst dX12_unbind_310 ?_
          refine tm_istore (L' := [(6, .int (iI 0)), (5, .int (iI 1)), (4, .int (iI (220 * r + k))), (3, .int (iI k)), (0, .ref b), (1, .int (iI r))]) dX12_unbind_311 (by decide) rfl ?_
          refine tm_sub [0, 1, 2, 3, 4, 5] rfl (f_unb9 (d) (σ := σ) (r := r) (k := k) (F := F) hr hR hit1 (hpar.fr hF (by decide)) hok (hnu.fr hF (by decide)) (by omega) (fun w17 i18 f15 f16 => ?_) _ (1) (0) (by omega) ⟨fun _ e a b => by omega, fun _ => rfl⟩ rfl)
          show Tm _ _ 401 b σ [(6, .int (iI i18)), (5, .int (iI w17)), (4, .int (iI (220 * r + k))), (3, .int (iI k)), (0, .ref b), (1, .int (iI r))] [] _
          have hIS := f16
          refine tm_iload dX12_unbind_401 1 rfl ?_
          refine tm_if_ne (tgt := 433) dX12_unbind_403 (by decide) ⟨by omega, by omega⟩ (fun h19 => ?_) (fun h19 => ?_)
          · refine tm_iinc (q0 := 3) (L' := [(3, .int (iI (k + 1))), (6, .int (iI i18)), (5, .int (iI w17)), (4, .int (iI (220 * r + k))), (0, .ref b), (1, .int (iI r))]) dX12_unbind_433 rfl (by decide) rfl ?_
            refine tm_goto (tgt := 265) dX12_unbind_436 (by decide) ?_
            exact tm_sub [0, 4, 5] rfl (ih _ (by omega) (k + 1) σ (Fr.rfl.trans (Fr.sub hF (by decide) (by decide) (by decide))) hR (by omega) hok hxo (hub.skip (fun z => by rw [← z6, ← l6] at z; have z4 := (ub_ex hIS).mp z.2.2; omega)) rfl)
          · refine tm_aload_n dX12_unbind_406 rfl 4 rfl ?_
            refine tm_get (k := 6) (v := .ref (b + 1 + 4)) lay_12 dX12_unbind_407 (by decide) fl12_23 rfl ?_
            refine tm_iload dX12_unbind_410 2 rfl ?_
            refine tm_bipush dX12_unbind_412 (by decide) ?_
            refine tm_iast (z := 220 * r + k) (v := 13) dX12_unbind_414 (show mT[4]? = some (6, 0, 2860) from rfl) (by omega) (by omega) (by decide) ?_
            refine tm_aload_n dX12_unbind_415 rfl 4 rfl ?_
            refine tm_iload dX12_unbind_416 2 rfl ?_
            refine tm_iconst dX12_unbind_418 ?_
            refine tm_iconst dX12_unbind_419 ?_
            refine tm_iconst dX12_unbind_420 ?_
            refine tm_callV (M := m_X12_unbind) (pc := 421) (ix := 298) (M' := m_X12_setArg) (As := [.int (iI (220 * r + k)), .int (iI 0), .int (iI 0), .int (iI 0)]) (rest := []) dX12_unbind_421 ok_X12_setArg im_X12_setArg se_X12_setArg ml12_298 np_X12_setArg rfl rfl (Nat.le_of_ble_eq_true rfl) (Nat.le_of_ble_eq_true rfl) rfl (c_X12_setArg (d + 2) (σ := (sA 6 (220 * r + k) (13) σ)) (x := 220 * r + k) (i := 0) (k := 0) (w := 0) (by omega)) (fun r20 σ21 hp => ?_)
            obtain ⟨rfl, f23⟩ := hp
            subst f23
            show Tm _ _ 424 b (fArg (220 * r + k) (0) (0) (0) (sA 6 (220 * r + k) (13) σ)) [(6, .int (iI i18)), (5, .int (iI w17)), (4, .int (iI (220 * r + k))), (3, .int (iI k)), (0, .ref b), (1, .int (iI r))] [] _
            refine tm_aload_n dX12_unbind_424 rfl 4 rfl ?_
            refine tm_iload dX12_unbind_425 2 rfl ?_
            refine tm_iconst dX12_unbind_427 ?_
            refine tm_iconst dX12_unbind_428 ?_
            refine tm_iconst dX12_unbind_429 ?_
            refine tm_callV (M := m_X12_unbind) (pc := 430) (ix := 298) (M' := m_X12_setArg) (As := [.int (iI (220 * r + k)), .int (iI 1), .int (iI 0), .int (iI 0)]) (rest := []) dX12_unbind_430 ok_X12_setArg im_X12_setArg se_X12_setArg ml12_298 np_X12_setArg rfl rfl (Nat.le_of_ble_eq_true rfl) (Nat.le_of_ble_eq_true rfl) rfl (c_X12_setArg (d + 2) (σ := (fArg (220 * r + k) (0) (0) (0) (sA 6 (220 * r + k) (13) σ))) (x := 220 * r + k) (i := 1) (k := 0) (w := 0) (by omega)) (fun r24 σ25 hp => ?_)
            obtain ⟨rfl, f27⟩ := hp
            subst f27
            show Tm _ _ 433 b (fArg (220 * r + k) (1) (0) (0) (fArg (220 * r + k) (0) (0) (0) (sA 6 (220 * r + k) (13) σ))) [(6, .int (iI i18)), (5, .int (iI w17)), (4, .int (iI (220 * r + k))), (3, .int (iI k)), (0, .ref b), (1, .int (iI r))] [] _
            refine tm_iinc (q0 := 3) (L' := [(3, .int (iI (k + 1))), (6, .int (iI i18)), (5, .int (iI w17)), (4, .int (iI (220 * r + k))), (0, .ref b), (1, .int (iI r))]) dX12_unbind_433 rfl (by decide) rfl ?_
            refine tm_goto (tgt := 265) dX12_unbind_436 (by decide) ?_
            exact tm_sub [0, 4, 5] rfl (ih _ (by omega) (k + 1) (fArg (220 * r + k) (1) (0) (0) (fArg (220 * r + k) (0) (0) (0) (sA 6 (220 * r + k) (13) σ))) ((((Fr.rfl.trans (Fr.sub hF (by decide) (by decide) (by decide))).A (by decide)).trans (Fr.sub fArg_fr (by decide) (by decide) (by decide))).trans (Fr.sub fArg_fr (by decide) (by decide) (by decide))) (((hR.A (by omega)).arg (by decide) (by decide)).arg (by decide) (by decide)) (by omega) (fGone_off.oks hok (fGone_oki (hok k (by omega) (by omega)) (by rw [q3]; assumption) (by decide))) (hxo.trans (fGone_off.xo (by omega) (by omega))) (hub.take (by omega) ⟨by rw [← z6]; show σ.2.1 3 _ = 12; omega, by omega, by rw [← z6, ← l6]; exact (ub_ex hIS).mpr (by omega)⟩) rfl)
        · refine tm_goto (tgt := 433) dX12_unbind_304 (by decide) ?_
          refine tm_iinc (q0 := 1) (L' := [(3, .int (iI (k + 1))), (4, .int (iI (220 * r + k))), (0, .ref b), (1, .int (iI r))]) dX12_unbind_433 rfl (by decide) rfl ?_
          refine tm_goto (tgt := 265) dX12_unbind_436 (by decide) ?_
          exact tm_sub [0, 2, 3] rfl (ih _ (by omega) (k + 1) σ (Fr.rfl.trans (Fr.sub hF (by decide) (by decide) (by decide))) hR (by omega) hok hxo (hub.skip (fun z => by rw [← z6, ← l6] at z; have z3 : σ.2.1 3 (220 * r + k) = 12 := z.1; omega)) rfl)
set_option maxHeartbeats 1000000 in
set_option maxRecDepth 20000 in
theorem f_X12_unbind (d : Nat) {b : Nat} {σ : MS} {r : Int} {F : Int} {BG : Int → Prop} (hr : 0 ≤ r ∧ r < 6) (hR : RG σ) (hit : ITM σ) (hpar : PAR σ) (hok : OKS σ F r) (hl : LAB σ) (hbo : BO 47 σ) (hbl : BO 59 σ) (hnu : NUM σ) (hlex : LEX σ r) (hu : UNQ (rV σ r) (σ.2.1 9 r)) (hBG : ∀ g, 0 ≤ g → g < 192 → ((PMQ σ r g ∨ σ.2.1 59 g = 1) ↔ BG g)) (hdi : ∀ x y, 0 ≤ x → x < 192 → 0 ≤ y → y < 192 → BG x → BG y → x ≠ y → σ.2.1 64 x ≠ σ.2.1 64 y) : Tm (d + 4) m_X12_unbind 0 b σ [(0, .ref b), (1, .int (iI r))] [] (fun ro σ2 => ro = none ∧ (Fr [] [6, 7, 8, 46, 47, 65, 66] [] σ σ2) ∧ (RG σ2) ∧ (LAB σ2) ∧ (BO 47 σ2) ∧ (OKS σ2 F r) ∧ (XO r σ σ2) ∧ (rV σ2 r = ubV (rV σ r) (σ.2.1 9 r) (σ.2.1 64) BG)) := by
  have q1 := hit r (by omega) (by omega)
  refine tm_aload_n dX12_unbind_0 rfl 0 rfl ?_
  refine tm_iload_n dX12_unbind_1 rfl 1 rfl ?_
  refine tm_callV (M := m_X12_unbind) (pc := 2) (ix := 420) (M' := m_X12_findLabels) (As := [.int (iI r)]) (rest := []) dX12_unbind_2 ok_X12_findLabels im_X12_findLabels se_X12_findLabels ml12_420 np_X12_findLabels rfl rfl (Nat.le_of_ble_eq_true rfl) (Nat.le_of_ble_eq_true rfl) rfl (c_X12_findLabels (d + 1) (σ := σ) (r := r) (by omega) hR hit hok.jmp.lbr hl) (fun r1 σ2 hp => ?_)
  obtain ⟨rfl, f4, f5, f6, f7⟩ := hp
  show Tm _ _ 5 b σ2 [(0, .ref b), (1, .int (iI r))] [] _
  have htg1 := LEX.tgt hlex f7 f4
  have hlab1 := f6
  have htd1 := LEX.tgd hlex f7 f4
  refine tm_iconst dX12_unbind_5 ?_
  refine tm_istore_n (L' := [(2, .int (iI 0)), (0, .ref b), (1, .int (iI r))]) dX12_unbind_6 rfl (by decide) rfl ?_
  refine tm_sub [0, 1, 2] rfl (f_unb1 (d + 3) (σ0 := σ2) (r := r) (by omega) f5 (by rw [((show Fr [] [46] [] σ σ2 from (Fr.rfl.trans (Fr.sub f4 (by decide) (by decide) (by decide))))).2.1 9 (by decide)]; exact q1) (fun k14 σ15 F10 R11 f12 f13 => ?_) _ (0) σ2 Fr.rfl f5 (by omega) (hbo.fr (show Fr [] [46] [] σ σ2 from (Fr.rfl.trans (Fr.sub f4 (by decide) (by decide) (by decide)))) (by decide)) (fun j a c => by omega) rfl)
  show Tm _ _ 30 b σ15 [(2, .int (iI k14)), (0, .ref b), (1, .int (iI r))] [] _
  have hbo1 := f12
  have hz47 := f13
  refine tm_iconst dX12_unbind_30 ?_
  refine tm_istore_n (L' := [(2, .int (iI 0)), (0, .ref b), (1, .int (iI r))]) dX12_unbind_31 rfl (by decide) rfl ?_
  refine tm_sub [0, 1, 2] rfl (f_unb2 (d + 3) (σ0 := σ15) (r := r) (fun g21 σ22 F18 R19 f20 => ?_) _ (0) σ15 Fr.rfl R11 (by omega) (fun j a c => by omega) rfl)
  show Tm _ _ 52 b σ22 [(2, .int (iI g21)), (0, .ref b), (1, .int (iI r))] [] _
  have h66m := f20
  refine tm_iconst dX12_unbind_52 ?_
  refine tm_istore_n (L' := [(2, .int (iI 0)), (0, .ref b), (1, .int (iI r))]) dX12_unbind_53 rfl (by decide) rfl ?_
  refine tm_sub [0, 1, 2] rfl (f_unb3 (d + 1) (σ0 := σ22) (r := r) (BG := BG) (by omega) R19 (hpar.fr (show Fr [] [46, 47, 66] [] σ σ22 from (((Fr.rfl.trans (Fr.sub f4 (by decide) (by decide) (by decide))).trans (Fr.sub F10 (by decide) (by decide) (by decide))).trans (Fr.sub F18 (by decide) (by decide) (by decide)))) (by decide)) (hbl.fr (show Fr [] [46, 47, 66] [] σ σ22 from (((Fr.rfl.trans (Fr.sub f4 (by decide) (by decide) (by decide))).trans (Fr.sub F10 (by decide) (by decide) (by decide))).trans (Fr.sub F18 (by decide) (by decide) (by decide)))) (by decide)) (hnu.fr (show Fr [] [46, 47, 66] [] σ σ22 from (((Fr.rfl.trans (Fr.sub f4 (by decide) (by decide) (by decide))).trans (Fr.sub F10 (by decide) (by decide) (by decide))).trans (Fr.sub F18 (by decide) (by decide) (by decide)))) (by decide)) (fun g a b => by rw [show PMQ _ r g ↔ PMQ σ r g by unfold PMQ; rw [((show Fr [] [46, 47, 66] [] σ σ22 from (((Fr.rfl.trans (Fr.sub f4 (by decide) (by decide) (by decide))).trans (Fr.sub F10 (by decide) (by decide) (by decide))).trans (Fr.sub F18 (by decide) (by decide) (by decide))))).2.1 11 (by decide), ((show Fr [] [46, 47, 66] [] σ σ22 from (((Fr.rfl.trans (Fr.sub f4 (by decide) (by decide) (by decide))).trans (Fr.sub F10 (by decide) (by decide) (by decide))).trans (Fr.sub F18 (by decide) (by decide) (by decide))))).2.1 18 (by decide)], ((show Fr [] [46, 47, 66] [] σ σ22 from (((Fr.rfl.trans (Fr.sub f4 (by decide) (by decide) (by decide))).trans (Fr.sub F10 (by decide) (by decide) (by decide))).trans (Fr.sub F18 (by decide) (by decide) (by decide))))).2.1 59 (by decide)]; exact hBG g a b) (by rw [((show Fr [] [46, 47, 66] [] σ σ22 from (((Fr.rfl.trans (Fr.sub f4 (by decide) (by decide) (by decide))).trans (Fr.sub F10 (by decide) (by decide) (by decide))).trans (Fr.sub F18 (by decide) (by decide) (by decide))))).2.1 64 (by decide)]; exact hdi) (fun g28 σ29 F25 R26 f27 => ?_) _ (0) σ22 Fr.rfl R19 (by omega) (fun u a b => by rw [h66m _ ((hnu.fr (show Fr [] [46, 47, 66] [] σ σ22 from (((Fr.rfl.trans (Fr.sub f4 (by decide) (by decide) (by decide))).trans (Fr.sub F10 (by decide) (by decide) (by decide))).trans (Fr.sub F18 (by decide) (by decide) (by decide)))) (by decide)) u a b).1 ((hnu.fr (show Fr [] [46, 47, 66] [] σ σ22 from (((Fr.rfl.trans (Fr.sub f4 (by decide) (by decide) (by decide))).trans (Fr.sub F10 (by decide) (by decide) (by decide))).trans (Fr.sub F18 (by decide) (by decide) (by decide)))) (by decide)) u a b).2]; exact ⟨fun z => by omega, fun z => by omega⟩) rfl)
  show Tm _ _ 88 b σ29 [(2, .int (iI g28)), (0, .ref b), (1, .int (iI r))] [] _
  have hBE : ∀ u, 0 ≤ u → u < 192 → (σ29.2.1 66 (σ.2.1 64 u) = u ↔ BG u) := fun u a b => by have e9 := f27 u a b; rw [((show Fr [] [46, 47, 66] [] σ σ22 from (((Fr.rfl.trans (Fr.sub f4 (by decide) (by decide) (by decide))).trans (Fr.sub F10 (by decide) (by decide) (by decide))).trans (Fr.sub F18 (by decide) (by decide) (by decide))))).2.1 64 (by decide)] at e9; exact e9
  refine tm_aload_n dX12_unbind_88 rfl 1 rfl ?_
  refine tm_iconst dX12_unbind_89 ?_
  refine tm_callV (M := m_X12_unbind) (pc := 90) (ix := 533) (M' := m_X12_comesLast) (As := [.int (iI 0)]) (rest := []) dX12_unbind_90 ok_X12_comesLast im_X12_comesLast se_X12_comesLast ml12_533 np_X12_comesLast rfl rfl (Nat.le_of_ble_eq_true rfl) (Nat.le_of_ble_eq_true rfl) rfl (f_X12_comesLast (d + 2) (σ := σ29) (to := 0) R26 ((hbo1.fr F18 (by decide)).fr F25 (by decide)) (by omega)) (fun r30 σ31 hp => ?_)
  obtain ⟨v32, rfl, f33, f34, f35, f36, f37, f38, f39⟩ := hp
  show Tm _ _ 93 b σ31 [(2, .int (iI g28)), (0, .ref b), (1, .int (iI r))] [.int (iI v32)] _
  have htg2 := (((htg1.fr F10 (by decide)).fr F18 (by decide)).fr F25 (by decide)).fr f34 (by decide)
  have hbo2 := f36
  have hCA0 := f38
  have hCU0 := f39
  have e47 : σ29.2.1 47 = σ15.2.1 47 := by rw [F25.2.1 47 (by decide), F18.2.1 47 (by decide)]
  have e64 : σ29.2.1 64 = σ.2.1 64 := ((show Fr [] [46, 47, 66] [] σ σ29 from ((((Fr.rfl.trans (Fr.sub f4 (by decide) (by decide) (by decide))).trans (Fr.sub F10 (by decide) (by decide) (by decide))).trans (Fr.sub F18 (by decide) (by decide) (by decide))).trans (Fr.sub F25 (by decide) (by decide) (by decide))))).2.1 64 (by decide)
  have hz4 : ∀ j, 0 ≤ j → j ≤ σ.2.1 9 r → σ29.2.1 47 j = 0 := fun j a b => by rw [e47]; exact hz47 j a (by rw [f4.2.1 9 (by decide)]; exact b)
  have hbl0 := beg_ls (V := rV σ r) (n := σ.2.1 9 r) (nb := σ.2.1 64) (BG := BG) hCA0 (f34.2.1 64 (by decide)) (hnu.fr (show Fr [] [46, 47, 66] [] σ σ29 from ((((Fr.rfl.trans (Fr.sub f4 (by decide) (by decide) (by decide))).trans (Fr.sub F10 (by decide) (by decide) (by decide))).trans (Fr.sub F18 (by decide) (by decide) (by decide))).trans (Fr.sub F25 (by decide) (by decide) (by decide)))) (by decide)) (by omega) hz4 (fun u a b => by rw [e64]; exact hBE u a b)
  have htd5 := htd1.fr (show Fr [] [47, 65, 66] [] σ2 σ31 from ((((Fr.rfl.trans (Fr.sub F10 (by decide) (by decide) (by decide))).trans (Fr.sub F18 (by decide) (by decide) (by decide))).trans (Fr.sub F25 (by decide) (by decide) (by decide))).trans (Fr.sub f34 (by decide) (by decide) (by decide)))) (by decide)
  refine tm_istore_n (L' := [(2, .int (iI v32)), (0, .ref b), (1, .int (iI r))]) dX12_unbind_93 rfl (by decide) rfl ?_
  refine tm_sub [0, 1, 2] rfl (f_unb4 (d + 1) (σ0 := σ31) (r := r) (F := F) (m := σ.2.1 9 r) (V := (rV σ r)) (BG := BG) (nb := (σ.2.1 64)) hr f35 (hit.fr (show Fr [] [46, 47, 65, 66] [] σ σ31 from (((((Fr.rfl.trans (Fr.sub f4 (by decide) (by decide) (by decide))).trans (Fr.sub F10 (by decide) (by decide) (by decide))).trans (Fr.sub F18 (by decide) (by decide) (by decide))).trans (Fr.sub F25 (by decide) (by decide) (by decide))).trans (Fr.sub f34 (by decide) (by decide) (by decide)))) (by decide)) (hok.fr (show Fr [] [46, 47, 65, 66] [] σ σ31 from (((((Fr.rfl.trans (Fr.sub f4 (by decide) (by decide) (by decide))).trans (Fr.sub F10 (by decide) (by decide) (by decide))).trans (Fr.sub F18 (by decide) (by decide) (by decide))).trans (Fr.sub F25 (by decide) (by decide) (by decide))).trans (Fr.sub f34 (by decide) (by decide) (by decide)))) (by decide)) htg2 (hnu.fr (show Fr [] [46, 47, 65, 66] [] σ σ31 from (((((Fr.rfl.trans (Fr.sub f4 (by decide) (by decide) (by decide))).trans (Fr.sub F10 (by decide) (by decide) (by decide))).trans (Fr.sub F18 (by decide) (by decide) (by decide))).trans (Fr.sub F25 (by decide) (by decide) (by decide))).trans (Fr.sub f34 (by decide) (by decide) (by decide)))) (by decide)) (by rw [((show Fr [] [46, 47, 65, 66] [] σ σ31 from (((((Fr.rfl.trans (Fr.sub f4 (by decide) (by decide) (by decide))).trans (Fr.sub F10 (by decide) (by decide) (by decide))).trans (Fr.sub F18 (by decide) (by decide) (by decide))).trans (Fr.sub F25 (by decide) (by decide) (by decide))).trans (Fr.sub f34 (by decide) (by decide) (by decide))))).2.1 9 (by decide)]) htd5 (rv_fr (show Fr [] [46, 47, 65, 66] [] σ σ31 from (((((Fr.rfl.trans (Fr.sub f4 (by decide) (by decide) (by decide))).trans (Fr.sub F10 (by decide) (by decide) (by decide))).trans (Fr.sub F18 (by decide) (by decide) (by decide))).trans (Fr.sub F25 (by decide) (by decide) (by decide))).trans (Fr.sub f34 (by decide) (by decide) (by decide)))) (by decide)).symm hu (((show Fr [] [46, 47, 65, 66] [] σ σ31 from (((((Fr.rfl.trans (Fr.sub f4 (by decide) (by decide) (by decide))).trans (Fr.sub F10 (by decide) (by decide) (by decide))).trans (Fr.sub F18 (by decide) (by decide) (by decide))).trans (Fr.sub F25 (by decide) (by decide) (by decide))).trans (Fr.sub f34 (by decide) (by decide) (by decide))))).2.1 64 (by decide)).symm (fun w48 σ49 F42 R43 f44 f45 f46 f47 => ?_) _ (v32) σ31 Fr.rfl f35 (by omega) hbo2 hbl0.1 (fun e => absurd ((hCU0 e).1.symm.trans (hz4 0 (by omega) (by omega))) (by decide)) hbl0.2 rfl)
  show Tm _ _ 263 b σ49 [(2, .int (iI w48)), (0, .ref b), (1, .int (iI r))] [] _
  have hbo3 := f44
  have hok3 := hok.fr (show Fr [] [46, 47, 65, 66] [] σ σ49 from ((((((Fr.rfl.trans (Fr.sub f4 (by decide) (by decide) (by decide))).trans (Fr.sub F10 (by decide) (by decide) (by decide))).trans (Fr.sub F18 (by decide) (by decide) (by decide))).trans (Fr.sub F25 (by decide) (by decide) (by decide))).trans (Fr.sub f34 (by decide) (by decide) (by decide))).trans (Fr.sub F42 (by decide) (by decide) (by decide)))) (by decide)
  have hfull := LSX.full f45 (rv_fr (show Fr [] [46, 47, 65, 66] [] σ σ49 from ((((((Fr.rfl.trans (Fr.sub f4 (by decide) (by decide) (by decide))).trans (Fr.sub F10 (by decide) (by decide) (by decide))).trans (Fr.sub F18 (by decide) (by decide) (by decide))).trans (Fr.sub F25 (by decide) (by decide) (by decide))).trans (Fr.sub f34 (by decide) (by decide) (by decide))).trans (Fr.sub F42 (by decide) (by decide) (by decide)))) (by decide)).symm (by rw [((show Fr [] [46, 47, 65, 66] [] σ σ49 from ((((((Fr.rfl.trans (Fr.sub f4 (by decide) (by decide) (by decide))).trans (Fr.sub F10 (by decide) (by decide) (by decide))).trans (Fr.sub F18 (by decide) (by decide) (by decide))).trans (Fr.sub F25 (by decide) (by decide) (by decide))).trans (Fr.sub f34 (by decide) (by decide) (by decide))).trans (Fr.sub F42 (by decide) (by decide) (by decide))))).2.1 9 (by decide)]) (((show Fr [] [46, 47, 65, 66] [] σ σ49 from ((((((Fr.rfl.trans (Fr.sub f4 (by decide) (by decide) (by decide))).trans (Fr.sub F10 (by decide) (by decide) (by decide))).trans (Fr.sub F18 (by decide) (by decide) (by decide))).trans (Fr.sub F25 (by decide) (by decide) (by decide))).trans (Fr.sub f34 (by decide) (by decide) (by decide))).trans (Fr.sub F42 (by decide) (by decide) (by decide))))).2.1 64 (by decide)).symm f46 f47 (htd1.fr (show Fr [] [47, 65, 66] [] σ2 σ49 from (((((Fr.rfl.trans (Fr.sub F10 (by decide) (by decide) (by decide))).trans (Fr.sub F18 (by decide) (by decide) (by decide))).trans (Fr.sub F25 (by decide) (by decide) (by decide))).trans (Fr.sub f34 (by decide) (by decide) (by decide))).trans (Fr.sub F42 (by decide) (by decide) (by decide)))) (by decide)) hu (by omega)
  refine tm_iconst dX12_unbind_263 ?_
  refine tm_istore_n (L' := [(3, .int (iI 0)), (2, .int (iI w48)), (0, .ref b), (1, .int (iI r))]) dX12_unbind_264 rfl (by decide) rfl ?_
  refine tm_sub [0, 2, 3] rfl (f_unb8 (d) (σ0 := σ49) (r := r) (F := F) hr R43 (hit.fr (show Fr [] [46, 47, 65, 66] [] σ σ49 from ((((((Fr.rfl.trans (Fr.sub f4 (by decide) (by decide) (by decide))).trans (Fr.sub F10 (by decide) (by decide) (by decide))).trans (Fr.sub F18 (by decide) (by decide) (by decide))).trans (Fr.sub F25 (by decide) (by decide) (by decide))).trans (Fr.sub f34 (by decide) (by decide) (by decide))).trans (Fr.sub F42 (by decide) (by decide) (by decide)))) (by decide)) (hpar.fr (show Fr [] [46, 47, 65, 66] [] σ σ49 from ((((((Fr.rfl.trans (Fr.sub f4 (by decide) (by decide) (by decide))).trans (Fr.sub F10 (by decide) (by decide) (by decide))).trans (Fr.sub F18 (by decide) (by decide) (by decide))).trans (Fr.sub F25 (by decide) (by decide) (by decide))).trans (Fr.sub f34 (by decide) (by decide) (by decide))).trans (Fr.sub F42 (by decide) (by decide) (by decide)))) (by decide)) (hnu.fr (show Fr [] [46, 47, 65, 66] [] σ σ49 from ((((((Fr.rfl.trans (Fr.sub f4 (by decide) (by decide) (by decide))).trans (Fr.sub F10 (by decide) (by decide) (by decide))).trans (Fr.sub F18 (by decide) (by decide) (by decide))).trans (Fr.sub F25 (by decide) (by decide) (by decide))).trans (Fr.sub f34 (by decide) (by decide) (by decide))).trans (Fr.sub F42 (by decide) (by decide) (by decide)))) (by decide)) hbo3 (fun k57 σ58 F52 R53 f54 f55 f56 => ?_) _ (0) σ49 Fr.rfl R43 (by rw [((show Fr [] [46, 47, 65, 66] [] σ σ49 from ((((((Fr.rfl.trans (Fr.sub f4 (by decide) (by decide) (by decide))).trans (Fr.sub F10 (by decide) (by decide) (by decide))).trans (Fr.sub F18 (by decide) (by decide) (by decide))).trans (Fr.sub F25 (by decide) (by decide) (by decide))).trans (Fr.sub f34 (by decide) (by decide) (by decide))).trans (Fr.sub F42 (by decide) (by decide) (by decide))))).2.1 9 (by decide)]; omega) hok3 XO.rfl UB8.start rfl)
  show Tm _ _ 439 b σ58 [(3, .int (iI k57)), (0, .ref b), (1, .int (iI r))] [] _
  exact tm_vret rfl dX12_unbind_439 (⟨rfl, (((((((Fr.rfl.trans (Fr.sub f4 (by decide) (by decide) (by decide))).trans (Fr.sub F10 (by decide) (by decide) (by decide))).trans (Fr.sub F18 (by decide) (by decide) (by decide))).trans (Fr.sub F25 (by decide) (by decide) (by decide))).trans (Fr.sub f34 (by decide) (by decide) (by decide))).trans (Fr.sub F42 (by decide) (by decide) (by decide))).trans (Fr.sub F52 (by decide) (by decide) (by decide))), R53, LAB.fr (LAB.fr (LAB.fr (LAB.fr (LAB.fr (LAB.fr hlab1 F10 (by decide)) F18 (by decide)) F25 (by decide)) f34 (by decide)) F42 (by decide)) F52 (by decide), hbo3.fr F52 (by decide), f54, (XO.fr (show Fr [] [46, 47, 65, 66] [] σ σ49 from ((((((Fr.rfl.trans (Fr.sub f4 (by decide) (by decide) (by decide))).trans (Fr.sub F10 (by decide) (by decide) (by decide))).trans (Fr.sub F18 (by decide) (by decide) (by decide))).trans (Fr.sub F25 (by decide) (by decide) (by decide))).trans (Fr.sub f34 (by decide) (by decide) (by decide))).trans (Fr.sub F42 (by decide) (by decide) (by decide)))) (by decide)).trans f55, ub_fin (σc := σ49) (F := F) (rv_fr (show Fr [] [46, 47, 65, 66] [] σ σ49 from ((((((Fr.rfl.trans (Fr.sub f4 (by decide) (by decide) (by decide))).trans (Fr.sub F10 (by decide) (by decide) (by decide))).trans (Fr.sub F18 (by decide) (by decide) (by decide))).trans (Fr.sub F25 (by decide) (by decide) (by decide))).trans (Fr.sub f34 (by decide) (by decide) (by decide))).trans (Fr.sub F42 (by decide) (by decide) (by decide)))) (by decide)).symm (by rw [((show Fr [] [46, 47, 65, 66] [] σ σ49 from ((((((Fr.rfl.trans (Fr.sub f4 (by decide) (by decide) (by decide))).trans (Fr.sub F10 (by decide) (by decide) (by decide))).trans (Fr.sub F18 (by decide) (by decide) (by decide))).trans (Fr.sub F25 (by decide) (by decide) (by decide))).trans (Fr.sub f34 (by decide) (by decide) (by decide))).trans (Fr.sub F42 (by decide) (by decide) (by decide))))).2.1 9 (by decide)]) (by rw [((show Fr [] [6, 7, 8, 46, 47, 65, 66] [] σ σ58 from (((((((Fr.rfl.trans (Fr.sub f4 (by decide) (by decide) (by decide))).trans (Fr.sub F10 (by decide) (by decide) (by decide))).trans (Fr.sub F18 (by decide) (by decide) (by decide))).trans (Fr.sub F25 (by decide) (by decide) (by decide))).trans (Fr.sub f34 (by decide) (by decide) (by decide))).trans (Fr.sub F42 (by decide) (by decide) (by decide))).trans (Fr.sub F52 (by decide) (by decide) (by decide))))).2.1 9 (by decide)]) hok3 hfull (by have e9 := f56; rw [((show Fr [] [46, 47, 65, 66] [] σ σ49 from ((((((Fr.rfl.trans (Fr.sub f4 (by decide) (by decide) (by decide))).trans (Fr.sub F10 (by decide) (by decide) (by decide))).trans (Fr.sub F18 (by decide) (by decide) (by decide))).trans (Fr.sub F25 (by decide) (by decide) (by decide))).trans (Fr.sub f34 (by decide) (by decide) (by decide))).trans (Fr.sub F42 (by decide) (by decide) (by decide))))).2.1 9 (by decide)] at e9; exact e9)⟩)
end
section
def rnM (nb : Int → Int) (i : It) (m : Int) : It := fun c => if (c = 4 ∨ c = 6 ∨ c = 8 ∨ c = 10) ∧ c < 4 + 2 * m ∧ i (c - 1) = 2 then nb (i c) else i c
noncomputable def rnD (nb : Int → Int) (i : It) : It := dI (i 0 ≤ 5 ∨ i 0 = 10) (uZ i 1 (nb (i 1))) i
theorem rnM_0 {nb : Int → Int} {i : It} : rnM nb i 0 = i := by
  funext c
  exact if_neg (by omega)
theorem rnM_4 {nb : Int → Int} {i : It} : rnM nb (rnD nb i) 4 = rnI nb i := by
  funext c
  unfold rnM rnI rnD
  by_cases w : i 0 ≤ 5 ∨ i 0 = 10
  · rw [dI_y w]
    by_cases e : c = 1
    · subst e
      rw [if_neg (by omega), if_pos ⟨rfl, w⟩, uZ_eq]
    · rw [uZ_ne e, if_neg (show ¬ (c = 1 ∧ (i 0 ≤ 5 ∨ i 0 = 10)) from fun z => e z.1)]
      by_cases q : (c = 4 ∨ c = 6 ∨ c = 8 ∨ c = 10)
      · rw [uZ_ne (show c - 1 ≠ 1 by omega)]
        by_cases q2 : i (c - 1) = 2
        · rw [if_pos ⟨q, by omega, q2⟩, if_pos ⟨q, q2⟩]
        · rw [if_neg (fun z => q2 z.2.2), if_neg (fun z => q2 z.2)]
      · rw [if_neg (fun z => q z.1), if_neg (fun z => q z.1)]
  · rw [dI_n w, if_neg (show ¬ (c = 1 ∧ (i 0 ≤ 5 ∨ i 0 = 10)) from fun z => w z.2)]
    by_cases q : (c = 4 ∨ c = 6 ∨ c = 8 ∨ c = 10) ∧ i (c - 1) = 2
    · rw [if_pos ⟨q.1, by omega, q.2⟩, if_pos q]
    · rw [if_neg (fun z => q ⟨z.1, z.2.2⟩), if_neg q]
section REN
variable {σ0 σ : MS} {nb : Int → Int} {x i v : Int} {it : It}
theorem rnM_k {m j : Int} : rnM nb it m (3 + 2 * j) = it (3 + 2 * j) := if_neg (by omega)
theorem rnM_n {m j : Int} (h : m ≤ j) : rnM nb it m (4 + 2 * j) = it (4 + 2 * j) := if_neg (by omega)
theorem rnM_s (h0 : 0 ≤ i) (h4 : i < 4) : rnM nb it (i + 1) = uZ (rnM nb it i) (4 + 2 * i) (if it (3 + 2 * i) = 2 then nb (it (4 + 2 * i)) else it (4 + 2 * i)) := by
  funext c
  by_cases e : c = 4 + 2 * i
  · rw [e, uZ_eq]
    unfold rnM
    rw [show 4 + 2 * i - 1 = 3 + 2 * i by omega]
    by_cases q : it (3 + 2 * i) = 2
    · rw [if_pos ⟨by omega, by omega, q⟩, if_pos q]
    · rw [if_neg (fun z => q z.2.2), if_neg q]
  · rw [uZ_ne e]
    unfold rnM
    by_cases q : (c = 4 ∨ c = 6 ∨ c = 8 ∨ c = 10) ∧ c < 4 + 2 * i ∧ it (c - 1) = 2
    · rw [if_pos q, if_pos ⟨q.1, by omega, q.2.2⟩]
    · rw [if_neg q, if_neg (fun z => q ⟨z.1, by omega, z.2.2⟩)]
theorem rn_back (h : rI σ x = rnM nb it i) (h0 : 0 ≤ i) (h4 : i < 4) (hv : (σ.2.1 7 (4 * x + i) = 2 → v = nb (σ.2.1 8 (4 * x + i))) ∧ (σ.2.1 7 (4 * x + i) ≠ 2 → v = σ.2.1 8 (4 * x + i))) : rI (sA 8 (4 * x + i) v σ) x = rnM nb it (i + 1) := by
  have e1 := congrFun h (3 + 2 * i)
  have e2 := congrFun h (4 + 2 * i)
  rw [rnM_k, riK h0 h4] at e1
  rw [rnM_n (Int.le_refl i), riN h0 h4] at e2
  rw [ri_A8 h0 h4, rnM_s h0 h4, h, ← e1, ← e2]
  by_cases q : σ.2.1 7 (4 * x + i) = 2
  · rw [if_pos q, hv.1 q]
  · rw [if_neg q, hv.2 q]
theorem rnM_up (h : rI σ x = rnM nb it i) (h0 : 0 ≤ i) (h4 : i ≤ 4) (hn : ∀ j, i ≤ j → j < 4 → σ.2.1 7 (4 * x + j) ≠ 2) : rI σ x = rnM nb it 4 := by
  rw [h]
  funext c
  unfold rnM
  by_cases q : (c = 4 ∨ c = 6 ∨ c = 8 ∨ c = 10) ∧ c < 4 + 2 * i ∧ it (c - 1) = 2
  · rw [if_pos q, if_pos ⟨q.1, by omega, q.2.2⟩]
  · rw [if_neg q, if_neg (fun z => ?_)]
    have e := congrFun h (3 + 2 * ((c - 4) / 2))
    rw [rnM_k, riK (by omega) (by omega), show 3 + 2 * ((c - 4) / 2) = c - 1 by omega] at e
    by_cases w : c < 4 + 2 * i
    · exact q ⟨z.1, w, z.2.2⟩
    · exact hn ((c - 4) / 2) (by omega) (by omega) (e.trans z.2.2)
end REN
def bgR (σ : MS) (r : Int) : Int → Prop := bgV (rV σ r) (σ.2.1 9 r) (PMQ σ r)
theorem bg_of {σ σ1 τ : MS} {r : Int} (hl : LDV σ1 (rV σ r) (σ.2.1 9 r)) (h0 : 0 ≤ σ.2.1 9 r) (e11 : τ.2.1 11 = σ.2.1 11) (e18 : τ.2.1 18 = σ.2.1 18) (e59 : τ.2.1 59 = σ1.2.1 59) : ∀ g, 0 ≤ g → g < 192 → ((PMQ τ r g ∨ τ.2.1 59 g = 1) ↔ bgR σ r g) := fun g a b => by
  have q := hl 0 g (Int.le_refl 0) h0 a b
  rw [show 192 * (0 : Int) + g = g by omega] at q
  unfold bgR bgV PMQ
  rw [e11, e18, e59, q]
def SHX (σ τ : MS) (r v : Int) : Prop := ∃ nb, nbV (odV (rV σ r) (σ.2.1 9 r) (PMQ σ r)) 192 nb ∧ (∀ g, 0 ≤ g → g < 192 → 0 ≤ nb g ∧ nb g < 192) ∧ rV τ r = shV (rV σ r) (σ.2.1 9 r) nb (bgR σ r) ∧ (∀ u w, 0 ≤ u → u < σ.2.1 14 r → 0 ≤ w → w < σ.2.1 12 (σ.2.1 15 (12 * r + u)) → τ.2.1 18 (144 * r + 12 * u + w) = nb (σ.2.1 18 (144 * r + 12 * u + w))) ∧ mxV (RGB τ r) v
theorem sh_fin {σ σ5 σ6 τ : MS} {r v : Int} (hnb : nbV (odV (rV σ r) (σ.2.1 9 r) (PMQ σ r)) 192 (σ5.2.1 64)) (hnu : NUM σ5) (e9 : σ6.2.1 9 r = σ.2.1 9 r) (t9 : τ.2.1 9 r = σ.2.1 9 r) (hu : rV σ6 r = ubV (rV σ r) (σ.2.1 9 r) (σ5.2.1 64) (bgR σ r)) (e64 : σ6.2.1 64 = σ5.2.1 64) (hr : ∀ j, 0 ≤ j → j < σ6.2.1 9 r → rI τ (220 * r + j) = rnI (σ6.2.1 64) (rI σ6 (220 * r + j))) (hn : ∀ u w, 0 ≤ u → u < σ.2.1 14 r → 0 ≤ w → w < σ.2.1 12 (σ.2.1 15 (12 * r + u)) → τ.2.1 18 (144 * r + 12 * u + w) = σ5.2.1 64 (σ.2.1 18 (144 * r + 12 * u + w))) (hv : mxV (RGB τ r) v) : SHX σ τ r v := by
  refine ⟨σ5.2.1 64, hnb, hnu, ?_, hn, hv⟩
  funext j
  unfold shV
  by_cases q : 0 ≤ j ∧ j < σ.2.1 9 r
  · rw [if_pos q, rv_in q.1 (by rw [t9]; exact q.2), hr j q.1 (by rw [e9]; exact q.2), e64, ← hu, rv_in q.1 (by rw [e9]; exact q.2)]
  · rw [if_neg q]
    exact if_neg (by rw [t9]; exact q)
theorem n4_put {σ0 σ : MS} {a n1 : Int} (h0 : 0 ≤ n1) (h : ∀ z, σ.2.1 18 z = (if a ≤ z ∧ z < a + n1 then σ0.2.1 64 (σ0.2.1 18 z) else σ0.2.1 18 z)) : ∀ z, (sA 18 (a + n1) (σ0.2.1 64 (σ.2.1 18 (a + n1))) σ).2.1 18 z = (if a ≤ z ∧ z < a + (n1 + 1) then σ0.2.1 64 (σ0.2.1 18 z) else σ0.2.1 18 z) := by
  intro z
  by_cases e : z = a + n1
  · have e9 := h z
    rw [if_neg (by omega)] at e9
    rw [if_pos (by omega), ← e9, e]
    exact ra_eq
  · rw [show (sA 18 (a + n1) (σ0.2.1 64 (σ.2.1 18 (a + n1))) σ).2.1 18 z = σ.2.1 18 z from ra_ne e rfl, h z]
    by_cases y : a ≤ z ∧ z < a + n1
    · rw [if_pos y, if_pos (by omega)]
    · rw [if_neg y, if_neg (by omega)]
end
section
set_option maxHeartbeats 1000000 in
set_option maxRecDepth 20000 in
theorem f_ren2 (d : Nat) {b : Nat} {σ0 : MS} {r : Int} {F : Int} {k : Int} {it : It} {post : Option Value → MS → Prop} (hr : 0 ≤ r ∧ r < 6) (hR0 : RG σ0) (hit : ITM σ0) (hpar : PAR σ0) (hnu : NUM σ0) (hk : 0 ≤ k ∧ k < σ0.2.1 9 r) (hx_123 : ∀ (i : Int) (σ : MS) , (Fr [] [8] [] σ0 σ) → (RG σ) → (OKS σ F r) → (XO r σ0 σ) → (rI σ (220 * r + k) = rnM (σ0.2.1 64) it 4) → (OFF (220 * r + k) σ0 σ) → Tm (d + 4) m_X12_renumber 123 b σ [(4, .int (iI i)), (3, .int (iI (220 * r + k))), (2, .int (iI k)), (0, .ref b), (1, .int (iI r))] [] post) : ∀ (n : Nat) (i : Int) (σ : MS) , (Fr [] [8] [] σ0 σ) → (RG σ) → (0 ≤ i ∧ i ≤ 4) → (OKS σ F r) → (XO r σ0 σ) → (rI σ (220 * r + k) = rnM (σ0.2.1 64) it i) → (OFF (220 * r + k) σ0 σ) → (4 - i).toNat = n → Tm (d + 4) m_X12_renumber 51 b σ [(4, .int (iI i)), (3, .int (iI (220 * r + k))), (2, .int (iI k)), (0, .ref b), (1, .int (iI r))] [] post := by
  intro n
  induction n using Nat.strongRecOn with
  | _ n ih =>
    intro i σ hF hR h0 hok hxo hrn hof2 hm
    have hit1 := hit.fr hF (by decide)
    have hpar1 := hpar.fr hF (by decide)
    have hnu1 := hnu.fr hF (by decide)
    have q1 := hit r (by omega) (by omega)
    have q9 : σ.2.1 9 r = σ0.2.1 9 r := by rw [hF.2.1 9 (by decide)]
    have q7 : σ.2.1 7 = σ0.2.1 7 := hF.2.1 7 (by decide)
    refine tm_iload dX12_renumber_51 0 rfl ?_
    refine tm_aload_n dX12_renumber_53 rfl 3 rfl ?_
    refine tm_iload_n dX12_renumber_54 rfl 1 rfl ?_
    refine tm_callV (M := m_X12_renumber) (pc := 55) (ix := 199) (M' := m_X12_args) (As := [.int (iI (220 * r + k))]) (rest := [.int (iI i)]) dX12_renumber_55 ok_X12_args im_X12_args se_X12_args ml12_199 np_X12_args rfl rfl (Nat.le_of_ble_eq_true rfl) (Nat.le_of_ble_eq_true rfl) rfl (c_X12_args (d) (σ := σ) (x := 220 * r + k) (by omega) hR (hok.of (by omega) (by omega)) hpar1) (fun r1 σ2 hp => ?_)
    obtain ⟨v3, rfl, rfl, f4, f5⟩ := hp
    show Tm _ _ 58 b σ [(4, .int (iI i)), (3, .int (iI (220 * r + k))), (2, .int (iI k)), (0, .ref b), (1, .int (iI r))] [.int (iI v3), .int (iI i)] _
    refine tm_icmp_ge (tgt := 123) dX12_renumber_58 (by decide) ⟨by omega, by omega⟩ ⟨by omega, by omega⟩ (fun h6 => ?_) (fun h6 => ?_)
    · exact tm_sub [0, 1, 2, 3, 4] rfl (hx_123 (i) σ (Fr.rfl.trans (Fr.sub hF (by decide) (by decide) (by decide))) hR hok hxo (rnM_up hrn (by omega) (by omega) (fun j a b z => by have e9 := ((hok.arg (k := k) (by omega) (by omega) (i := j) (by omega) b).2 z).2; omega)) hof2)
    · have q2 := hok.arg (k := k) (by omega) (by omega) (i := i) (by omega) (by omega)
      rw [q7] at q2
      refine tm_aload_n dX12_renumber_61 rfl 3 rfl ?_
      refine tm_get (k := 8) (v := .ref (b + 1 + 6)) lay_12 dX12_renumber_62 (by decide) fl12_29 rfl ?_
      refine tm_iconst dX12_renumber_65 ?_
      refine tm_iload_n dX12_renumber_66 rfl 1 rfl ?_
      refine tm_imul dX12_renumber_67 ?_
      refine tm_iload dX12_renumber_68 0 rfl ?_
      refine tm_iadd dX12_renumber_70 ?_
      refine tm_aload_n dX12_renumber_71 rfl 3 rfl ?_
      refine tm_get (k := 7) (v := .ref (b + 1 + 5)) lay_12 dX12_renumber_72 (by decide) fl12_26 rfl ?_
      refine tm_iconst dX12_renumber_75 ?_
      refine tm_iload_n dX12_renumber_76 rfl 1 rfl ?_
      refine tm_imul dX12_renumber_77 ?_
      refine tm_iload dX12_renumber_78 0 rfl ?_
      refine tm_iadd dX12_renumber_80 ?_
      refine tm_iald (z := (4 * (220 * r + k)) + i) (v := σ0.2.1 7 ((4 * (220 * r + k)) + i)) dX12_renumber_81 (show mT[5]? = some (7, 0, 11440) from rfl) (by omega) (by omega) (by decide) (ra_F hF (by decide) (rfl)) ?_
      have g7 := RG.a hR0 7 ((4 * (220 * r + k)) + i)
      refine tm_iconst dX12_renumber_82 ?_
      refine tm_icmp_ne (tgt := 105) dX12_renumber_83 (by decide) ⟨by omega, by omega⟩ ⟨by decide, by decide⟩ (fun h8 => ?_) (fun h8 => ?_)
      · refine tm_aload_n dX12_renumber_105 rfl 3 rfl ?_
        refine tm_get (k := 8) (v := .ref (b + 1 + 6)) lay_12 dX12_renumber_106 (by decide) fl12_29 rfl ?_
        refine tm_iconst dX12_renumber_109 ?_
        refine tm_iload_n dX12_renumber_110 rfl 1 rfl ?_
        refine tm_imul dX12_renumber_111 ?_
        refine tm_iload dX12_renumber_112 0 rfl ?_
        refine tm_iadd dX12_renumber_114 ?_
        refine tm_iald (z := (4 * (220 * r + k)) + i) (v := σ.2.1 8 ((4 * (220 * r + k)) + i)) dX12_renumber_115 (show mT[6]? = some (8, 0, 11440) from rfl) (by omega) (by omega) (by decide) (rfl) ?_
        have g9 := RG.a hR 8 ((4 * (220 * r + k)) + i)
        refine tm_iast (z := (4 * (220 * r + k)) + i) (v := σ.2.1 8 ((4 * (220 * r + k)) + i)) dX12_renumber_116 (show mT[6]? = some (8, 0, 11440) from rfl) (by omega) (by omega) (by decide) ?_
        refine tm_iinc (q0 := 0) (L' := [(4, .int (iI (i + 1))), (3, .int (iI (220 * r + k))), (2, .int (iI k)), (0, .ref b), (1, .int (iI r))]) dX12_renumber_117 rfl (by decide) rfl ?_
        refine tm_goto (tgt := 51) dX12_renumber_120 (by decide) ?_
        exact tm_sub [0, 1, 2, 3, 4] rfl (ih _ (by omega) (i + 1) (sA 8 ((4 * (220 * r + k)) + i) (σ.2.1 8 ((4 * (220 * r + k)) + i)) σ) ((Fr.rfl.trans (Fr.sub hF (by decide) (by decide) (by decide))).A (by decide)) (hR.A (by omega)) (by omega) ((OFF.a8 (by omega) (by omega)).oks hok (oki_arg (hok k (by omega) (by omega)) (by omega) (by omega) (by rw [q7]; omega))) (hxo.trans ((OFF.a8 (by omega) (by omega)).xo (by omega) (by omega))) (rn_back hrn (by omega) (by omega) ⟨fun z => by have z2 := congrFun q7 (4 * (220 * r + k) + i); omega, fun z => by have z2 := congrFun q7 (4 * (220 * r + k) + i); omega⟩) (hof2.trans (OFF.a8 (by omega) (by omega))) rfl)
      · refine tm_aload_n dX12_renumber_86 rfl 3 rfl ?_
        refine tm_get (k := 64) (v := .ref (b + 1 + 41)) lay_12 dX12_renumber_87 (by decide) fl12_143 rfl ?_
        refine tm_aload_n dX12_renumber_90 rfl 3 rfl ?_
        refine tm_get (k := 8) (v := .ref (b + 1 + 6)) lay_12 dX12_renumber_91 (by decide) fl12_29 rfl ?_
        refine tm_iconst dX12_renumber_94 ?_
        refine tm_iload_n dX12_renumber_95 rfl 1 rfl ?_
        refine tm_imul dX12_renumber_96 ?_
        refine tm_iload dX12_renumber_97 0 rfl ?_
        refine tm_iadd dX12_renumber_99 ?_
        refine tm_iald (z := (4 * (220 * r + k)) + i) (v := σ.2.1 8 ((4 * (220 * r + k)) + i)) dX12_renumber_100 (show mT[6]? = some (8, 0, 11440) from rfl) (by omega) (by omega) (by decide) (rfl) ?_
        have g10 := RG.a hR 8 ((4 * (220 * r + k)) + i)
        refine tm_iald (z := σ.2.1 8 ((4 * (220 * r + k)) + i)) (v := σ0.2.1 64 (σ.2.1 8 ((4 * (220 * r + k)) + i))) dX12_renumber_101 (show mT[41]? = some (64, 0, 192) from rfl) (by omega) (by omega) (by decide) (ra_F hF (by decide) (rfl)) ?_
        have g11 := RG.a hR0 64 (σ.2.1 8 ((4 * (220 * r + k)) + i))
        have := hnu (σ.2.1 8 ((4 * (220 * r + k)) + i)) (by omega) (by omega)
        refine tm_goto (tgt := 116) dX12_renumber_102 (by decide) ?_
        refine tm_iast (z := (4 * (220 * r + k)) + i) (v := σ0.2.1 64 (σ.2.1 8 ((4 * (220 * r + k)) + i))) dX12_renumber_116 (show mT[6]? = some (8, 0, 11440) from rfl) (by omega) (by omega) (by decide) ?_
        refine tm_iinc (q0 := 0) (L' := [(4, .int (iI (i + 1))), (3, .int (iI (220 * r + k))), (2, .int (iI k)), (0, .ref b), (1, .int (iI r))]) dX12_renumber_117 rfl (by decide) rfl ?_
        refine tm_goto (tgt := 51) dX12_renumber_120 (by decide) ?_
        exact tm_sub [0, 1, 2, 3, 4] rfl (ih _ (by omega) (i + 1) (sA 8 ((4 * (220 * r + k)) + i) (σ0.2.1 64 (σ.2.1 8 ((4 * (220 * r + k)) + i))) σ) ((Fr.rfl.trans (Fr.sub hF (by decide) (by decide) (by decide))).A (by decide)) (hR.A (by omega)) (by omega) ((OFF.a8 (by omega) (by omega)).oks hok (oki_arg (hok k (by omega) (by omega)) (by omega) (by omega) (by rw [q7]; omega))) (hxo.trans ((OFF.a8 (by omega) (by omega)).xo (by omega) (by omega))) (rn_back hrn (by omega) (by omega) ⟨fun z => by have z2 := congrFun q7 (4 * (220 * r + k) + i); omega, fun z => by have z2 := congrFun q7 (4 * (220 * r + k) + i); omega⟩) (hof2.trans (OFF.a8 (by omega) (by omega))) rfl)
set_option maxHeartbeats 1000000 in
set_option maxRecDepth 20000 in
theorem f_ren1 (d : Nat) {b : Nat} {σ0 : MS} {r : Int} {F : Int} {post : Option Value → MS → Prop} (hr : 0 ≤ r ∧ r < 6) (hR0 : RG σ0) (hit : ITM σ0) (hpar : PAR σ0) (hnu : NUM σ0) (hx_129 : ∀ (k : Int) (σ : MS) , (Fr [] [4, 8] [] σ0 σ) → (RG σ) → (OKS σ F r) → (XO r σ0 σ) → (DK σ0 σ) → (∀ j, 0 ≤ j → j < σ0.2.1 9 r → rI σ (220 * r + j) = rnI (σ0.2.1 64) (rI σ0 (220 * r + j))) → Tm (d + 4) m_X12_renumber 129 b σ [(2, .int (iI k)), (0, .ref b), (1, .int (iI r))] [] post) : ∀ (n : Nat) (k : Int) (σ : MS) , (Fr [] [4, 8] [] σ0 σ) → (RG σ) → (0 ≤ k ∧ k ≤ σ0.2.1 9 r) → (OKS σ F r) → (XO r σ0 σ) → (DK σ0 σ) → (∀ j, 0 ≤ j → j < σ0.2.1 9 r → rI σ (220 * r + j) = (if j < k then rnI (σ0.2.1 64) (rI σ0 (220 * r + j)) else rI σ0 (220 * r + j))) → (220 - k).toNat = n → Tm (d + 4) m_X12_renumber 2 b σ [(2, .int (iI k)), (0, .ref b), (1, .int (iI r))] [] post := by
  intro n
  induction n using Nat.strongRecOn with
  | _ n ih =>
    intro k σ hF hR h0 hok hxo hdk hrv hm
    have hit1 := hit.fr hF (by decide)
    have hpar1 := hpar.fr hF (by decide)
    have hnu1 := hnu.fr hF (by decide)
    have q1 := hit r (by omega) (by omega)
    have q9 : σ.2.1 9 r = σ0.2.1 9 r := by rw [hF.2.1 9 (by decide)]
    have e64 : σ.2.1 64 = σ0.2.1 64 := hF.2.1 64 (by decide)
    have q3 : σ.2.1 3 = σ0.2.1 3 := hF.2.1 3 (by decide)
    refine tm_iload_n dX12_renumber_2 rfl 0 rfl ?_
    refine tm_aload_n dX12_renumber_3 rfl 1 rfl ?_
    refine tm_get (k := 9) (v := .ref (b + 1 + 7)) lay_12 dX12_renumber_4 (by decide) fl12_32 rfl ?_
    refine tm_iload_n dX12_renumber_7 rfl 2 rfl ?_
    refine tm_iald (z := r) (v := σ0.2.1 9 r) dX12_renumber_8 (show mT[7]? = some (9, 0, 13) from rfl) (by omega) (by omega) (by decide) (ra_F hF (by decide) (rfl)) ?_
    have g1 := RG.a hR0 9 (r)
    refine tm_icmp_ge (tgt := 129) dX12_renumber_9 (by decide) ⟨by omega, by omega⟩ ⟨by omega, by omega⟩ (fun h2 => ?_) (fun h2 => ?_)
    · exact tm_sub [0, 1, 2] rfl (hx_129 (k) σ (Fr.rfl.trans (Fr.sub hF (by decide) (by decide) (by decide))) hR hok hxo hdk (fun j a b => by rw [hrv j a b, if_pos (by omega)]))
    · refine tm_aload_n dX12_renumber_12 rfl 1 rfl ?_
      have hzk : rI σ (220 * r + k) = rI σ0 (220 * r + k) := by rw [hrv k (by omega) (by omega), if_neg (by omega)]
      refine tm_iload_n dX12_renumber_13 rfl 2 rfl ?_
      refine tm_iload_n dX12_renumber_14 rfl 0 rfl ?_
      refine tm_callV (M := m_X12_renumber) (pc := 15) (ix := 203) (M' := m_X12_at) (As := [.int (iI r), .int (iI k)]) (rest := []) dX12_renumber_15 ok_X12_at im_X12_at se_X12_at ml12_203 np_X12_at rfl rfl (Nat.le_of_ble_eq_true rfl) (Nat.le_of_ble_eq_true rfl) rfl (c_X12_at (d + 2) (σ := σ) (x := r) (k := k) ) (fun r3 σ4 hp => ?_)
      obtain ⟨v5, rfl, rfl, f6⟩ := hp
      subst f6
      show Tm _ _ 18 b σ [(2, .int (iI k)), (0, .ref b), (1, .int (iI r))] [.int (iI (220 * r + k))] _
      refine tm_istore_n (L' := [(3, .int (iI (220 * r + k))), (2, .int (iI k)), (0, .ref b), (1, .int (iI r))]) dX12_renumber_18 rfl (by decide) rfl ?_
      refine tm_aload_n dX12_renumber_19 rfl 2 rfl ?_
      refine tm_get (k := 3) (v := .ref (b + 1 + 1)) lay_12 dX12_renumber_20 (by decide) fl12_13 rfl ?_
      refine tm_iload_n dX12_renumber_23 rfl 0 rfl ?_
      refine tm_iald (z := 220 * r + k) (v := σ0.2.1 3 (220 * r + k)) dX12_renumber_24 (show mT[1]? = some (3, 0, 2860) from rfl) (by omega) (by omega) (by decide) (ra_F hF (by decide) (rfl)) ?_
      have g7 := RG.a hR0 3 (220 * r + k)
      refine tm_callS (M := m_X12_renumber) (pc := 25) (ix := 192) (M' := m_X12_writes) (As := [.int (iI (σ0.2.1 3 (220 * r + k)))]) (rest := []) dX12_renumber_25 ok_X12_writes stt_X12_writes ml12_192 np_X12_writes rfl (Nat.le_of_ble_eq_true rfl) (Nat.le_of_ble_eq_true rfl) rfl (c_X12_writes (d + 2) (σ := σ) (x := σ0.2.1 3 (220 * r + k)) (by omega)) (fun r8 σ9 hp => ?_)
      obtain ⟨v10, rfl, rfl, f11, f12⟩ := hp
      show Tm _ _ 28 b σ [(3, .int (iI (220 * r + k))), (2, .int (iI k)), (0, .ref b), (1, .int (iI r))] [.int (iI v10)] _
      refine tm_if_eq (tgt := 48) dX12_renumber_28 (by decide) ⟨by omega, by omega⟩ (fun h13 => ?_) (fun h13 => ?_)
      · refine tm_iconst dX12_renumber_48 ?_
        refine tm_istore (L' := [(4, .int (iI 0)), (3, .int (iI (220 * r + k))), (2, .int (iI k)), (0, .ref b), (1, .int (iI r))]) dX12_renumber_49 (by decide) rfl ?_
        refine tm_sub [0, 1, 2, 3, 4] rfl (f_ren2 (d) (σ0 := σ) (r := r) (k := k) (F := F) (it := (rnD (σ0.2.1 64) (rI σ0 (220 * r + k)))) hr hR (hit.fr (show Fr [] [4, 8] [] σ0 σ from (Fr.rfl.trans (Fr.sub hF (by decide) (by decide) (by decide)))) (by decide)) (hpar.fr (show Fr [] [4, 8] [] σ0 σ from (Fr.rfl.trans (Fr.sub hF (by decide) (by decide) (by decide)))) (by decide)) (hnu.fr (show Fr [] [4, 8] [] σ0 σ from (Fr.rfl.trans (Fr.sub hF (by decide) (by decide) (by decide)))) (by decide)) (by rw [((show Fr [] [4, 8] [] σ0 σ from (Fr.rfl.trans (Fr.sub hF (by decide) (by decide) (by decide))))).2.1 9 (by decide)]; omega) (fun i22 σ23 F16 R17 f18 f19 f20 f21 => ?_) _ (0) σ Fr.rfl hR (by omega) hok XO.rfl (by rw [rnM_0]; exact hzk.trans (dI_n (show ¬ (rI σ0 (220 * r + k) 0 ≤ 5 ∨ rI σ0 (220 * r + k) 0 = 10) from by show ¬ (σ0.2.1 3 (220 * r + k) ≤ 5 ∨ σ0.2.1 3 (220 * r + k) = 10); omega)).symm) OFF.rfl rfl)
        show Tm _ _ 123 b σ23 [(4, .int (iI i22)), (3, .int (iI (220 * r + k))), (2, .int (iI k)), (0, .ref b), (1, .int (iI r))] [] _
        refine tm_iinc (q0 := 2) (L' := [(2, .int (iI (k + 1))), (4, .int (iI i22)), (3, .int (iI (220 * r + k))), (0, .ref b), (1, .int (iI r))]) dX12_renumber_123 rfl (by decide) rfl ?_
        refine tm_goto (tgt := 2) dX12_renumber_126 (by decide) ?_
        exact tm_sub [0, 3, 4] rfl (ih _ (by omega) (k + 1) σ23 ((Fr.rfl.trans (Fr.sub hF (by decide) (by decide) (by decide))).trans (Fr.sub F16 (by decide) (by decide) (by decide))) R17 (by omega) f18 (hxo.trans f19) (hdk.t F16 (by decide)) (fun j a b => by
          by_cases z : j = k
          · rw [z, if_pos (by omega), ← rnM_4]; exact (f20).trans (by show rnM (σ.2.1 64) _ 4 = _; rw [e64])
          · rw [f21.ri (by omega), hrv j a b]
            by_cases y : j < k
            · rw [if_pos y, if_pos (by omega)]
            · rw [if_neg y, if_neg (by omega)]) rfl)
      · have q2 := hok.dest (k := k) (by omega) (by omega) (by rw [q3]; omega)
        have hokd : ∀ v, 0 ≤ v ∧ v < 192 → OKS (sA 4 (220 * r + k) v σ) F r := fun v hv => (OFF.A (by decide)).oks hok (oki_dest (hok k (by omega) (by omega)) (by rw [q3]; omega) hv)
        refine tm_aload_n dX12_renumber_31 rfl 2 rfl ?_
        refine tm_get (k := 4) (v := .ref (b + 1 + 2)) lay_12 dX12_renumber_32 (by decide) fl12_17 rfl ?_
        refine tm_iload_n dX12_renumber_35 rfl 0 rfl ?_
        refine tm_aload_n dX12_renumber_36 rfl 2 rfl ?_
        refine tm_get (k := 64) (v := .ref (b + 1 + 41)) lay_12 dX12_renumber_37 (by decide) fl12_143 rfl ?_
        refine tm_aload_n dX12_renumber_40 rfl 2 rfl ?_
        refine tm_get (k := 4) (v := .ref (b + 1 + 2)) lay_12 dX12_renumber_41 (by decide) fl12_17 rfl ?_
        refine tm_iload_n dX12_renumber_44 rfl 0 rfl ?_
        refine tm_iald (z := 220 * r + k) (v := σ.2.1 4 (220 * r + k)) dX12_renumber_45 (show mT[2]? = some (4, 0, 2860) from rfl) (by omega) (by omega) (by decide) (rfl) ?_
        have g24 := RG.a hR 4 (220 * r + k)
        refine tm_iald (z := σ.2.1 4 (220 * r + k)) (v := σ0.2.1 64 (σ.2.1 4 (220 * r + k))) dX12_renumber_46 (show mT[41]? = some (64, 0, 192) from rfl) (by omega) (by omega) (by decide) (ra_F hF (by decide) (rfl)) ?_
        have g25 := RG.a hR0 64 (σ.2.1 4 (220 * r + k))
        have := hnu (σ.2.1 4 (220 * r + k)) (by omega) (by omega)
        refine tm_iast (z := 220 * r + k) (v := σ0.2.1 64 (σ.2.1 4 (220 * r + k))) dX12_renumber_47 (show mT[2]? = some (4, 0, 2860) from rfl) (by omega) (by omega) (by decide) ?_
        refine tm_iconst dX12_renumber_48 ?_
        refine tm_istore (L' := [(4, .int (iI 0)), (3, .int (iI (220 * r + k))), (2, .int (iI k)), (0, .ref b), (1, .int (iI r))]) dX12_renumber_49 (by decide) rfl ?_
        refine tm_sub [0, 1, 2, 3, 4] rfl (f_ren2 (d) (σ0 := (sA 4 (220 * r + k) (σ0.2.1 64 (σ.2.1 4 (220 * r + k))) σ)) (r := r) (k := k) (F := F) (it := (rnD (σ0.2.1 64) (rI σ0 (220 * r + k)))) hr (hR.A (by omega)) (hit.fr (show Fr [] [4, 8] [] σ0 (sA 4 (220 * r + k) (σ0.2.1 64 (σ.2.1 4 (220 * r + k))) σ) from ((Fr.rfl.trans (Fr.sub hF (by decide) (by decide) (by decide))).A (by decide))) (by decide)) (hpar.fr (show Fr [] [4, 8] [] σ0 (sA 4 (220 * r + k) (σ0.2.1 64 (σ.2.1 4 (220 * r + k))) σ) from ((Fr.rfl.trans (Fr.sub hF (by decide) (by decide) (by decide))).A (by decide))) (by decide)) (hnu.fr (show Fr [] [4, 8] [] σ0 (sA 4 (220 * r + k) (σ0.2.1 64 (σ.2.1 4 (220 * r + k))) σ) from ((Fr.rfl.trans (Fr.sub hF (by decide) (by decide) (by decide))).A (by decide))) (by decide)) (by rw [((show Fr [] [4, 8] [] σ0 (sA 4 (220 * r + k) (σ0.2.1 64 (σ.2.1 4 (220 * r + k))) σ) from ((Fr.rfl.trans (Fr.sub hF (by decide) (by decide) (by decide))).A (by decide)))).2.1 9 (by decide)]; omega) (fun i34 σ35 F28 R29 f30 f31 f32 f33 => ?_) _ (0) (sA 4 (220 * r + k) (σ0.2.1 64 (σ.2.1 4 (220 * r + k))) σ) Fr.rfl (hR.A (by omega)) (by omega) (hokd _ (by omega)) XO.rfl (by rw [rnM_0, ri_A4, hzk, show σ.2.1 4 (220 * r + k) = σ0.2.1 4 (220 * r + k) from congrFun hzk 1]; exact (dI_y (show rI σ0 (220 * r + k) 0 ≤ 5 ∨ rI σ0 (220 * r + k) 0 = 10 from by show σ0.2.1 3 (220 * r + k) ≤ 5 ∨ σ0.2.1 3 (220 * r + k) = 10; omega)).symm) OFF.rfl rfl)
        show Tm _ _ 123 b σ35 [(4, .int (iI i34)), (3, .int (iI (220 * r + k))), (2, .int (iI k)), (0, .ref b), (1, .int (iI r))] [] _
        refine tm_iinc (q0 := 2) (L' := [(2, .int (iI (k + 1))), (4, .int (iI i34)), (3, .int (iI (220 * r + k))), (0, .ref b), (1, .int (iI r))]) dX12_renumber_123 rfl (by decide) rfl ?_
        refine tm_goto (tgt := 2) dX12_renumber_126 (by decide) ?_
        exact tm_sub [0, 3, 4] rfl (ih _ (by omega) (k + 1) σ35 (((Fr.rfl.trans (Fr.sub hF (by decide) (by decide) (by decide))).A (by decide)).trans (Fr.sub F28 (by decide) (by decide) (by decide))) R29 (by omega) f30 ((hxo.trans ((OFF.A (by decide)).xo (by omega) (by omega))).trans f31) ((hdk.put (by omega)).t F28 (by decide)) (fun j a b => by
          by_cases z : j = k
          · rw [z, if_pos (by omega), ← rnM_4]; exact (f32).trans (by show rnM (σ.2.1 64) _ 4 = _; rw [e64])
          · rw [f33.ri (by omega), OFF.ri (OFF.A (x := 220 * r + k) (by decide)) (by omega), hrv j a b]
            by_cases y : j < k
            · rw [if_pos y, if_pos (by omega)]
            · rw [if_neg y, if_neg (by omega)]) rfl)
set_option maxHeartbeats 1000000 in
set_option maxRecDepth 20000 in
theorem f_ren4 (d : Nat) {b : Nat} {σ0 : MS} {r : Int} {f : Int} {post : Option Value → MS → Prop} (hr : 0 ≤ r ∧ r < 6) (hR0 : RG σ0) (hnam : NAM σ0) (hnu : NUM σ0) (hf : 0 ≤ f ∧ f < σ0.2.1 14 r) (hx_202 : ∀ (n1 : Int) (σ : MS) , (Fr [] [18] [] σ0 σ) → (RG σ) → (OKF σ r) → (XN r σ0 σ) → (∀ z, σ.2.1 18 z = (if 144 * r + 12 * f ≤ z ∧ z < 144 * r + 12 * f + σ0.2.1 12 (σ0.2.1 15 (12 * r + f)) then σ0.2.1 64 (σ0.2.1 18 z) else σ0.2.1 18 z)) → Tm (d + 1) m_X12_renumber 202 b σ [(3, .int (iI n1)), (2, .int (iI f)), (0, .ref b), (1, .int (iI r))] [] post) : ∀ (n : Nat) (n1 : Int) (σ : MS) , (Fr [] [18] [] σ0 σ) → (RG σ) → (0 ≤ n1 ∧ n1 ≤ 12 ∧ n1 ≤ σ0.2.1 12 (σ0.2.1 15 (12 * r + f))) → (OKF σ r) → (XN r σ0 σ) → (∀ z, σ.2.1 18 z = (if 144 * r + 12 * f ≤ z ∧ z < 144 * r + 12 * f + n1 then σ0.2.1 64 (σ0.2.1 18 z) else σ0.2.1 18 z)) → (12 - n1).toNat = n → Tm (d + 1) m_X12_renumber 143 b σ [(3, .int (iI n1)), (2, .int (iI f)), (0, .ref b), (1, .int (iI r))] [] post := by
  intro n
  induction n using Nat.strongRecOn with
  | _ n ih =>
    intro n1 σ hF hR h0 hof hxn hn4 hm
    have q1 := hof.1
    have e14 : σ.2.1 14 = σ0.2.1 14 := hF.2.1 14 (by decide)
    have e15 : σ.2.1 15 = σ0.2.1 15 := hF.2.1 15 (by decide)
    have e12 : σ.2.1 12 = σ0.2.1 12 := hF.2.1 12 (by decide)
    rw [e14] at q1
    have q2 := (hof.2 f (by omega) (by rw [e14]; omega)).1
    rw [e15] at q2
    have q3 := hnam _ q2.1 q2.2
    refine tm_iload_n dX12_renumber_143 rfl 0 rfl ?_
    refine tm_aload_n dX12_renumber_144 rfl 2 rfl ?_
    refine tm_get (k := 12) (v := .ref (b + 1 + 9)) lay_12 dX12_renumber_145 (by decide) fl12_38 rfl ?_
    refine tm_aload_n dX12_renumber_148 rfl 2 rfl ?_
    refine tm_get (k := 15) (v := .ref (b + 1 + 12)) lay_12 dX12_renumber_149 (by decide) fl12_47 rfl ?_
    refine tm_bipush dX12_renumber_152 (by decide) ?_
    refine tm_iload_n dX12_renumber_154 rfl 3 rfl ?_
    refine tm_imul dX12_renumber_155 ?_
    refine tm_iload_n dX12_renumber_156 rfl 1 rfl ?_
    refine tm_iadd dX12_renumber_157 ?_
    refine tm_iald (z := (12 * r) + f) (v := σ0.2.1 15 ((12 * r) + f)) dX12_renumber_158 (show mT[12]? = some (15, 0, 72) from rfl) (by omega) (by omega) (by decide) (ra_F hF (by decide) (rfl)) ?_
    have g1 := RG.a hR0 15 ((12 * r) + f)
    refine tm_iald (z := σ0.2.1 15 ((12 * r) + f)) (v := σ0.2.1 12 (σ0.2.1 15 ((12 * r) + f))) dX12_renumber_159 (show mT[9]? = some (12, 0, 6) from rfl) (by omega) (by omega) (by decide) (ra_F hF (by decide) (rfl)) ?_
    have g2 := RG.a hR0 12 (σ0.2.1 15 ((12 * r) + f))
    refine tm_icmp_ge (tgt := 202) dX12_renumber_160 (by decide) ⟨by omega, by omega⟩ ⟨by omega, by omega⟩ (fun h3 => ?_) (fun h3 => ?_)
    · exact tm_sub [0, 1, 2, 3] rfl (hx_202 (n1) σ (Fr.rfl.trans (Fr.sub hF (by decide) (by decide) (by decide))) hR hof hxn (by rw [show σ0.2.1 12 (σ0.2.1 15 (12 * r + f)) = n1 by omega]; exact hn4))
    · have q4 := (hof.2 f (by omega) (by rw [e14]; omega)).2 n1 (by omega) (by rw [e12, e15]; omega)
      refine tm_sipush dX12_renumber_163 (by decide) ?_
      refine tm_iload_n dX12_renumber_166 rfl 3 rfl ?_
      refine tm_imul dX12_renumber_167 ?_
      refine tm_bipush dX12_renumber_168 (by decide) ?_
      refine tm_iload_n dX12_renumber_170 rfl 1 rfl ?_
      refine tm_imul dX12_renumber_171 ?_
      refine tm_iadd dX12_renumber_172 ?_
      refine tm_iload_n dX12_renumber_173 rfl 0 rfl ?_
      refine tm_iadd dX12_renumber_174 ?_
      refine tm_istore (L' := [(4, .int (iI (((144 * r) + (12 * f)) + n1))), (3, .int (iI n1)), (2, .int (iI f)), (0, .ref b), (1, .int (iI r))]) dX12_renumber_175 (by decide) rfl ?_
      refine tm_aload_n dX12_renumber_177 rfl 3 rfl ?_
      refine tm_get (k := 18) (v := .ref (b + 1 + 15)) lay_12 dX12_renumber_178 (by decide) fl12_56 rfl ?_
      refine tm_iload dX12_renumber_181 0 rfl ?_
      refine tm_aload_n dX12_renumber_183 rfl 3 rfl ?_
      refine tm_get (k := 64) (v := .ref (b + 1 + 41)) lay_12 dX12_renumber_184 (by decide) fl12_143 rfl ?_
      refine tm_aload_n dX12_renumber_187 rfl 3 rfl ?_
      refine tm_get (k := 18) (v := .ref (b + 1 + 15)) lay_12 dX12_renumber_188 (by decide) fl12_56 rfl ?_
      refine tm_iload dX12_renumber_191 0 rfl ?_
      refine tm_iald (z := ((144 * r) + (12 * f)) + n1) (v := σ.2.1 18 (((144 * r) + (12 * f)) + n1)) dX12_renumber_193 (show mT[15]? = some (18, 0, 864) from rfl) (by omega) (by omega) (by decide) (rfl) ?_
      have g4 := RG.a hR 18 (((144 * r) + (12 * f)) + n1)
      refine tm_iald (z := σ.2.1 18 (((144 * r) + (12 * f)) + n1)) (v := σ0.2.1 64 (σ.2.1 18 (((144 * r) + (12 * f)) + n1))) dX12_renumber_194 (show mT[41]? = some (64, 0, 192) from rfl) (by omega) (by omega) (by decide) (ra_F hF (by decide) (rfl)) ?_
      have g5 := RG.a hR0 64 (σ.2.1 18 (((144 * r) + (12 * f)) + n1))
      have := hnu (σ.2.1 18 (((144 * r) + (12 * f)) + n1)) (by omega) (by omega)
      refine tm_iast (z := ((144 * r) + (12 * f)) + n1) (v := σ0.2.1 64 (σ.2.1 18 (((144 * r) + (12 * f)) + n1))) dX12_renumber_195 (show mT[15]? = some (18, 0, 864) from rfl) (by omega) (by omega) (by decide) ?_
      refine tm_iinc (q0 := 1) (L' := [(3, .int (iI (n1 + 1))), (4, .int (iI (((144 * r) + (12 * f)) + n1))), (2, .int (iI f)), (0, .ref b), (1, .int (iI r))]) dX12_renumber_196 rfl (by decide) rfl ?_
      refine tm_goto (tgt := 143) dX12_renumber_199 (by decide) ?_
      exact tm_sub [0, 2, 3, 4] rfl (ih _ (by omega) (n1 + 1) (sA 18 (((144 * r) + (12 * f)) + n1) (σ0.2.1 64 (σ.2.1 18 (((144 * r) + (12 * f)) + n1))) σ) ((Fr.rfl.trans (Fr.sub hF (by decide) (by decide) (by decide))).A (by decide)) (hR.A (by omega)) (by omega) (okf_put hof (by omega)) (hxn.put (by omega)) (n4_put (by omega) hn4) rfl)
set_option maxHeartbeats 1000000 in
set_option maxRecDepth 20000 in
theorem f_ren3 (d : Nat) {b : Nat} {σ0 : MS} {r : Int} {post : Option Value → MS → Prop} (hr : 0 ≤ r ∧ r < 6) (hR0 : RG σ0) (hnam : NAM σ0) (hnu : NUM σ0) (hx_208 : ∀ (f : Int) (σ : MS) , (Fr [] [18] [] σ0 σ) → (RG σ) → (OKF σ r) → (XN r σ0 σ) → (∀ u w, 0 ≤ u → u < σ0.2.1 14 r → 0 ≤ w → w < σ0.2.1 12 (σ0.2.1 15 (12 * r + u)) → σ.2.1 18 (144 * r + 12 * u + w) = σ0.2.1 64 (σ0.2.1 18 (144 * r + 12 * u + w))) → Tm (d + 1) m_X12_renumber 208 b σ [(2, .int (iI f)), (0, .ref b), (1, .int (iI r))] [] post) : ∀ (n : Nat) (f : Int) (σ : MS) , (Fr [] [18] [] σ0 σ) → (RG σ) → (0 ≤ f ∧ f ≤ 12) → (OKF σ r) → (XN r σ0 σ) → (∀ u w, 0 ≤ u → u < 12 → 0 ≤ w → w < 12 → σ.2.1 18 (144 * r + 12 * u + w) = (if u < f ∧ w < σ0.2.1 12 (σ0.2.1 15 (12 * r + u)) then σ0.2.1 64 (σ0.2.1 18 (144 * r + 12 * u + w)) else σ0.2.1 18 (144 * r + 12 * u + w))) → (12 - f).toNat = n → Tm (d + 1) m_X12_renumber 131 b σ [(2, .int (iI f)), (0, .ref b), (1, .int (iI r))] [] post := by
  intro n
  induction n using Nat.strongRecOn with
  | _ n ih =>
    intro f σ hF hR h0 hof hxn hn3 hm
    have q1 := hof.1
    have e14 : σ.2.1 14 = σ0.2.1 14 := hF.2.1 14 (by decide)
    have e15 : σ.2.1 15 = σ0.2.1 15 := hF.2.1 15 (by decide)
    have e12 : σ.2.1 12 = σ0.2.1 12 := hF.2.1 12 (by decide)
    rw [e14] at q1
    have e64 : σ.2.1 64 = σ0.2.1 64 := hF.2.1 64 (by decide)
    refine tm_iload_n dX12_renumber_131 rfl 0 rfl ?_
    refine tm_aload_n dX12_renumber_132 rfl 1 rfl ?_
    refine tm_get (k := 14) (v := .ref (b + 1 + 11)) lay_12 dX12_renumber_133 (by decide) fl12_44 rfl ?_
    refine tm_iload_n dX12_renumber_136 rfl 2 rfl ?_
    refine tm_iald (z := r) (v := σ0.2.1 14 r) dX12_renumber_137 (show mT[11]? = some (14, 0, 6) from rfl) (by omega) (by omega) (by decide) (ra_F hF (by decide) (rfl)) ?_
    have g1 := RG.a hR0 14 (r)
    refine tm_icmp_ge (tgt := 208) dX12_renumber_138 (by decide) ⟨by omega, by omega⟩ ⟨by omega, by omega⟩ (fun h2 => ?_) (fun h2 => ?_)
    · exact tm_sub [0, 1, 2] rfl (hx_208 (f) σ (Fr.rfl.trans (Fr.sub hF (by decide) (by decide) (by decide))) hR hof hxn (fun u w a b c d => by have q4 := (hof.2 u a (by rw [e14]; omega)).1; rw [e15] at q4; have q5 := hnam _ q4.1 q4.2; rw [hn3 u w a (by omega) c (by omega), if_pos (by omega)]))
    · refine tm_iconst dX12_renumber_141 ?_
      refine tm_istore_n (L' := [(3, .int (iI 0)), (2, .int (iI f)), (0, .ref b), (1, .int (iI r))]) dX12_renumber_142 rfl (by decide) rfl ?_
      refine tm_sub [0, 1, 2, 3] rfl (f_ren4 (d) (σ0 := σ) (r := r) (f := f) hr hR (hnam.fr hF (by decide)) (hnu.fr hF (by decide)) (by rw [e14]; omega) (fun n110 σ11 F5 R6 f7 f8 f9 => ?_) _ (0) σ Fr.rfl hR (by rw [e12, e15]; have q2 := (hof.2 f (by omega) (by rw [e14]; omega)).1; rw [e15] at q2; have q3 := hnam _ q2.1 q2.2; omega) hof XN.rfl (fun z => by rw [if_neg (by omega)]) rfl)
      show Tm _ _ 202 b σ11 [(3, .int (iI n110)), (2, .int (iI f)), (0, .ref b), (1, .int (iI r))] [] _
      refine tm_iinc (q0 := 1) (L' := [(2, .int (iI (f + 1))), (3, .int (iI n110)), (0, .ref b), (1, .int (iI r))]) dX12_renumber_202 rfl (by decide) rfl ?_
      refine tm_goto (tgt := 131) dX12_renumber_205 (by decide) ?_
      exact tm_sub [0, 2, 3] rfl (ih _ (by omega) (f + 1) σ11 ((Fr.rfl.trans (Fr.sub hF (by decide) (by decide) (by decide))).trans (Fr.sub F5 (by decide) (by decide) (by decide))) R6 (by omega) f7 (fun z hz => (f8 z hz).trans (hxn z hz)) (fun u w a b c d => by
          have e9 := f9 (144 * r + 12 * u + w)
          rw [e12, e15, e64] at e9
          have q2 := (hof.2 f (by omega) (by rw [e14]; omega)).1
          rw [e15] at q2
          have q3 := hnam _ q2.1 q2.2
          rw [e9, hn3 u w a b c d]
          by_cases z : u = f
          · subst z
            by_cases y : w < σ0.2.1 12 (σ0.2.1 15 (12 * r + u))
            · rw [if_pos (by omega), if_neg (by omega), if_pos (by omega)]
            · rw [if_neg (by omega), if_neg (by omega), if_neg (by omega)]
          · rw [if_neg (by omega)]
            by_cases y : u < f ∧ w < σ0.2.1 12 (σ0.2.1 15 (12 * r + u))
            · rw [if_pos y, if_pos (by omega)]
            · rw [if_neg y, if_neg (by omega)]) rfl)
set_option maxHeartbeats 1000000 in
set_option maxRecDepth 20000 in
theorem f_X12_renumber (d : Nat) {b : Nat} {σ : MS} {r : Int} {F : Int} (hr : 0 ≤ r ∧ r < 6) (hR : RG σ) (hit : ITM σ) (hpar : PAR σ) (hnam : NAM σ) (hnu : NUM σ) (hok : OKS σ F r) (hof : OKF σ r) : Tm (d + 4) m_X12_renumber 0 b σ [(0, .ref b), (1, .int (iI r))] [] (fun ro σ2 => ro = none ∧ (Fr [] [4, 8, 18] [] σ σ2) ∧ (RG σ2) ∧ (OKS σ2 F r) ∧ (OKF σ2 r) ∧ (XO r σ σ2) ∧ (XN r σ σ2) ∧ (DK σ σ2) ∧ (∀ j, 0 ≤ j → j < σ.2.1 9 r → rI σ2 (220 * r + j) = rnI (σ.2.1 64) (rI σ (220 * r + j))) ∧ (∀ u w, 0 ≤ u → u < σ.2.1 14 r → 0 ≤ w → w < σ.2.1 12 (σ.2.1 15 (12 * r + u)) → σ2.2.1 18 (144 * r + 12 * u + w) = σ.2.1 64 (σ.2.1 18 (144 * r + 12 * u + w)))) := by
  have q1 := hit r (by omega) (by omega)
  refine tm_iconst dX12_renumber_0 ?_
  refine tm_istore_n (L' := [(2, .int (iI 0)), (0, .ref b), (1, .int (iI r))]) dX12_renumber_1 rfl (by decide) rfl ?_
  refine tm_sub [0, 1, 2] rfl (f_ren1 (d) (σ0 := σ) (r := r) (F := F) hr hR hit hpar hnu (fun k9 σ10 F3 R4 f5 f6 f7 f8 => ?_) _ (0) σ Fr.rfl hR (by omega) hok XO.rfl DK.rfl (fun j a b => by rw [if_neg (by omega)]) rfl)
  show Tm _ _ 129 b σ10 [(2, .int (iI k9)), (0, .ref b), (1, .int (iI r))] [] _
  have hok1 := f5
  have hxo1 := f6
  have hdk1 := f7
  have hrv1 := f8
  refine tm_iconst dX12_renumber_129 ?_
  refine tm_istore_n (L' := [(2, .int (iI 0)), (0, .ref b), (1, .int (iI r))]) dX12_renumber_130 rfl (by decide) rfl ?_
  refine tm_sub [0, 1, 2] rfl (f_ren3 (d + 3) (σ0 := σ10) (r := r) hr R4 (hnam.fr (show Fr [] [4, 8] [] σ σ10 from (Fr.rfl.trans (Fr.sub F3 (by decide) (by decide) (by decide)))) (by decide)) (hnu.fr (show Fr [] [4, 8] [] σ σ10 from (Fr.rfl.trans (Fr.sub F3 (by decide) (by decide) (by decide)))) (by decide)) (fun f18 σ19 F13 R14 f15 f16 f17 => ?_) _ (0) σ10 Fr.rfl R4 (by omega) (hof.fr (show Fr [] [4, 8] [] σ σ10 from (Fr.rfl.trans (Fr.sub F3 (by decide) (by decide) (by decide)))) (by decide)) XN.rfl (fun u w a b c d => by rw [if_neg (by omega)]) rfl)
  show Tm _ _ 208 b σ19 [(2, .int (iI f18)), (0, .ref b), (1, .int (iI r))] [] _
  exact tm_vret rfl dX12_renumber_208 (⟨rfl, ((Fr.rfl.trans (Fr.sub F3 (by decide) (by decide) (by decide))).trans (Fr.sub F13 (by decide) (by decide) (by decide))), R14, hok1.fr F13 (by decide), f15, hxo1.trans (XO.fr F13 (by decide)), fun z hz => (f16 z hz).trans (by rw [F3.2.1 18 (by decide)]), hdk1.t F13 (by decide), fun j a b => by rw [F13.ri (by decide)]; exact hrv1 j a b, fun u w a b c d => by have e9 := f17 u w a (by rw [F3.2.1 14 (by decide)]; exact b) c (by rw [F3.2.1 12 (by decide), F3.2.1 15 (by decide)]; exact d); rw [F3.2.1 64 (by decide), F3.2.1 18 (by decide)] at e9; exact e9⟩)
end
