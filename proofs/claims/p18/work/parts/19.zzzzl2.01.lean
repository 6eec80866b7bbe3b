section
set_option maxHeartbeats 1000000 in
set_option maxRecDepth 20000 in
theorem l_X11_beside_50u_53 (d : Nat) {T0 : CT} {σ0 : MS} {a : Nat} {c1 : Int} {c2 : Int} {c3 : Int} {c4 : Int} {c5 : Int} {c6 : Int} {B : Int} {S : Nat → Prop} {R9 : Nat} {C : Int → Nat} {Cn : Int} {post : Option Value → CT → MS → Prop} (r_c1 : -2147483648 ≤ c1 ∧ c1 ≤ 2147483647) (r_c2 : -2147483648 ≤ c2 ∧ c2 ≤ 2147483647) (r_c3 : -2147483648 ≤ c3 ∧ c3 ≤ 2147483647) (r_c4 : -2147483648 ≤ c4 ∧ c4 ≤ 2147483647) (r_c5 : -2147483648 ≤ c5 ∧ c5 ≤ 2147483647) (r_c6 : 1 ≤ c6 ∧ c6 ≤ 20000) (hw0 : WT T0 σ0) (hR9 : σ0.2.1 103 a = (R9 : Int)) (hS9 : S R9) (hO9 : OB T0 R9 7) (hCn : σ0.2.1 97 a = Cn) (h110 : 0 ≤ σ0.2.1 110 a) (hx_83 : ∀ (T : CT) (i7 : Int) (σ : MS) , (GT T0 T) → (WT T σ) → (FrC T0 [92, 93, 94, 900] σ0 σ) → (OB T a 11) → (0 ≤ i7 ∧ i7 ≤ 2147483647) → (TR σ a B) → (SEP σ a) → (BSQ S T σ a) → (QFR S T0 σ0 σ) → (RK7 σ0 σ a) → (TGK S T σ a C Cn) → (FG9 σ a i7) → (Cn ≤ i7) → Tn (d + 8) m_X11_beside 83 T σ [(0, .ref a), (1, .int (iI c1)), (2, .int (iI c2)), (3, .int (iI c3)), (4, .int (iI c4)), (5, .int (iI c5)), (6, .int (iI c6)), (7, .int (iI i7))] [] post) : ∀ (n : Nat) (T : CT) (i7 : Int) (σ : MS) , (GT T0 T) → (WT T σ) → (FrC T0 [92, 93, 94, 900] σ0 σ) → (OB T a 11) → (0 ≤ i7 ∧ i7 ≤ 2147483647) → (TR σ a B) → (SEP σ a) → (BSQ S T σ a) → (QFR S T0 σ0 σ) → (RK7 σ0 σ a) → (TGK S T σ a C Cn) → (FG9 σ a i7) → (2147483700 - i7).toNat = n → Tn (d + 8) m_X11_beside 53 T σ [(0, .ref a), (1, .int (iI c1)), (2, .int (iI c2)), (3, .int (iI c3)), (4, .int (iI c4)), (5, .int (iI c5)), (6, .int (iI c6)), (7, .int (iI i7))] [] post := by
  intro n
  induction n using Nat.strongRecOn with
  | _ n ih =>
    intro T i7 σ hG hw hF h_a r_i7 htr hsep hbq hq hrk htg hfg hm
    refine tn_iload dX11_beside_53 7 rfl ?_
    refine tn_aload_n dX11_beside_55 rfl 0 rfl ?_
    refine tn_getI (ci := 11) (i := 2) (n := 97) (t := σ.2.1 97 a) dX11_beside_56 rfl lay_11 (by decide) fl11_116 h_a rfl rfl (rfl) ?_
    have g1 : ((0 : Int) ≤ σ.2.1 97 a ∧ σ.2.1 97 a ≤ 6) := wf_97 hw h_a
    refine tn_icmp_ge (tgt := 83) dX11_beside_59 (by decide) ⟨by omega, by omega⟩ ⟨by omega, by omega⟩ (fun h2 => ?_) (fun h2 => ?_)
    · exact tn_sub [0, 1, 2, 3, 4, 5, 6, 7] rfl (hx_83 T (i7) σ hG hw (FrC.rfl.trans (FrC.sub hF (by decide))) h_a (by omega) htr hsep hbq hq hrk htg hfg (by have z7 := congrFun (hF.1 97 (Or.inl (by decide)) (by decide)) (a : Int); omega))
    · refine tn_aload_n dX11_beside_62 rfl 0 rfl ?_
      obtain ⟨xq3, hx4, hk5⟩ : ∃ x : Nat, σ.2.1 102 a = (x : Int) ∧ (T x).1 = 40 := wf_102 hw h_a
      have hk5o : OB T xq3 10 := ⟨by omega, by rw [hk5]; rfl, by omega⟩
      refine tn_getR (ci := 11) (i := 7) (n := 102) (x := xq3) dX11_beside_63 rfl lay_11 (by decide) fl11_39 h_a rfl rfl (hx4) ?_
      refine tn_iload dX11_beside_66 7 rfl ?_
      refine tn_aload_n dX11_beside_68 rfl 0 rfl ?_
      refine tn_iload dX11_beside_69 7 rfl ?_
      refine tn_callV (M := m_X11_beside) (pc := 71) (ix := 123) (ci := 11) (M' := m_X11_codeOf) (As := [.int (iI i7)]) (rest := [.int (iI i7), .ref xq3]) dX11_beside_71 ok_X11_codeOf im_X11_codeOf se_X11_codeOf ml11_123 np_X11_codeOf rfl rfl h_a rfl (Nat.le_of_ble_eq_true rfl) (Nat.le_of_ble_eq_true rfl) rfl (k_X11_codeOf_x (d + 6) (T := T) (σ := σ) (a := a) (r := i7) h_a (by omega) hw ) (fun r7 T9 σ8 gt10 hp => ?_)
      obtain ⟨v12, rfl, rfl, rfl, rv13, f11⟩ := hp
      clear gt10
      have ha9 := h_a
      rcases rv13 with rv13 | ⟨xq14, rfl, hk15⟩
      · exact absurd (htg.2.2 i7 (by omega) (by have z7 := congrFun (hF.1 97 (Or.inl (by decide)) (by decide)) (a : Int); omega)).1.1 (by have z9 := f11; unfold CDF at z9; intro y9; omega)
      · show Tn _ _ 74 T σ [(0, .ref a), (1, .int (iI c1)), (2, .int (iI c2)), (3, .int (iI c3)), (4, .int (iI c4)), (5, .int (iI c5)), (6, .int (iI c6)), (7, .int (iI i7))] (vl true (xq14 : Int) :: [.int (iI i7), .ref xq3]) _
        rw [vl_ref rfl]
        have hk15o : OB T xq14 1 := ⟨by omega, by rw [hk15]; rfl, by omega⟩
        obtain ⟨xq16, hx17, hk18, hl19⟩ : ∃ x : Nat, σ.2.1 90 xq3 = (x : Int) ∧ AR T x 1 200 200 := wf_90 hw hk5o
        have hk18i : IA T xq16 := by unfold IA; omega
        obtain ⟨xq20, hx21, hk22, hl23⟩ : ∃ x : Nat, σ.2.1 91 xq3 = (x : Int) ∧ AR T x 1 145 145 := wf_91 hw hk5o
        have hk22i : IA T xq20 := by unfold IA; omega
        obtain ⟨xq24, hx25, hk26, hl27⟩ : ∃ x : Nat, σ.2.1 89 xq3 = (x : Int) ∧ AR T x 1 6 6 := wf_89 hw hk5o
        have hk26i : IA T xq24 := by unfold IA; omega
        refine tn_callV (M := m_X11_beside) (pc := 74) (ix := 176) (ci := 10) (M' := m_X10_refresh) (As := [.int (iI i7), .ref xq14]) (rest := []) dX11_beside_74 ok_X10_refresh im_X10_refresh se_X10_refresh ml11_176 np_X10_refresh rfl rfl hk5o rfl (Nat.le_of_ble_eq_true rfl) (Nat.le_of_ble_eq_true rfl) rfl (k_X10_refresh_t (d + 2) (T := T) (σ := σ) (a := xq3) (r := i7) (c := xq14) hk5o (by omega) hk15o hk15 hw (hx17) (hx21) (hx25) (TGK.tlh htg hbq hw h_a (by have z7 := congrFun (hF.1 97 (Or.inl (by decide)) (by decide)) (a : Int); omega) hx4 (hx17) (hx21) (hx25) xq14 i7 (by omega) (by omega) (by have z9 := f11; unfold CDF at z9; omega)).1 (TGK.tlh htg hbq hw h_a (by have z7 := congrFun (hF.1 97 (Or.inl (by decide)) (by decide)) (a : Int); omega) hx4 (hx17) (hx21) (hx25) xq14 i7 (by omega) (by omega) (by have z9 := f11; unfold CDF at z9; omega)).2) (fun r28 T30 σ29 gt31 hp => ?_)
        obtain ⟨rfl, w34, F35, f32⟩ := hp
        replace h_a : OB T30 a 11 := gt31.ob h_a
        have bq36q := RFT.rfq f32
        have bq36k := BSQ.rfk hbq hw hx4 hk5o (hx17) (hx21) (hx25) (hrk.1.trans hR9) hS9 (hG.ob hO9) bq36q
        have bq36 := BSQ.rf hbq hw gt31 hx4 hk5o (hx17) (hx21) (hx25) bq36q
        have bq36t := TGK.rf htg hbq hw w34 ha9 gt31 hx4 hk5o (hx17) (hx21) (hx25) f32 (by have z9 := f11; unfold CDF at z9; have y9 := (htg.2.2 i7 (by omega) (by have z7 := congrFun (hF.1 97 (Or.inl (by decide)) (by decide)) (a : Int); omega)).1.1; omega) ⟨by omega, (by have z7 := congrFun (hF.1 97 (Or.inl (by decide)) (by decide)) (a : Int); omega)⟩
        show Tn _ _ 77 T30 σ29 [(0, .ref a), (1, .int (iI c1)), (2, .int (iI c2)), (3, .int (iI c3)), (4, .int (iI c4)), (5, .int (iI c5)), (6, .int (iI c6)), (7, .int (iI i7))] [] _
        refine tn_iinc (q0 := 7) (L' := [(7, .int (iI (i7 + 1))), (0, .ref a), (1, .int (iI c1)), (2, .int (iI c2)), (3, .int (iI c3)), (4, .int (iI c4)), (5, .int (iI c5)), (6, .int (iI c6))]) dX11_beside_77 rfl (by decide) rfl ?_
        refine tn_goto (tgt := 53) dX11_beside_80 (by decide) ?_
        exact tn_sub [1, 2, 3, 4, 5, 6, 7, 0] rfl (ih _ (by omega) T30 (i7 + 1) σ29 (GT.trans hG gt31) w34 ((FrC.rfl.trans (FrC.sub hF (by decide))).trans (FrC.sub (FrC.old F35 hG) (by decide))) h_a (by omega) (TR.frc htr F35 (by decide) (by decide)) (SEP.frc hsep F35 (by decide) (by decide) (by decide)) bq36.2 (hq.trans hG bq36.1) (hrk.trans bq36k) bq36t.1 (FG9.rf hfg hx4 (hx25) bq36.1 f32 bq36t.2.2) rfl)
set_option maxHeartbeats 1000000 in
set_option maxRecDepth 20000 in
theorem k_X11_beside_50u (d : Nat) {T : CT} {σ : MS} {a : Nat} {r : Int} {p : Int} {q : Int} {s : Int} {t : Int} {n : Int} {B : Int} {S : Nat → Prop} {R9 : Nat} {C : Int → Nat} {Cn : Int} (ha : OB T a 11) (h_r : -2147483648 ≤ r ∧ r ≤ 2147483647) (h_p : -2147483648 ≤ p ∧ p ≤ 2147483647) (h_q : -2147483648 ≤ q ∧ q ≤ 2147483647) (h_s : -2147483648 ≤ s ∧ s ≤ 2147483647) (h_t : -2147483648 ≤ t ∧ t ≤ 2147483647) (h_n : -2147483648 ≤ n ∧ n ≤ 2147483647) (hw : WT T σ) (h110 : 0 ≤ σ.2.1 110 a) (hn : 1 ≤ n ∧ n ≤ 20000) (htr : TR σ a B) (hsep : SEP σ a) (hQ : BSQ S T σ a) (hR9 : σ.2.1 103 a = (R9 : Int)) (hS9 : S R9) (hT : TGK S T σ a C Cn) (hCn : σ.2.1 97 a = Cn) : Tn (d + 8) m_X11_beside 50 T σ [(0, .ref a), (1, .int (iI r)), (2, .int (iI p)), (3, .int (iI q)), (4, .int (iI s)), (5, .int (iI t)), (6, .int (iI n))] [] (fun ro T2 σ2 => ∃ v : Int, ro = some (.int (iI v)) ∧ WT T2 σ2 ∧ FrC T [2, 3, 4, 55, 56, 57, 58, 59, 60, 61, 62, 63, 64, 65, 66, 67, 68, 69, 70, 71, 92, 93, 94, 515, 900] σ σ2 ∧ (-2147483648 ≤ v ∧ v ≤ 2147483647) ∧ (TR σ2 a B) ∧ (SEP σ2 a) ∧ (σ2.2.1 96 a = σ.2.1 96 a) ∧ (RK7 σ σ2 a) ∧ (QFR S T σ σ2) ∧ (BSQ S T2 σ2 a) ∧ (GT T T2) ∧ (TGK S T2 σ2 a C Cn) ∧ (BSU9 S T T2 σ a C Cn r p q s t n v)) := by
  have hO9 : OB T R9 7 := by have z9 := ob_of (wf_103 hw ha) hR9; exact ⟨by omega, by rw [z9]; rfl, by omega⟩
  refine tn_iconst dX11_beside_50 ?_
  refine tn_istore (L' := [(7, .int (iI 0)), (0, .ref a), (1, .int (iI r)), (2, .int (iI p)), (3, .int (iI q)), (4, .int (iI s)), (5, .int (iI t)), (6, .int (iI n))]) dX11_beside_51 (by decide) rfl ?_
  refine tn_sub [1, 2, 3, 4, 5, 6, 7, 0] rfl (l_X11_beside_50u_53 (d) (σ0 := σ) (T0 := T) (a := a) (c1 := r) (c2 := p) (c3 := q) (c4 := s) (c5 := t) (c6 := n) (B := B) (S := S) (R9 := R9) (C := C) (Cn := Cn) (by omega) (by omega) (by omega) (by omega) (by omega) (by omega) hw hR9 hS9 hO9 hCn (by omega) (fun T3 i71 σ2 gt4 w5 F6 q7 r8 f9 f10 f11 f12 f13 f14 f15 f16 => ?_) _ T (0) σ GT.rfl hw FrC.rfl ha (by omega) htr hsep hQ QFR.rf RK7.rf hT FG9.z rfl)
  show Tn _ _ 83 T3 σ2 [(0, .ref a), (1, .int (iI r)), (2, .int (iI p)), (3, .int (iI q)), (4, .int (iI s)), (5, .int (iI t)), (6, .int (iI n)), (7, .int (iI i71))] [] _
  refine tn_aload_n dX11_beside_83 rfl 0 rfl ?_
  have nn24 : 0 ≤ σ2.2.1 110 a := (by rw [show σ2.2.1 110 a = σ.2.1 110 a from rc_F F6 (Or.inl (by decide)) (by decide) (rfl)]; omega)
  obtain ⟨xq21, hx22, hk23⟩ := (wf_110 w5 q7).resolve_left (by omega)
  have hk23o : OB T3 xq21 0 := ⟨by omega, by rw [hk23]; rfl, by omega⟩
  refine tn_getR (ci := 11) (i := 15) (n := 110) (x := xq21) dX11_beside_84 rfl lay_11 (by decide) fl11_258 q7 rfl rfl (hx22) ?_
  obtain ⟨xq25, hx26, hk27⟩ : ∃ x : Nat, σ2.2.1 0 xq21 = (x : Int) ∧ (T3 x).1 = 37 := wf_0 w5 hk23o
  have hk27o : OB T3 xq25 7 := ⟨by omega, by rw [hk27]; rfl, by omega⟩
  refine tn_getR (ci := 0) (i := 0) (n := 0) (x := xq25) dX11_beside_87 rfl lay_0 (by decide) fl11_267 hk23o rfl rfl (hx26) ?_
  refine tn_iload_n dX11_beside_90 rfl 1 rfl ?_
  refine tn_iload_n dX11_beside_91 rfl 2 rfl ?_
  refine tn_iload_n dX11_beside_92 rfl 3 rfl ?_
  refine tn_iload dX11_beside_93 4 rfl ?_
  refine tn_iload dX11_beside_95 5 rfl ?_
  obtain ⟨xq29, hx30, hk31, hl32⟩ : ∃ x : Nat, σ2.2.1 59 xq25 = (x : Int) ∧ AR T3 x 15 9 9 := wf_59 w5 hk27o
  have hk31i : IA T3 xq29 := by unfold IA; omega
  obtain ⟨xq33, hx34, hk35, hl36⟩ : ∃ x : Nat, σ2.2.1 60 xq25 = (x : Int) ∧ AR T3 x 1 9 9 := wf_60 w5 hk27o
  have hk35i : IA T3 xq33 := by unfold IA; omega
  obtain ⟨xq37, hx38, hl40, hk39a, hk39b⟩ := wf_61 w5 hk27o
  have hk39 : (T3 xq37).1 = 1 := hk39b (by omega)
  clear hk39a hk39b
  have hk39i : IA T3 xq37 := by unfold IA; omega
  obtain ⟨xq41, hx42, hk43, hl44⟩ : ∃ x : Nat, σ2.2.1 62 xq25 = (x : Int) ∧ AR T3 x 1 108 108 := wf_62 w5 hk27o
  have hk43i : IA T3 xq41 := by unfold IA; omega
  obtain ⟨xq45, hx46, hk47, hl48⟩ : ∃ x : Nat, σ2.2.1 63 xq25 = (x : Int) ∧ AR T3 x 1 1728 1728 := wf_63 w5 hk27o
  have hk47i : IA T3 xq45 := by unfold IA; omega
  obtain ⟨xq49, hx50, hk51, hl52⟩ : ∃ x : Nat, σ2.2.1 64 xq25 = (x : Int) ∧ AR T3 x 1 200 200 := wf_64 w5 hk27o
  have hk51i : IA T3 xq49 := by unfold IA; omega
  obtain ⟨xq53, hx54, hl56, hk55a, hk55b⟩ := wf_55 w5 hk27o
  have hk55i : (T3 xq53).1 = 4 ∨ (T3 xq53).1 = 5 := by omega
  have hk55c : RROW T3 xq25 xq53 := ⟨hk55a, hk55b⟩
  clear hk55a hk55b
  refine tn_callV (M := m_X11_beside) (pc := 97) (ix := 204) (ci := 7) (M' := m_X7_begin) (As := [.int (iI r), .int (iI p), .int (iI q), .int (iI s), .int (iI t)]) (rest := []) dX11_beside_97 ok_X7_begin im_X7_begin se_X7_begin ml11_204 np_X7_begin rfl rfl hk27o rfl (Nat.le_of_ble_eq_true rfl) (Nat.le_of_ble_eq_true rfl) rfl (k_X7_begin_j (d + 3) (T := T3) (σ := σ2) (a := xq25) (p1 := r) (p2 := p) (p3 := q) (p4 := s) (p5 := t) (xa := xq29) (xb := xq33) (xc := xq37) (xd := xq41) (xe := xq45) (xf := xq49) (y := xq53) hk27o hk27 (by omega) (by omega) (by omega) (by omega) (by omega) w5 (hx30) (hx34) (hx38) (hx42) (hx46) (hx50) (hx54)) (fun r57 T59 σ58 gt60 hp => ?_)
  obtain ⟨rfl, rfl, w66, F67, f61, f62, f63, f64⟩ := hp
  clear gt60
  obtain ⟨xq69, hx70, hk71⟩ : ∃ x : Nat, σ2.2.1 103 a = (x : Int) ∧ (T3 x).1 = 37 := wf_103 w5 q7
  have hk71o : OB T3 xq69 7 := ⟨by omega, by rw [hk71]; rfl, by omega⟩
  obtain ⟨xq73, hx74, hk75⟩ : ∃ x : Nat, σ2.2.1 1 xq21 = (x : Int) ∧ (T3 x).1 = 57 := wf_1 w5 hk23o
  have hk75o : OB T3 xq73 7 := ⟨by omega, by rw [hk75]; rfl, by omega⟩
  have ne77 : xq69 ≠ xq25 := fun e => f10 xq21 ((hx22)) (by rw [show σ2.2.1 0 xq21 = _ from (hx26), show σ2.2.1 103 a = _ from (hx70), e])
  have tr68 : TR σ58 a B := TR.fa f9 f64 (fun t9 q9 => by have w9 : t9 = xq69 := by { have w8 := (hx70); omega }; rw [w9]; exact ne77) (rc_F F67 (Or.inl (by decide)) (by decide) rfl)
  have tr68s : SEP σ58 a := SEP.frc f10 F67 (by decide) (by decide) (by decide)
  have bq78 := BSQ.run f11 w5 (RN6.mk (by have z9 := (f11.2.2.2 xq21 (hx22)).1; rw [adN_of (hx26)] at z9; exact z9) hk27o ((hx30)) ((hx34)) ((hx38)) ((hx42)) ((hx46)) ((hx50))) f61
  have bq78k := BSQ.runk f11 (RN6.mk (by have z9 := (f11.2.2.2 xq21 (hx22)).1; rw [adN_of (hx26)] at z9; exact z9) hk27o ((hx30)) ((hx34)) ((hx38)) ((hx42)) ((hx46)) ((hx50))) (f13.1.trans hR9) hS9 (gt4.ob hO9) (fun e9 => ne77 (by have z8 := f13.1.trans hR9; have z9 := (hx70); omega)) f61
  have bt79 := TGK.run f14 f11 w5 q7 (RN6.mk (by have z9 := (f11.2.2.2 xq21 (hx22)).1; rw [adN_of (hx26)] at z9; exact z9) hk27o ((hx30)) ((hx34)) ((hx38)) ((hx42)) ((hx46)) ((hx50))) f61
  show Tn _ _ 100 T3 σ58 [(0, .ref a), (1, .int (iI r)), (2, .int (iI p)), (3, .int (iI q)), (4, .int (iI s)), (5, .int (iI t)), (6, .int (iI n)), (7, .int (iI i71))] [] _
  refine tn_aload_n dX11_beside_100 rfl 0 rfl ?_
  refine tn_getR (ci := 11) (i := 15) (n := 110) (x := xq21) dX11_beside_101 rfl lay_11 (by decide) fl11_258 q7 rfl rfl (rc_F F67 (Or.inl (by decide)) (by decide) (hx22)) ?_
  refine tn_getR (ci := 0) (i := 1) (n := 1) (x := xq73) dX11_beside_104 rfl lay_0 (by decide) fl11_270 hk23o rfl rfl (rc_F F67 (Or.inl (by decide)) (by decide) (hx74)) ?_
  refine tn_iload_n dX11_beside_107 rfl 1 rfl ?_
  refine tn_iload_n dX11_beside_108 rfl 2 rfl ?_
  refine tn_iload_n dX11_beside_109 rfl 3 rfl ?_
  refine tn_iload dX11_beside_110 4 rfl ?_
  refine tn_iload dX11_beside_112 5 rfl ?_
  obtain ⟨xq80, hx81, hk82, hl83⟩ : ∃ x : Nat, σ2.2.1 59 xq73 = (x : Int) ∧ AR T3 x 15 9 9 := wf_59 w5 hk75o
  have hk82i : IA T3 xq80 := by unfold IA; omega
  obtain ⟨xq84, hx85, hk86, hl87⟩ : ∃ x : Nat, σ2.2.1 60 xq73 = (x : Int) ∧ AR T3 x 1 9 9 := wf_60 w5 hk75o
  have hk86i : IA T3 xq84 := by unfold IA; omega
  obtain ⟨xq88, hx89, hl91, hk90a, hk90b⟩ := wf_61 w5 hk75o
  have hk90 : (T3 xq88).1 = 14 := hk90a (by omega)
  clear hk90a hk90b
  have hk90i : IA T3 xq88 := by unfold IA; omega
  obtain ⟨xq92, hx93, hk94, hl95⟩ : ∃ x : Nat, σ2.2.1 62 xq73 = (x : Int) ∧ AR T3 x 1 108 108 := wf_62 w5 hk75o
  have hk94i : IA T3 xq92 := by unfold IA; omega
  obtain ⟨xq96, hx97, hk98, hl99⟩ : ∃ x : Nat, σ2.2.1 63 xq73 = (x : Int) ∧ AR T3 x 1 1728 1728 := wf_63 w5 hk75o
  have hk98i : IA T3 xq96 := by unfold IA; omega
  obtain ⟨xq100, hx101, hk102, hl103⟩ : ∃ x : Nat, σ2.2.1 64 xq73 = (x : Int) ∧ AR T3 x 1 200 200 := wf_64 w5 hk75o
  have hk102i : IA T3 xq100 := by unfold IA; omega
  obtain ⟨xq104, hx105, hl107, hk106a, hk106b⟩ := wf_55 w5 hk75o
  have hk106i : (T3 xq104).1 = 4 ∨ (T3 xq104).1 = 5 := by omega
  have hk106c : RROW T3 xq73 xq104 := ⟨hk106a, hk106b⟩
  clear hk106a hk106b
  refine tn_callV (M := m_X11_beside) (pc := 114) (ix := 204) (ci := 7) (M' := m_X7_begin) (As := [.int (iI r), .int (iI p), .int (iI q), .int (iI s), .int (iI t)]) (rest := []) dX11_beside_114 ok_X7_begin im_X7_begin se_X7_begin ml11_204 np_X7_begin rfl rfl hk75o rfl (Nat.le_of_ble_eq_true rfl) (Nat.le_of_ble_eq_true rfl) rfl (k_X7_begin_j57 (d + 3) (T := T3) (σ := σ58) (a := xq73) (p1 := r) (p2 := p) (p3 := q) (p4 := s) (p5 := t) (xa := xq80) (xb := xq84) (xc := xq88) (xd := xq92) (xe := xq96) (xf := xq100) (y := xq104) hk75o hk75 (by omega) (by omega) (by omega) (by omega) (by omega) w66 (rc_F F67 (Or.inl (by decide)) (by decide) (hx81)) (rc_F F67 (Or.inl (by decide)) (by decide) (hx85)) (rc_F F67 (Or.inl (by decide)) (by decide) (hx89)) (rc_F F67 (Or.inl (by decide)) (by decide) (hx93)) (rc_F F67 (Or.inl (by decide)) (by decide) (hx97)) (rc_F F67 (Or.inl (by decide)) (by decide) (hx101)) (rc_F F67 (Or.inl (by decide)) (by decide) (hx105))) (fun r108 T110 σ109 gt111 hp => ?_)
  obtain ⟨rfl, rfl, w119, F120, f112, f113, f114, f115, f116, f117⟩ := hp
  clear gt111
  have ne122 : xq69 ≠ xq73 := fun e => by rw [e] at hk71; omega
  have ne122t : σ109.2.1 57 xq25 = σ58.2.1 57 xq25 := f117 57 xq25 (by decide) (fun e => by rw [e] at hk27; omega)
  have tr121 : TR σ109 a B := TR.fa tr68 f117 (fun t9 q9 => by have w9 : t9 = xq69 := by { have w8 := (rc_F F67 (Or.inl (by decide)) (by decide) (hx70)); omega }; rw [w9]; exact ne122) (rc_F F120 (Or.inl (by decide)) (by decide) rfl)
  have tr121s : SEP σ109 a := SEP.frc tr68s F120 (by decide) (by decide) (by decide)
  have bq123 := BSQ.run bq78.2 w66 (RN6.mk (by have z9 := (bq78.2.2.2.2 xq21 (rc_F F67 (Or.inl (by decide)) (by decide) (hx22))).2; rw [adN_of (rc_F F67 (Or.inl (by decide)) (by decide) (hx74))] at z9; exact z9) hk75o ((rc_F F67 (Or.inl (by decide)) (by decide) (hx81))) ((rc_F F67 (Or.inl (by decide)) (by decide) (hx85))) ((rc_F F67 (Or.inl (by decide)) (by decide) (hx89))) ((rc_F F67 (Or.inl (by decide)) (by decide) (hx93))) ((rc_F F67 (Or.inl (by decide)) (by decide) (hx97))) ((rc_F F67 (Or.inl (by decide)) (by decide) (hx101)))) f112
  have bq123k := BSQ.runk bq78.2 (RN6.mk (by have z9 := (bq78.2.2.2.2 xq21 (rc_F F67 (Or.inl (by decide)) (by decide) (hx22))).2; rw [adN_of (rc_F F67 (Or.inl (by decide)) (by decide) (hx74))] at z9; exact z9) hk75o ((rc_F F67 (Or.inl (by decide)) (by decide) (hx81))) ((rc_F F67 (Or.inl (by decide)) (by decide) (hx85))) ((rc_F F67 (Or.inl (by decide)) (by decide) (hx89))) ((rc_F F67 (Or.inl (by decide)) (by decide) (hx93))) ((rc_F F67 (Or.inl (by decide)) (by decide) (hx97))) ((rc_F F67 (Or.inl (by decide)) (by decide) (hx101)))) ((f13.trans bq78k).1.trans hR9) hS9 (gt4.ob hO9) (fun e9 => ne122 (by have z8 := (f13.trans bq78k).1.trans hR9; have z9 := (rc_F F67 (Or.inl (by decide)) (by decide) (hx70)); omega)) f112
  have bt124 := TGK.run bt79 bq78.2 w66 q7 (RN6.mk (by have z9 := (bq78.2.2.2.2 xq21 (rc_F F67 (Or.inl (by decide)) (by decide) (hx22))).2; rw [adN_of (rc_F F67 (Or.inl (by decide)) (by decide) (hx74))] at z9; exact z9) hk75o ((rc_F F67 (Or.inl (by decide)) (by decide) (hx81))) ((rc_F F67 (Or.inl (by decide)) (by decide) (hx85))) ((rc_F F67 (Or.inl (by decide)) (by decide) (hx89))) ((rc_F F67 (Or.inl (by decide)) (by decide) (hx93))) ((rc_F F67 (Or.inl (by decide)) (by decide) (hx97))) ((rc_F F67 (Or.inl (by decide)) (by decide) (hx101)))) f112
  show Tn _ _ 117 T3 σ109 [(0, .ref a), (1, .int (iI r)), (2, .int (iI p)), (3, .int (iI q)), (4, .int (iI s)), (5, .int (iI t)), (6, .int (iI n)), (7, .int (iI i71))] [] _
  refine tn_aload_n dX11_beside_117 rfl 0 rfl ?_
  refine tn_getR (ci := 11) (i := 15) (n := 110) (x := xq21) dX11_beside_118 rfl lay_11 (by decide) fl11_258 q7 rfl rfl (rc_F F120 (Or.inl (by decide)) (by decide) (rc_F F67 (Or.inl (by decide)) (by decide) (hx22))) ?_
  refine tn_aload_n dX11_beside_121 rfl 0 rfl ?_
  obtain ⟨xq125, hx126, hk127⟩ : ∃ x : Nat, σ2.2.1 102 a = (x : Int) ∧ (T3 x).1 = 40 := wf_102 w5 q7
  have hk127o : OB T3 xq125 10 := ⟨by omega, by rw [hk127]; rfl, by omega⟩
  refine tn_getR (ci := 11) (i := 7) (n := 102) (x := xq125) dX11_beside_122 rfl lay_11 (by decide) fl11_39 q7 rfl rfl (rc_F F120 (Or.inl (by decide)) (by decide) (rc_F F67 (Or.inl (by decide)) (by decide) (hx126))) ?_
  refine tn_iload dX11_beside_125 6 rfl ?_
  refine tn_callV (M := m_X11_beside) (pc := 127) (ix := 273) (ci := 0) (M' := m_X0_together) (As := [.ref xq125, .int (iI n)]) (rest := []) dX11_beside_127 ok_X0_together im_X0_together se_X0_together ml11_273 np_X0_together rfl rfl hk23o rfl (Nat.le_of_ble_eq_true rfl) (Nat.le_of_ble_eq_true rfl) rfl (k_X0_together_jf (d) (T := T3) (σ := σ109) (a := xq21) (t := xq125) (n := n) (to := xq25) (pl := xq73) (txa := xq29) (txb := xq33) (txc := xq37) (txd := xq41) (txe := xq45) (txf := xq49) (pxa := xq80) (pxb := xq84) (pxc := xq88) (pxd := xq92) (pxe := xq96) (pxf := xq100) (y := xq53) (yy := xq104) hk23o hk127o (by omega) w119 (rc_F F120 (Or.inl (by decide)) (by decide) (rc_F F67 (Or.inl (by decide)) (by decide) (hx26))) (rc_F F120 (Or.inl (by decide)) (by decide) (rc_F F67 (Or.inl (by decide)) (by decide) (hx74))) (rc_F F120 (Or.inl (by decide)) (by decide) (rc_F F67 (Or.inl (by decide)) (by decide) (hx30))) (rc_F F120 (Or.inl (by decide)) (by decide) (rc_F F67 (Or.inl (by decide)) (by decide) (hx34))) (rc_F F120 (Or.inl (by decide)) (by decide) (rc_F F67 (Or.inl (by decide)) (by decide) (hx38))) (rc_F F120 (Or.inl (by decide)) (by decide) (rc_F F67 (Or.inl (by decide)) (by decide) (hx42))) (rc_F F120 (Or.inl (by decide)) (by decide) (rc_F F67 (Or.inl (by decide)) (by decide) (hx46))) (rc_F F120 (Or.inl (by decide)) (by decide) (rc_F F67 (Or.inl (by decide)) (by decide) (hx50))) (rc_F F120 (Or.inl (by decide)) (by decide) (rc_F F67 (Or.inl (by decide)) (by decide) (hx81))) (rc_F F120 (Or.inl (by decide)) (by decide) (rc_F F67 (Or.inl (by decide)) (by decide) (hx85))) (rc_F F120 (Or.inl (by decide)) (by decide) (rc_F F67 (Or.inl (by decide)) (by decide) (hx89))) (rc_F F120 (Or.inl (by decide)) (by decide) (rc_F F67 (Or.inl (by decide)) (by decide) (hx93))) (rc_F F120 (Or.inl (by decide)) (by decide) (rc_F F67 (Or.inl (by decide)) (by decide) (hx97))) (rc_F F120 (Or.inl (by decide)) (by decide) (rc_F F67 (Or.inl (by decide)) (by decide) (hx101))) (rc_F F120 (Or.inl (by decide)) (by decide) (rc_F F67 (Or.inl (by decide)) (by decide) (hx54))) (rc_F F120 (Or.inl (by decide)) (by decide) (rc_F F67 (Or.inl (by decide)) (by decide) (hx105))) (by omega) (TB.of (rc_F F120 (Or.inl (by decide)) (by decide) (rc_F F67 (Or.inl (by decide)) (by decide) (hx26))) (by omega)) (PB.of (rc_F F120 (Or.inl (by decide)) (by decide) (rc_F F67 (Or.inl (by decide)) (by decide) (hx74))) (by unfold PIv; omega))) (fun r129 T131 σ130 gt132 hp => ?_)
  obtain ⟨v137, rfl, rfl, w138, F139, f133, f134, f135, f136⟩ := hp
  clear gt132
  have tr140 : TR σ130 a B := TR.f57 tr121 f135 (rc_F F120 (Or.inl (by decide)) (by decide) (rc_F F67 (Or.inl (by decide)) (by decide) (hx26))) (rc_F F120 (Or.inl (by decide)) (by decide) (rc_F F67 (Or.inl (by decide)) (by decide) (hx74))) (fun t9 q9 => by have w9 : t9 = xq69 := by { have w8 := (rc_F F120 (Or.inl (by decide)) (by decide) (rc_F F67 (Or.inl (by decide)) (by decide) (hx70))); omega }; rw [w9]; exact ⟨ne77, ne122⟩) (rc_F F139 (Or.inl (by decide)) (by decide) rfl)
  have tr140s : SEP σ130 a := SEP.frc tr121s F139 (by decide) (by decide) (by decide)
  have bq141 := BSQ.two bq123.2 w119 (RN6.mk (by have z9 := (bq123.2.2.2.2 xq21 (rc_F F120 (Or.inl (by decide)) (by decide) (rc_F F67 (Or.inl (by decide)) (by decide) (hx22)))).1; rw [adN_of (rc_F F120 (Or.inl (by decide)) (by decide) (rc_F F67 (Or.inl (by decide)) (by decide) (hx26)))] at z9; exact z9) hk27o ((rc_F F120 (Or.inl (by decide)) (by decide) (rc_F F67 (Or.inl (by decide)) (by decide) (hx30)))) ((rc_F F120 (Or.inl (by decide)) (by decide) (rc_F F67 (Or.inl (by decide)) (by decide) (hx34)))) ((rc_F F120 (Or.inl (by decide)) (by decide) (rc_F F67 (Or.inl (by decide)) (by decide) (hx38)))) ((rc_F F120 (Or.inl (by decide)) (by decide) (rc_F F67 (Or.inl (by decide)) (by decide) (hx42)))) ((rc_F F120 (Or.inl (by decide)) (by decide) (rc_F F67 (Or.inl (by decide)) (by decide) (hx46)))) ((rc_F F120 (Or.inl (by decide)) (by decide) (rc_F F67 (Or.inl (by decide)) (by decide) (hx50))))) (RN6.mk (by have z9 := (bq123.2.2.2.2 xq21 (rc_F F120 (Or.inl (by decide)) (by decide) (rc_F F67 (Or.inl (by decide)) (by decide) (hx22)))).2; rw [adN_of (rc_F F120 (Or.inl (by decide)) (by decide) (rc_F F67 (Or.inl (by decide)) (by decide) (hx74)))] at z9; exact z9) hk75o ((rc_F F120 (Or.inl (by decide)) (by decide) (rc_F F67 (Or.inl (by decide)) (by decide) (hx81)))) ((rc_F F120 (Or.inl (by decide)) (by decide) (rc_F F67 (Or.inl (by decide)) (by decide) (hx85)))) ((rc_F F120 (Or.inl (by decide)) (by decide) (rc_F F67 (Or.inl (by decide)) (by decide) (hx89)))) ((rc_F F120 (Or.inl (by decide)) (by decide) (rc_F F67 (Or.inl (by decide)) (by decide) (hx93)))) ((rc_F F120 (Or.inl (by decide)) (by decide) (rc_F F67 (Or.inl (by decide)) (by decide) (hx97)))) ((rc_F F120 (Or.inl (by decide)) (by decide) (rc_F F67 (Or.inl (by decide)) (by decide) (hx101))))) f134
  have bq141k := BSQ.twok bq123.2 (RN6.mk (by have z9 := (bq123.2.2.2.2 xq21 (rc_F F120 (Or.inl (by decide)) (by decide) (rc_F F67 (Or.inl (by decide)) (by decide) (hx22)))).1; rw [adN_of (rc_F F120 (Or.inl (by decide)) (by decide) (rc_F F67 (Or.inl (by decide)) (by decide) (hx26)))] at z9; exact z9) hk27o ((rc_F F120 (Or.inl (by decide)) (by decide) (rc_F F67 (Or.inl (by decide)) (by decide) (hx30)))) ((rc_F F120 (Or.inl (by decide)) (by decide) (rc_F F67 (Or.inl (by decide)) (by decide) (hx34)))) ((rc_F F120 (Or.inl (by decide)) (by decide) (rc_F F67 (Or.inl (by decide)) (by decide) (hx38)))) ((rc_F F120 (Or.inl (by decide)) (by decide) (rc_F F67 (Or.inl (by decide)) (by decide) (hx42)))) ((rc_F F120 (Or.inl (by decide)) (by decide) (rc_F F67 (Or.inl (by decide)) (by decide) (hx46)))) ((rc_F F120 (Or.inl (by decide)) (by decide) (rc_F F67 (Or.inl (by decide)) (by decide) (hx50))))) (RN6.mk (by have z9 := (bq123.2.2.2.2 xq21 (rc_F F120 (Or.inl (by decide)) (by decide) (rc_F F67 (Or.inl (by decide)) (by decide) (hx22)))).2; rw [adN_of (rc_F F120 (Or.inl (by decide)) (by decide) (rc_F F67 (Or.inl (by decide)) (by decide) (hx74)))] at z9; exact z9) hk75o ((rc_F F120 (Or.inl (by decide)) (by decide) (rc_F F67 (Or.inl (by decide)) (by decide) (hx81)))) ((rc_F F120 (Or.inl (by decide)) (by decide) (rc_F F67 (Or.inl (by decide)) (by decide) (hx85)))) ((rc_F F120 (Or.inl (by decide)) (by decide) (rc_F F67 (Or.inl (by decide)) (by decide) (hx89)))) ((rc_F F120 (Or.inl (by decide)) (by decide) (rc_F F67 (Or.inl (by decide)) (by decide) (hx93)))) ((rc_F F120 (Or.inl (by decide)) (by decide) (rc_F F67 (Or.inl (by decide)) (by decide) (hx97)))) ((rc_F F120 (Or.inl (by decide)) (by decide) (rc_F F67 (Or.inl (by decide)) (by decide) (hx101))))) (((f13.trans bq78k).trans bq123k).1.trans hR9) hS9 (gt4.ob hO9) (fun e9 => ne77 (by have z8 := ((f13.trans bq78k).trans bq123k).1.trans hR9; have z9 := (rc_F F120 (Or.inl (by decide)) (by decide) (rc_F F67 (Or.inl (by decide)) (by decide) (hx70))); omega)) (fun e9 => ne122 (by have z8 := ((f13.trans bq78k).trans bq123k).1.trans hR9; have z9 := (rc_F F120 (Or.inl (by decide)) (by decide) (rc_F F67 (Or.inl (by decide)) (by decide) (hx70))); omega)) (fun e9 => by have z9 := (gt4.ob hO9).2.1; have z8 := hk23o.2.1; rw [e9] at z9; omega) f134
  have bt142 := TGK.two bt124 bq123.2 w119 q7 (RN6.mk (by have z9 := (bq123.2.2.2.2 xq21 (rc_F F120 (Or.inl (by decide)) (by decide) (rc_F F67 (Or.inl (by decide)) (by decide) (hx22)))).1; rw [adN_of (rc_F F120 (Or.inl (by decide)) (by decide) (rc_F F67 (Or.inl (by decide)) (by decide) (hx26)))] at z9; exact z9) hk27o ((rc_F F120 (Or.inl (by decide)) (by decide) (rc_F F67 (Or.inl (by decide)) (by decide) (hx30)))) ((rc_F F120 (Or.inl (by decide)) (by decide) (rc_F F67 (Or.inl (by decide)) (by decide) (hx34)))) ((rc_F F120 (Or.inl (by decide)) (by decide) (rc_F F67 (Or.inl (by decide)) (by decide) (hx38)))) ((rc_F F120 (Or.inl (by decide)) (by decide) (rc_F F67 (Or.inl (by decide)) (by decide) (hx42)))) ((rc_F F120 (Or.inl (by decide)) (by decide) (rc_F F67 (Or.inl (by decide)) (by decide) (hx46)))) ((rc_F F120 (Or.inl (by decide)) (by decide) (rc_F F67 (Or.inl (by decide)) (by decide) (hx50))))) (RN6.mk (by have z9 := (bq123.2.2.2.2 xq21 (rc_F F120 (Or.inl (by decide)) (by decide) (rc_F F67 (Or.inl (by decide)) (by decide) (hx22)))).2; rw [adN_of (rc_F F120 (Or.inl (by decide)) (by decide) (rc_F F67 (Or.inl (by decide)) (by decide) (hx74)))] at z9; exact z9) hk75o ((rc_F F120 (Or.inl (by decide)) (by decide) (rc_F F67 (Or.inl (by decide)) (by decide) (hx81)))) ((rc_F F120 (Or.inl (by decide)) (by decide) (rc_F F67 (Or.inl (by decide)) (by decide) (hx85)))) ((rc_F F120 (Or.inl (by decide)) (by decide) (rc_F F67 (Or.inl (by decide)) (by decide) (hx89)))) ((rc_F F120 (Or.inl (by decide)) (by decide) (rc_F F67 (Or.inl (by decide)) (by decide) (hx93)))) ((rc_F F120 (Or.inl (by decide)) (by decide) (rc_F F67 (Or.inl (by decide)) (by decide) (hx97)))) ((rc_F F120 (Or.inl (by decide)) (by decide) (rc_F F67 (Or.inl (by decide)) (by decide) (hx101))))) f134
  show Tn _ _ 130 T3 σ130 [(0, .ref a), (1, .int (iI r)), (2, .int (iI p)), (3, .int (iI q)), (4, .int (iI s)), (5, .int (iI t)), (6, .int (iI n)), (7, .int (iI i71))] [.int (iI v137)] _
  have q143 : σ130.2.1 96 a = σ.2.1 96 a := rc_F F139 (Or.inl (by decide)) (by decide) (rc_F F120 (Or.inl (by decide)) (by decide) (rc_F F67 (Or.inl (by decide)) (by decide) (rc_F F6 (Or.inl (by decide)) (by decide) (rfl))))
  exact tn_iret rfl dX11_beside_130 ⟨_, rfl, w138, ((((FrC.rfl.trans (FrC.sub F6 (by decide))).trans (FrC.sub (FrC.old F67 gt4) (by decide))).trans (FrC.sub (FrC.old F120 gt4) (by decide))).trans (FrC.sub (FrC.old F139 gt4) (by decide))), by omega, tr140, tr140s, by omega, (((f13.trans bq78k).trans bq123k).trans bq141k), (((f12.trans gt4 bq78.1).trans gt4 bq123.1).trans gt4 bq141.1), bq141.2, gt4, bt142, ⟨_, f12, w5, f11, f14, (fun q9 q90 q91 => f15 q9 q90 (Int.lt_of_lt_of_le q91 f16)), _, _, _, _, _, _, _, _, _, _, _, _, _, _, _, _, _, _, _, ⟨hx22, hx26, hx74⟩, ⟨hx30, hx34, hx38, hx42, hx46, hx50, hx54⟩, ⟨hx81, hx85, hx89, hx93, hx97, hx101, hx105⟩, ⟨f61, f63⟩, ⟨f112, f116⟩, f136⟩⟩
end
