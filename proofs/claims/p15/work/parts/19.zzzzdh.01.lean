section
set_option maxHeartbeats 1000000 in
set_option maxRecDepth 20000 in
theorem l_X11_beside_50t_53 (d : Nat) {T0 : CT} {σ0 : MS} {a : Nat} {c1 : Int} {c2 : Int} {c3 : Int} {c4 : Int} {c5 : Int} {c6 : Int} {B : Int} {S : Nat → Prop} {R9 : Nat} {C : Int → Nat} {Cn : Int} {post : Option Value → CT → MS → Prop} (r_c1 : -2147483648 ≤ c1 ∧ c1 ≤ 2147483647) (r_c2 : -2147483648 ≤ c2 ∧ c2 ≤ 2147483647) (r_c3 : -2147483648 ≤ c3 ∧ c3 ≤ 2147483647) (r_c4 : -2147483648 ≤ c4 ∧ c4 ≤ 2147483647) (r_c5 : -2147483648 ≤ c5 ∧ c5 ≤ 2147483647) (r_c6 : 1 ≤ c6 ∧ c6 ≤ 20000) (hw0 : WT T0 σ0) (hR9 : σ0.2.1 103 a = (R9 : Int)) (hS9 : S R9) (hO9 : OB T0 R9 7) (hCn : σ0.2.1 97 a = Cn) (h110 : 0 ≤ σ0.2.1 110 a) (hx_83 : ∀ (T : CT) (i7 : Int) (σ : MS) , (GT T0 T) → (WT T σ) → (FrC T0 [92, 93, 94, 900] σ0 σ) → (OB T a 11) → (0 ≤ i7 ∧ i7 ≤ 2147483647) → (TR σ a B) → (SEP σ a) → (BSQ S T σ a) → (QFR S T0 σ0 σ) → (RK7 σ0 σ a) → (TGK S T σ a C Cn) → Tn (d + 8) m_X11_beside 83 T σ [(0, .ref a), (1, .int (iI c1)), (2, .int (iI c2)), (3, .int (iI c3)), (4, .int (iI c4)), (5, .int (iI c5)), (6, .int (iI c6)), (7, .int (iI i7))] [] post) : ∀ (n : Nat) (T : CT) (i7 : Int) (σ : MS) , (GT T0 T) → (WT T σ) → (FrC T0 [92, 93, 94, 900] σ0 σ) → (OB T a 11) → (0 ≤ i7 ∧ i7 ≤ 2147483647) → (TR σ a B) → (SEP σ a) → (BSQ S T σ a) → (QFR S T0 σ0 σ) → (RK7 σ0 σ a) → (TGK S T σ a C Cn) → (2147483700 - i7).toNat = n → Tn (d + 8) m_X11_beside 53 T σ [(0, .ref a), (1, .int (iI c1)), (2, .int (iI c2)), (3, .int (iI c3)), (4, .int (iI c4)), (5, .int (iI c5)), (6, .int (iI c6)), (7, .int (iI i7))] [] post := by
  intro n
  induction n using Nat.strongRecOn with
  | _ n ih =>
    intro T i7 σ hG hw hF h_a r_i7 htr hsep hbq hq hrk htg hm
    refine tn_iload dX11_beside_53 7 rfl ?_
    refine tn_aload_n dX11_beside_55 rfl 0 rfl ?_
    refine tn_getI (ci := 11) (i := 2) (n := 97) (t := σ.2.1 97 a) dX11_beside_56 rfl lay_11 (by decide) fl11_116 h_a rfl rfl (rfl) ?_
    have g1 : ((0 : Int) ≤ σ.2.1 97 a ∧ σ.2.1 97 a ≤ 6) := wf_97 hw h_a
    refine tn_icmp_ge (tgt := 83) dX11_beside_59 (by decide) ⟨by omega, by omega⟩ ⟨by omega, by omega⟩ (fun h2 => ?_) (fun h2 => ?_)
    · exact tn_sub [0, 1, 2, 3, 4, 5, 6, 7] rfl (hx_83 T (i7) σ hG hw (FrC.rfl.trans (FrC.sub hF (by decide))) h_a (by omega) htr hsep hbq hq hrk htg)
    · refine tn_aload_n dX11_beside_62 rfl 0 rfl ?_
      obtain ⟨xq3, hx4, hk5⟩ : ∃ x : Nat, σ.2.1 102 a = (x : Int) ∧ (T x).1 = 40 := wf_102 hw h_a
      have hk5o : OB T xq3 10 := ⟨by omega, by rw [hk5]; rfl, by omega⟩
      refine tn_getR (ci := 11) (i := 7) (n := 102) (x := xq3) dX11_beside_63 rfl lay_11 (by decide) fl11_39 h_a rfl rfl (hx4) ?_
      refine tn_iload dX11_beside_66 7 rfl ?_
      refine tn_aload_n dX11_beside_68 rfl 0 rfl ?_
      refine tn_iload dX11_beside_69 7 rfl ?_
      refine tn_callV (M := m_X11_beside) (pc := 71) (ix := 123) (ci := 11) (M' := m_X11_codeOf) (As := [.int (iI i7)]) (rest := [.int (iI i7), .ref xq3]) dX11_beside_71 ok_X11_codeOf im_X11_codeOf se_X11_codeOf ml11_123 np_X11_codeOf rfl rfl h_a rfl (Nat.le_of_ble_eq_true rfl) (Nat.le_of_ble_eq_true rfl) rfl (k_X11_codeOf_x (d + 6) (T := T) (σ := σ) (a := a) (r := i7) h_a (by omega) hw ) (fun r7 T9 σ8 gt10 hp => ?_)
      obtain ⟨v12, rfl, rfl, rfl, rv13, f11⟩ := hp
      clear gt10
      have ha9 := h_a
      rcases rv13 with rv13 | ⟨xq14, rfl, hk15⟩
      · exact absurd (htg.2.2 i7 (by omega) (by have z7 := congrFun (hF.1 97 (Or.inl (by decide)) (by decide)) (a : Int); omega)).1.1 (by have z9 := f11; unfold CDF at z9; intro y9; omega)
      · show Tn _ _ 74 T σ [(0, .ref a), (1, .int (iI c1)), (2, .int (iI c2)), (3, .int (iI c3)), (4, .int (iI c4)), (5, .int (iI c5)), (6, .int (iI c6)), (7, .int (iI i7))] (vl true (xq14 : Int) :: [.int (iI i7), .ref xq3]) _
        rw [vl_ref rfl]
        have hk15o : OB T xq14 1 := ⟨by omega, by rw [hk15]; rfl, by omega⟩
        obtain ⟨xq16, hx17, hk18, hl19⟩ : ∃ x : Nat, σ.2.1 90 xq3 = (x : Int) ∧ AR T x 1 200 200 := wf_90 hw hk5o
        have hk18i : IA T xq16 := by unfold IA; omega
        obtain ⟨xq20, hx21, hk22, hl23⟩ : ∃ x : Nat, σ.2.1 91 xq3 = (x : Int) ∧ AR T x 1 145 145 := wf_91 hw hk5o
        have hk22i : IA T xq20 := by unfold IA; omega
        obtain ⟨xq24, hx25, hk26, hl27⟩ : ∃ x : Nat, σ.2.1 89 xq3 = (x : Int) ∧ AR T x 1 6 6 := wf_89 hw hk5o
        have hk26i : IA T xq24 := by unfold IA; omega
        refine tn_callV (M := m_X11_beside) (pc := 74) (ix := 176) (ci := 10) (M' := m_X10_refresh) (As := [.int (iI i7), .ref xq14]) (rest := []) dX11_beside_74 ok_X10_refresh im_X10_refresh se_X10_refresh ml11_176 np_X10_refresh rfl rfl hk5o rfl (Nat.le_of_ble_eq_true rfl) (Nat.le_of_ble_eq_true rfl) rfl (k_X10_refresh_t (d + 2) (T := T) (σ := σ) (a := xq3) (r := i7) (c := xq14) hk5o (by omega) hk15o hk15 hw (hx17) (hx21) (hx25) (TGK.tlh htg hbq hw h_a (by have z7 := congrFun (hF.1 97 (Or.inl (by decide)) (by decide)) (a : Int); omega) hx4 (hx17) (hx21) (hx25) xq14 i7 (by omega) (by omega) (by have z9 := f11; unfold CDF at z9; omega)).1 (TGK.tlh htg hbq hw h_a (by have z7 := congrFun (hF.1 97 (Or.inl (by decide)) (by decide)) (a : Int); omega) hx4 (hx17) (hx21) (hx25) xq14 i7 (by omega) (by omega) (by have z9 := f11; unfold CDF at z9; omega)).2) (fun r28 T30 σ29 gt31 hp => ?_)
        obtain ⟨rfl, w34, F35, f32⟩ := hp
        replace h_a : OB T30 a 11 := gt31.ob h_a
        have bq36q := RFT.rfq f32
        have bq36k := BSQ.rfk hbq hw hx4 hk5o (hx17) (hx21) (hx25) (hrk.1.trans hR9) hS9 (hG.ob hO9) bq36q
        have bq36 := BSQ.rf hbq hw gt31 hx4 hk5o (hx17) (hx21) (hx25) bq36q
        have bq36t := TGK.rf htg hbq hw w34 ha9 gt31 hx4 hk5o (hx17) (hx21) (hx25) f32 (by have z9 := f11; unfold CDF at z9; have y9 := (htg.2.2 i7 (by omega) (by have z7 := congrFun (hF.1 97 (Or.inl (by decide)) (by decide)) (a : Int); omega)).1.1; omega) ⟨by omega, (by have z7 := congrFun (hF.1 97 (Or.inl (by decide)) (by decide)) (a : Int); omega)⟩
        show Tn _ _ 77 T30 σ29 [(0, .ref a), (1, .int (iI c1)), (2, .int (iI c2)), (3, .int (iI c3)), (4, .int (iI c4)), (5, .int (iI c5)), (6, .int (iI c6)), (7, .int (iI i7))] [] _
        refine tn_iinc (q0 := 7) (L' := [(7, .int (iI (i7 + 1))), (0, .ref a), (1, .int (iI c1)), (2, .int (iI c2)), (3, .int (iI c3)), (4, .int (iI c4)), (5, .int (iI c5)), (6, .int (iI c6))]) dX11_beside_77 rfl (by decide) rfl ?_
        refine tn_goto (tgt := 53) dX11_beside_80 (by decide) ?_
        exact tn_sub [1, 2, 3, 4, 5, 6, 7, 0] rfl (ih _ (by omega) T30 (i7 + 1) σ29 (GT.trans hG gt31) w34 ((FrC.rfl.trans (FrC.sub hF (by decide))).trans (FrC.sub (FrC.old F35 hG) (by decide))) h_a (by omega) (TR.frc htr F35 (by decide) (by decide)) (SEP.frc hsep F35 (by decide) (by decide) (by decide)) bq36.2 (hq.trans hG bq36.1) (hrk.trans bq36k) bq36t.1 rfl)
set_option maxHeartbeats 1000000 in
set_option maxRecDepth 20000 in
theorem k_X11_beside_50t (d : Nat) {T : CT} {σ : MS} {a : Nat} {r : Int} {p : Int} {q : Int} {s : Int} {t : Int} {n : Int} {B : Int} {S : Nat → Prop} {R9 : Nat} {C : Int → Nat} {Cn : Int} (ha : OB T a 11) (h_r : -2147483648 ≤ r ∧ r ≤ 2147483647) (h_p : -2147483648 ≤ p ∧ p ≤ 2147483647) (h_q : -2147483648 ≤ q ∧ q ≤ 2147483647) (h_s : -2147483648 ≤ s ∧ s ≤ 2147483647) (h_t : -2147483648 ≤ t ∧ t ≤ 2147483647) (h_n : -2147483648 ≤ n ∧ n ≤ 2147483647) (hw : WT T σ) (h110 : 0 ≤ σ.2.1 110 a) (hn : 1 ≤ n ∧ n ≤ 20000) (htr : TR σ a B) (hsep : SEP σ a) (hQ : BSQ S T σ a) (hR9 : σ.2.1 103 a = (R9 : Int)) (hS9 : S R9) (hT : TGK S T σ a C Cn) (hCn : σ.2.1 97 a = Cn) : Tn (d + 8) m_X11_beside 50 T σ [(0, .ref a), (1, .int (iI r)), (2, .int (iI p)), (3, .int (iI q)), (4, .int (iI s)), (5, .int (iI t)), (6, .int (iI n))] [] (fun ro T2 σ2 => ∃ v : Int, ro = some (.int (iI v)) ∧ WT T2 σ2 ∧ FrC T [2, 3, 4, 55, 56, 57, 58, 59, 60, 61, 62, 63, 64, 65, 66, 67, 68, 69, 70, 71, 92, 93, 94, 515, 900] σ σ2 ∧ (-2147483648 ≤ v ∧ v ≤ 2147483647) ∧ (TR σ2 a B) ∧ (SEP σ2 a) ∧ (σ2.2.1 96 a = σ.2.1 96 a) ∧ (RK7 σ σ2 a) ∧ (QFR S T σ σ2) ∧ (BSQ S T2 σ2 a) ∧ (GT T T2) ∧ (TGK S T2 σ2 a C Cn)) := by
  have hO9 : OB T R9 7 := by have z9 := ob_of (wf_103 hw ha) hR9; exact ⟨by omega, by rw [z9]; rfl, by omega⟩
  refine tn_iconst dX11_beside_50 ?_
  refine tn_istore (L' := [(7, .int (iI 0)), (0, .ref a), (1, .int (iI r)), (2, .int (iI p)), (3, .int (iI q)), (4, .int (iI s)), (5, .int (iI t)), (6, .int (iI n))]) dX11_beside_51 (by decide) rfl ?_
  refine tn_sub [1, 2, 3, 4, 5, 6, 7, 0] rfl (l_X11_beside_50t_53 (d) (σ0 := σ) (T0 := T) (a := a) (c1 := r) (c2 := p) (c3 := q) (c4 := s) (c5 := t) (c6 := n) (B := B) (S := S) (R9 := R9) (C := C) (Cn := Cn) (by omega) (by omega) (by omega) (by omega) (by omega) (by omega) hw hR9 hS9 hO9 hCn (by omega) (fun T3 i71 σ2 gt4 w5 F6 q7 r8 f9 f10 f11 f12 f13 f14 => ?_) _ T (0) σ GT.rfl hw FrC.rfl ha (by omega) htr hsep hQ QFR.rf RK7.rf hT rfl)
  show Tn _ _ 83 T3 σ2 [(0, .ref a), (1, .int (iI r)), (2, .int (iI p)), (3, .int (iI q)), (4, .int (iI s)), (5, .int (iI t)), (6, .int (iI n)), (7, .int (iI i71))] [] _
  refine tn_aload_n dX11_beside_83 rfl 0 rfl ?_
  have nn22 : 0 ≤ σ2.2.1 110 a := (by rw [show σ2.2.1 110 a = σ.2.1 110 a from rc_F F6 (Or.inl (by decide)) (by decide) (rfl)]; omega)
  obtain ⟨xq19, hx20, hk21⟩ := (wf_110 w5 q7).resolve_left (by omega)
  have hk21o : OB T3 xq19 0 := ⟨by omega, by rw [hk21]; rfl, by omega⟩
  refine tn_getR (ci := 11) (i := 15) (n := 110) (x := xq19) dX11_beside_84 rfl lay_11 (by decide) fl11_258 q7 rfl rfl (hx20) ?_
  obtain ⟨xq23, hx24, hk25⟩ : ∃ x : Nat, σ2.2.1 0 xq19 = (x : Int) ∧ (T3 x).1 = 37 := wf_0 w5 hk21o
  have hk25o : OB T3 xq23 7 := ⟨by omega, by rw [hk25]; rfl, by omega⟩
  refine tn_getR (ci := 0) (i := 0) (n := 0) (x := xq23) dX11_beside_87 rfl lay_0 (by decide) fl11_267 hk21o rfl rfl (hx24) ?_
  refine tn_iload_n dX11_beside_90 rfl 1 rfl ?_
  refine tn_iload_n dX11_beside_91 rfl 2 rfl ?_
  refine tn_iload_n dX11_beside_92 rfl 3 rfl ?_
  refine tn_iload dX11_beside_93 4 rfl ?_
  refine tn_iload dX11_beside_95 5 rfl ?_
  obtain ⟨xq27, hx28, hk29, hl30⟩ : ∃ x : Nat, σ2.2.1 59 xq23 = (x : Int) ∧ AR T3 x 15 9 9 := wf_59 w5 hk25o
  have hk29i : IA T3 xq27 := by unfold IA; omega
  obtain ⟨xq31, hx32, hk33, hl34⟩ : ∃ x : Nat, σ2.2.1 60 xq23 = (x : Int) ∧ AR T3 x 1 9 9 := wf_60 w5 hk25o
  have hk33i : IA T3 xq31 := by unfold IA; omega
  obtain ⟨xq35, hx36, hl38, hk37a, hk37b⟩ := wf_61 w5 hk25o
  have hk37 : (T3 xq35).1 = 1 := hk37b (by omega)
  clear hk37a hk37b
  have hk37i : IA T3 xq35 := by unfold IA; omega
  obtain ⟨xq39, hx40, hk41, hl42⟩ : ∃ x : Nat, σ2.2.1 62 xq23 = (x : Int) ∧ AR T3 x 1 108 108 := wf_62 w5 hk25o
  have hk41i : IA T3 xq39 := by unfold IA; omega
  obtain ⟨xq43, hx44, hk45, hl46⟩ : ∃ x : Nat, σ2.2.1 63 xq23 = (x : Int) ∧ AR T3 x 1 1728 1728 := wf_63 w5 hk25o
  have hk45i : IA T3 xq43 := by unfold IA; omega
  obtain ⟨xq47, hx48, hk49, hl50⟩ : ∃ x : Nat, σ2.2.1 64 xq23 = (x : Int) ∧ AR T3 x 1 200 200 := wf_64 w5 hk25o
  have hk49i : IA T3 xq47 := by unfold IA; omega
  refine tn_callV (M := m_X11_beside) (pc := 97) (ix := 204) (ci := 7) (M' := m_X7_begin) (As := [.int (iI r), .int (iI p), .int (iI q), .int (iI s), .int (iI t)]) (rest := []) dX11_beside_97 ok_X7_begin im_X7_begin se_X7_begin ml11_204 np_X7_begin rfl rfl hk25o rfl (Nat.le_of_ble_eq_true rfl) (Nat.le_of_ble_eq_true rfl) rfl (k_X7_begin_h (d + 3) (T := T3) (σ := σ2) (a := xq23) (p1 := r) (p2 := p) (p3 := q) (p4 := s) (p5 := t) (xa := xq27) (xb := xq31) (xc := xq35) (xd := xq39) (xe := xq43) (xf := xq47) hk25o hk25 (by omega) (by omega) (by omega) (by omega) (by omega) w5 (hx28) (hx32) (hx36) (hx40) (hx44) (hx48)) (fun r51 T53 σ52 gt54 hp => ?_)
  obtain ⟨rfl, rfl, w59, F60, f55, f56, f57⟩ := hp
  clear gt54
  obtain ⟨xq62, hx63, hk64⟩ : ∃ x : Nat, σ2.2.1 103 a = (x : Int) ∧ (T3 x).1 = 37 := wf_103 w5 q7
  have hk64o : OB T3 xq62 7 := ⟨by omega, by rw [hk64]; rfl, by omega⟩
  obtain ⟨xq66, hx67, hk68⟩ : ∃ x : Nat, σ2.2.1 1 xq19 = (x : Int) ∧ (T3 x).1 = 57 := wf_1 w5 hk21o
  have hk68o : OB T3 xq66 7 := ⟨by omega, by rw [hk68]; rfl, by omega⟩
  have ne70 : xq62 ≠ xq23 := fun e => f10 xq19 ((hx20)) (by rw [show σ2.2.1 0 xq19 = _ from (hx24), show σ2.2.1 103 a = _ from (hx63), e])
  have tr61 : TR σ52 a B := TR.fa f9 f57 (fun t9 q9 => by have w9 : t9 = xq62 := by { have w8 := (hx63); omega }; rw [w9]; exact ne70) (rc_F F60 (Or.inl (by decide)) (by decide) rfl)
  have tr61s : SEP σ52 a := SEP.frc f10 F60 (by decide) (by decide) (by decide)
  have bq71 := BSQ.run f11 w5 (RN6.mk (by have z9 := (f11.2.2.2 xq19 (hx20)).1; rw [adN_of (hx24)] at z9; exact z9) hk25o ((hx28)) ((hx32)) ((hx36)) ((hx40)) ((hx44)) ((hx48))) f55
  have bq71k := BSQ.runk f11 (RN6.mk (by have z9 := (f11.2.2.2 xq19 (hx20)).1; rw [adN_of (hx24)] at z9; exact z9) hk25o ((hx28)) ((hx32)) ((hx36)) ((hx40)) ((hx44)) ((hx48))) (f13.1.trans hR9) hS9 (gt4.ob hO9) (fun e9 => ne70 (by have z8 := f13.1.trans hR9; have z9 := (hx63); omega)) f55
  have bt72 := TGK.run f14 f11 w5 q7 (RN6.mk (by have z9 := (f11.2.2.2 xq19 (hx20)).1; rw [adN_of (hx24)] at z9; exact z9) hk25o ((hx28)) ((hx32)) ((hx36)) ((hx40)) ((hx44)) ((hx48))) f55
  show Tn _ _ 100 T3 σ52 [(0, .ref a), (1, .int (iI r)), (2, .int (iI p)), (3, .int (iI q)), (4, .int (iI s)), (5, .int (iI t)), (6, .int (iI n)), (7, .int (iI i71))] [] _
  refine tn_aload_n dX11_beside_100 rfl 0 rfl ?_
  refine tn_getR (ci := 11) (i := 15) (n := 110) (x := xq19) dX11_beside_101 rfl lay_11 (by decide) fl11_258 q7 rfl rfl (rc_F F60 (Or.inl (by decide)) (by decide) (hx20)) ?_
  refine tn_getR (ci := 0) (i := 1) (n := 1) (x := xq66) dX11_beside_104 rfl lay_0 (by decide) fl11_270 hk21o rfl rfl (rc_F F60 (Or.inl (by decide)) (by decide) (hx67)) ?_
  refine tn_iload_n dX11_beside_107 rfl 1 rfl ?_
  refine tn_iload_n dX11_beside_108 rfl 2 rfl ?_
  refine tn_iload_n dX11_beside_109 rfl 3 rfl ?_
  refine tn_iload dX11_beside_110 4 rfl ?_
  refine tn_iload dX11_beside_112 5 rfl ?_
  obtain ⟨xq73, hx74, hk75, hl76⟩ : ∃ x : Nat, σ2.2.1 59 xq66 = (x : Int) ∧ AR T3 x 15 9 9 := wf_59 w5 hk68o
  have hk75i : IA T3 xq73 := by unfold IA; omega
  obtain ⟨xq77, hx78, hk79, hl80⟩ : ∃ x : Nat, σ2.2.1 60 xq66 = (x : Int) ∧ AR T3 x 1 9 9 := wf_60 w5 hk68o
  have hk79i : IA T3 xq77 := by unfold IA; omega
  obtain ⟨xq81, hx82, hl84, hk83a, hk83b⟩ := wf_61 w5 hk68o
  have hk83 : (T3 xq81).1 = 14 := hk83a (by omega)
  clear hk83a hk83b
  have hk83i : IA T3 xq81 := by unfold IA; omega
  obtain ⟨xq85, hx86, hk87, hl88⟩ : ∃ x : Nat, σ2.2.1 62 xq66 = (x : Int) ∧ AR T3 x 1 108 108 := wf_62 w5 hk68o
  have hk87i : IA T3 xq85 := by unfold IA; omega
  obtain ⟨xq89, hx90, hk91, hl92⟩ : ∃ x : Nat, σ2.2.1 63 xq66 = (x : Int) ∧ AR T3 x 1 1728 1728 := wf_63 w5 hk68o
  have hk91i : IA T3 xq89 := by unfold IA; omega
  obtain ⟨xq93, hx94, hk95, hl96⟩ : ∃ x : Nat, σ2.2.1 64 xq66 = (x : Int) ∧ AR T3 x 1 200 200 := wf_64 w5 hk68o
  have hk95i : IA T3 xq93 := by unfold IA; omega
  refine tn_callV (M := m_X11_beside) (pc := 114) (ix := 204) (ci := 7) (M' := m_X7_begin) (As := [.int (iI r), .int (iI p), .int (iI q), .int (iI s), .int (iI t)]) (rest := []) dX11_beside_114 ok_X7_begin im_X7_begin se_X7_begin ml11_204 np_X7_begin rfl rfl hk68o rfl (Nat.le_of_ble_eq_true rfl) (Nat.le_of_ble_eq_true rfl) rfl (k_X7_begin_h57 (d + 3) (T := T3) (σ := σ52) (a := xq66) (p1 := r) (p2 := p) (p3 := q) (p4 := s) (p5 := t) (xa := xq73) (xb := xq77) (xc := xq81) (xd := xq85) (xe := xq89) (xf := xq93) hk68o hk68 (by omega) (by omega) (by omega) (by omega) (by omega) w59 (rc_F F60 (Or.inl (by decide)) (by decide) (hx74)) (rc_F F60 (Or.inl (by decide)) (by decide) (hx78)) (rc_F F60 (Or.inl (by decide)) (by decide) (hx82)) (rc_F F60 (Or.inl (by decide)) (by decide) (hx86)) (rc_F F60 (Or.inl (by decide)) (by decide) (hx90)) (rc_F F60 (Or.inl (by decide)) (by decide) (hx94))) (fun r97 T99 σ98 gt100 hp => ?_)
  obtain ⟨rfl, rfl, w107, F108, f101, f102, f103, f104, f105⟩ := hp
  clear gt100
  have ne110 : xq62 ≠ xq66 := fun e => by rw [e] at hk64; omega
  have ne110t : σ98.2.1 57 xq23 = σ52.2.1 57 xq23 := f105 57 xq23 (by decide) (fun e => by rw [e] at hk25; omega)
  have tr109 : TR σ98 a B := TR.fa tr61 f105 (fun t9 q9 => by have w9 : t9 = xq62 := by { have w8 := (rc_F F60 (Or.inl (by decide)) (by decide) (hx63)); omega }; rw [w9]; exact ne110) (rc_F F108 (Or.inl (by decide)) (by decide) rfl)
  have tr109s : SEP σ98 a := SEP.frc tr61s F108 (by decide) (by decide) (by decide)
  have bq111 := BSQ.run bq71.2 w59 (RN6.mk (by have z9 := (bq71.2.2.2.2 xq19 (rc_F F60 (Or.inl (by decide)) (by decide) (hx20))).2; rw [adN_of (rc_F F60 (Or.inl (by decide)) (by decide) (hx67))] at z9; exact z9) hk68o ((rc_F F60 (Or.inl (by decide)) (by decide) (hx74))) ((rc_F F60 (Or.inl (by decide)) (by decide) (hx78))) ((rc_F F60 (Or.inl (by decide)) (by decide) (hx82))) ((rc_F F60 (Or.inl (by decide)) (by decide) (hx86))) ((rc_F F60 (Or.inl (by decide)) (by decide) (hx90))) ((rc_F F60 (Or.inl (by decide)) (by decide) (hx94)))) f101
  have bq111k := BSQ.runk bq71.2 (RN6.mk (by have z9 := (bq71.2.2.2.2 xq19 (rc_F F60 (Or.inl (by decide)) (by decide) (hx20))).2; rw [adN_of (rc_F F60 (Or.inl (by decide)) (by decide) (hx67))] at z9; exact z9) hk68o ((rc_F F60 (Or.inl (by decide)) (by decide) (hx74))) ((rc_F F60 (Or.inl (by decide)) (by decide) (hx78))) ((rc_F F60 (Or.inl (by decide)) (by decide) (hx82))) ((rc_F F60 (Or.inl (by decide)) (by decide) (hx86))) ((rc_F F60 (Or.inl (by decide)) (by decide) (hx90))) ((rc_F F60 (Or.inl (by decide)) (by decide) (hx94)))) ((f13.trans bq71k).1.trans hR9) hS9 (gt4.ob hO9) (fun e9 => ne110 (by have z8 := (f13.trans bq71k).1.trans hR9; have z9 := (rc_F F60 (Or.inl (by decide)) (by decide) (hx63)); omega)) f101
  have bt112 := TGK.run bt72 bq71.2 w59 q7 (RN6.mk (by have z9 := (bq71.2.2.2.2 xq19 (rc_F F60 (Or.inl (by decide)) (by decide) (hx20))).2; rw [adN_of (rc_F F60 (Or.inl (by decide)) (by decide) (hx67))] at z9; exact z9) hk68o ((rc_F F60 (Or.inl (by decide)) (by decide) (hx74))) ((rc_F F60 (Or.inl (by decide)) (by decide) (hx78))) ((rc_F F60 (Or.inl (by decide)) (by decide) (hx82))) ((rc_F F60 (Or.inl (by decide)) (by decide) (hx86))) ((rc_F F60 (Or.inl (by decide)) (by decide) (hx90))) ((rc_F F60 (Or.inl (by decide)) (by decide) (hx94)))) f101
  show Tn _ _ 117 T3 σ98 [(0, .ref a), (1, .int (iI r)), (2, .int (iI p)), (3, .int (iI q)), (4, .int (iI s)), (5, .int (iI t)), (6, .int (iI n)), (7, .int (iI i71))] [] _
  refine tn_aload_n dX11_beside_117 rfl 0 rfl ?_
  refine tn_getR (ci := 11) (i := 15) (n := 110) (x := xq19) dX11_beside_118 rfl lay_11 (by decide) fl11_258 q7 rfl rfl (rc_F F108 (Or.inl (by decide)) (by decide) (rc_F F60 (Or.inl (by decide)) (by decide) (hx20))) ?_
  refine tn_aload_n dX11_beside_121 rfl 0 rfl ?_
  obtain ⟨xq113, hx114, hk115⟩ : ∃ x : Nat, σ2.2.1 102 a = (x : Int) ∧ (T3 x).1 = 40 := wf_102 w5 q7
  have hk115o : OB T3 xq113 10 := ⟨by omega, by rw [hk115]; rfl, by omega⟩
  refine tn_getR (ci := 11) (i := 7) (n := 102) (x := xq113) dX11_beside_122 rfl lay_11 (by decide) fl11_39 q7 rfl rfl (rc_F F108 (Or.inl (by decide)) (by decide) (rc_F F60 (Or.inl (by decide)) (by decide) (hx114))) ?_
  refine tn_iload dX11_beside_125 6 rfl ?_
  refine tn_callV (M := m_X11_beside) (pc := 127) (ix := 273) (ci := 0) (M' := m_X0_together) (As := [.ref xq113, .int (iI n)]) (rest := []) dX11_beside_127 ok_X0_together im_X0_together se_X0_together ml11_273 np_X0_together rfl rfl hk21o rfl (Nat.le_of_ble_eq_true rfl) (Nat.le_of_ble_eq_true rfl) rfl (k_X0_together_hf (d) (T := T3) (σ := σ98) (a := xq19) (t := xq113) (n := n) (to := xq23) (pl := xq66) (txa := xq27) (txb := xq31) (txc := xq35) (txd := xq39) (txe := xq43) (txf := xq47) (pxa := xq73) (pxb := xq77) (pxc := xq81) (pxd := xq85) (pxe := xq89) (pxf := xq93) hk21o hk115o (by omega) w107 (rc_F F108 (Or.inl (by decide)) (by decide) (rc_F F60 (Or.inl (by decide)) (by decide) (hx24))) (rc_F F108 (Or.inl (by decide)) (by decide) (rc_F F60 (Or.inl (by decide)) (by decide) (hx67))) (rc_F F108 (Or.inl (by decide)) (by decide) (rc_F F60 (Or.inl (by decide)) (by decide) (hx28))) (rc_F F108 (Or.inl (by decide)) (by decide) (rc_F F60 (Or.inl (by decide)) (by decide) (hx32))) (rc_F F108 (Or.inl (by decide)) (by decide) (rc_F F60 (Or.inl (by decide)) (by decide) (hx36))) (rc_F F108 (Or.inl (by decide)) (by decide) (rc_F F60 (Or.inl (by decide)) (by decide) (hx40))) (rc_F F108 (Or.inl (by decide)) (by decide) (rc_F F60 (Or.inl (by decide)) (by decide) (hx44))) (rc_F F108 (Or.inl (by decide)) (by decide) (rc_F F60 (Or.inl (by decide)) (by decide) (hx48))) (rc_F F108 (Or.inl (by decide)) (by decide) (rc_F F60 (Or.inl (by decide)) (by decide) (hx74))) (rc_F F108 (Or.inl (by decide)) (by decide) (rc_F F60 (Or.inl (by decide)) (by decide) (hx78))) (rc_F F108 (Or.inl (by decide)) (by decide) (rc_F F60 (Or.inl (by decide)) (by decide) (hx82))) (rc_F F108 (Or.inl (by decide)) (by decide) (rc_F F60 (Or.inl (by decide)) (by decide) (hx86))) (rc_F F108 (Or.inl (by decide)) (by decide) (rc_F F60 (Or.inl (by decide)) (by decide) (hx90))) (rc_F F108 (Or.inl (by decide)) (by decide) (rc_F F60 (Or.inl (by decide)) (by decide) (hx94))) (by omega) (TB.of (rc_F F108 (Or.inl (by decide)) (by decide) (rc_F F60 (Or.inl (by decide)) (by decide) (hx24))) (by omega)) (PB.of (rc_F F108 (Or.inl (by decide)) (by decide) (rc_F F60 (Or.inl (by decide)) (by decide) (hx67))) (by unfold PIv; omega))) (fun r117 T119 σ118 gt120 hp => ?_)
  obtain ⟨v124, rfl, rfl, w125, F126, f121, f122, f123⟩ := hp
  clear gt120
  have tr127 : TR σ118 a B := TR.f57 tr109 f123 (rc_F F108 (Or.inl (by decide)) (by decide) (rc_F F60 (Or.inl (by decide)) (by decide) (hx24))) (rc_F F108 (Or.inl (by decide)) (by decide) (rc_F F60 (Or.inl (by decide)) (by decide) (hx67))) (fun t9 q9 => by have w9 : t9 = xq62 := by { have w8 := (rc_F F108 (Or.inl (by decide)) (by decide) (rc_F F60 (Or.inl (by decide)) (by decide) (hx63))); omega }; rw [w9]; exact ⟨ne70, ne110⟩) (rc_F F126 (Or.inl (by decide)) (by decide) rfl)
  have tr127s : SEP σ118 a := SEP.frc tr109s F126 (by decide) (by decide) (by decide)
  have bq128 := BSQ.two bq111.2 w107 (RN6.mk (by have z9 := (bq111.2.2.2.2 xq19 (rc_F F108 (Or.inl (by decide)) (by decide) (rc_F F60 (Or.inl (by decide)) (by decide) (hx20)))).1; rw [adN_of (rc_F F108 (Or.inl (by decide)) (by decide) (rc_F F60 (Or.inl (by decide)) (by decide) (hx24)))] at z9; exact z9) hk25o ((rc_F F108 (Or.inl (by decide)) (by decide) (rc_F F60 (Or.inl (by decide)) (by decide) (hx28)))) ((rc_F F108 (Or.inl (by decide)) (by decide) (rc_F F60 (Or.inl (by decide)) (by decide) (hx32)))) ((rc_F F108 (Or.inl (by decide)) (by decide) (rc_F F60 (Or.inl (by decide)) (by decide) (hx36)))) ((rc_F F108 (Or.inl (by decide)) (by decide) (rc_F F60 (Or.inl (by decide)) (by decide) (hx40)))) ((rc_F F108 (Or.inl (by decide)) (by decide) (rc_F F60 (Or.inl (by decide)) (by decide) (hx44)))) ((rc_F F108 (Or.inl (by decide)) (by decide) (rc_F F60 (Or.inl (by decide)) (by decide) (hx48))))) (RN6.mk (by have z9 := (bq111.2.2.2.2 xq19 (rc_F F108 (Or.inl (by decide)) (by decide) (rc_F F60 (Or.inl (by decide)) (by decide) (hx20)))).2; rw [adN_of (rc_F F108 (Or.inl (by decide)) (by decide) (rc_F F60 (Or.inl (by decide)) (by decide) (hx67)))] at z9; exact z9) hk68o ((rc_F F108 (Or.inl (by decide)) (by decide) (rc_F F60 (Or.inl (by decide)) (by decide) (hx74)))) ((rc_F F108 (Or.inl (by decide)) (by decide) (rc_F F60 (Or.inl (by decide)) (by decide) (hx78)))) ((rc_F F108 (Or.inl (by decide)) (by decide) (rc_F F60 (Or.inl (by decide)) (by decide) (hx82)))) ((rc_F F108 (Or.inl (by decide)) (by decide) (rc_F F60 (Or.inl (by decide)) (by decide) (hx86)))) ((rc_F F108 (Or.inl (by decide)) (by decide) (rc_F F60 (Or.inl (by decide)) (by decide) (hx90)))) ((rc_F F108 (Or.inl (by decide)) (by decide) (rc_F F60 (Or.inl (by decide)) (by decide) (hx94))))) f122
  have bq128k := BSQ.twok bq111.2 (RN6.mk (by have z9 := (bq111.2.2.2.2 xq19 (rc_F F108 (Or.inl (by decide)) (by decide) (rc_F F60 (Or.inl (by decide)) (by decide) (hx20)))).1; rw [adN_of (rc_F F108 (Or.inl (by decide)) (by decide) (rc_F F60 (Or.inl (by decide)) (by decide) (hx24)))] at z9; exact z9) hk25o ((rc_F F108 (Or.inl (by decide)) (by decide) (rc_F F60 (Or.inl (by decide)) (by decide) (hx28)))) ((rc_F F108 (Or.inl (by decide)) (by decide) (rc_F F60 (Or.inl (by decide)) (by decide) (hx32)))) ((rc_F F108 (Or.inl (by decide)) (by decide) (rc_F F60 (Or.inl (by decide)) (by decide) (hx36)))) ((rc_F F108 (Or.inl (by decide)) (by decide) (rc_F F60 (Or.inl (by decide)) (by decide) (hx40)))) ((rc_F F108 (Or.inl (by decide)) (by decide) (rc_F F60 (Or.inl (by decide)) (by decide) (hx44)))) ((rc_F F108 (Or.inl (by decide)) (by decide) (rc_F F60 (Or.inl (by decide)) (by decide) (hx48))))) (RN6.mk (by have z9 := (bq111.2.2.2.2 xq19 (rc_F F108 (Or.inl (by decide)) (by decide) (rc_F F60 (Or.inl (by decide)) (by decide) (hx20)))).2; rw [adN_of (rc_F F108 (Or.inl (by decide)) (by decide) (rc_F F60 (Or.inl (by decide)) (by decide) (hx67)))] at z9; exact z9) hk68o ((rc_F F108 (Or.inl (by decide)) (by decide) (rc_F F60 (Or.inl (by decide)) (by decide) (hx74)))) ((rc_F F108 (Or.inl (by decide)) (by decide) (rc_F F60 (Or.inl (by decide)) (by decide) (hx78)))) ((rc_F F108 (Or.inl (by decide)) (by decide) (rc_F F60 (Or.inl (by decide)) (by decide) (hx82)))) ((rc_F F108 (Or.inl (by decide)) (by decide) (rc_F F60 (Or.inl (by decide)) (by decide) (hx86)))) ((rc_F F108 (Or.inl (by decide)) (by decide) (rc_F F60 (Or.inl (by decide)) (by decide) (hx90)))) ((rc_F F108 (Or.inl (by decide)) (by decide) (rc_F F60 (Or.inl (by decide)) (by decide) (hx94))))) (((f13.trans bq71k).trans bq111k).1.trans hR9) hS9 (gt4.ob hO9) (fun e9 => ne70 (by have z8 := ((f13.trans bq71k).trans bq111k).1.trans hR9; have z9 := (rc_F F108 (Or.inl (by decide)) (by decide) (rc_F F60 (Or.inl (by decide)) (by decide) (hx63))); omega)) (fun e9 => ne110 (by have z8 := ((f13.trans bq71k).trans bq111k).1.trans hR9; have z9 := (rc_F F108 (Or.inl (by decide)) (by decide) (rc_F F60 (Or.inl (by decide)) (by decide) (hx63))); omega)) (fun e9 => by have z9 := (gt4.ob hO9).2.1; have z8 := hk21o.2.1; rw [e9] at z9; omega) f122
  have bt129 := TGK.two bt112 bq111.2 w107 q7 (RN6.mk (by have z9 := (bq111.2.2.2.2 xq19 (rc_F F108 (Or.inl (by decide)) (by decide) (rc_F F60 (Or.inl (by decide)) (by decide) (hx20)))).1; rw [adN_of (rc_F F108 (Or.inl (by decide)) (by decide) (rc_F F60 (Or.inl (by decide)) (by decide) (hx24)))] at z9; exact z9) hk25o ((rc_F F108 (Or.inl (by decide)) (by decide) (rc_F F60 (Or.inl (by decide)) (by decide) (hx28)))) ((rc_F F108 (Or.inl (by decide)) (by decide) (rc_F F60 (Or.inl (by decide)) (by decide) (hx32)))) ((rc_F F108 (Or.inl (by decide)) (by decide) (rc_F F60 (Or.inl (by decide)) (by decide) (hx36)))) ((rc_F F108 (Or.inl (by decide)) (by decide) (rc_F F60 (Or.inl (by decide)) (by decide) (hx40)))) ((rc_F F108 (Or.inl (by decide)) (by decide) (rc_F F60 (Or.inl (by decide)) (by decide) (hx44)))) ((rc_F F108 (Or.inl (by decide)) (by decide) (rc_F F60 (Or.inl (by decide)) (by decide) (hx48))))) (RN6.mk (by have z9 := (bq111.2.2.2.2 xq19 (rc_F F108 (Or.inl (by decide)) (by decide) (rc_F F60 (Or.inl (by decide)) (by decide) (hx20)))).2; rw [adN_of (rc_F F108 (Or.inl (by decide)) (by decide) (rc_F F60 (Or.inl (by decide)) (by decide) (hx67)))] at z9; exact z9) hk68o ((rc_F F108 (Or.inl (by decide)) (by decide) (rc_F F60 (Or.inl (by decide)) (by decide) (hx74)))) ((rc_F F108 (Or.inl (by decide)) (by decide) (rc_F F60 (Or.inl (by decide)) (by decide) (hx78)))) ((rc_F F108 (Or.inl (by decide)) (by decide) (rc_F F60 (Or.inl (by decide)) (by decide) (hx82)))) ((rc_F F108 (Or.inl (by decide)) (by decide) (rc_F F60 (Or.inl (by decide)) (by decide) (hx86)))) ((rc_F F108 (Or.inl (by decide)) (by decide) (rc_F F60 (Or.inl (by decide)) (by decide) (hx90)))) ((rc_F F108 (Or.inl (by decide)) (by decide) (rc_F F60 (Or.inl (by decide)) (by decide) (hx94))))) f122
  show Tn _ _ 130 T3 σ118 [(0, .ref a), (1, .int (iI r)), (2, .int (iI p)), (3, .int (iI q)), (4, .int (iI s)), (5, .int (iI t)), (6, .int (iI n)), (7, .int (iI i71))] [.int (iI v124)] _
  have q130 : σ118.2.1 96 a = σ.2.1 96 a := rc_F F126 (Or.inl (by decide)) (by decide) (rc_F F108 (Or.inl (by decide)) (by decide) (rc_F F60 (Or.inl (by decide)) (by decide) (rc_F F6 (Or.inl (by decide)) (by decide) (rfl))))
  exact tn_iret rfl dX11_beside_130 ⟨_, rfl, w125, ((((FrC.rfl.trans (FrC.sub F6 (by decide))).trans (FrC.sub (FrC.old F60 gt4) (by decide))).trans (FrC.sub (FrC.old F108 gt4) (by decide))).trans (FrC.sub (FrC.old F126 gt4) (by decide))), by omega, tr127, tr127s, by omega, (((f13.trans bq71k).trans bq111k).trans bq128k), (((f12.trans gt4 bq71.1).trans gt4 bq111.1).trans gt4 bq128.1), bq128.2, gt4, bt129⟩
end
