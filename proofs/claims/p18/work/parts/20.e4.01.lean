set_option maxHeartbeats 1000000 in
set_option maxRecDepth 20000 in
theorem k_X11_beside_q8 (d : Nat) {T : CT} {σ : MS} {a : Nat} {r : Int} {p : Int} {q : Int} {s : Int} {t : Int} {n : Int} {B : Int} {S : Nat → Prop} {C E M : Int → Nat} {Cn : Int} (ha : OB T a 11) (h_r : -2147483648 ≤ r ∧ r ≤ 2147483647) (h_p : -2147483648 ≤ p ∧ p ≤ 2147483647) (h_q : -2147483648 ≤ q ∧ q ≤ 2147483647) (h_s : -2147483648 ≤ s ∧ s ≤ 2147483647) (h_t : -2147483648 ≤ t ∧ t ≤ 2147483647) (h_n : -2147483648 ≤ n ∧ n ≤ 2147483647) (hw : WT T σ) (htr : TR σ a B) (hsep : SEP σ a) (hK : KB6 S T σ a C E M) (hT : TGK S T σ a C Cn) (hCn : σ.2.1 97 a = Cn) (h5a : PR5 σ a) : Tn (d + 8) m_X11_beside 0 T σ [(0, .ref a), (1, .int (iI r)), (2, .int (iI p)), (3, .int (iI q)), (4, .int (iI s)), (5, .int (iI t)), (6, .int (iI n))] [] (fun ro T2 σ2 => ∃ v : Int, ro = some (.int (iI v)) ∧ WT T2 σ2 ∧ FrC T [0, 1, 2, 3, 4, 5, 6, 7, 8, 9, 10, 11, 12, 13, 14, 15, 16, 17, 18, 19, 20, 21, 22, 23, 24, 25, 26, 27, 28, 29, 30, 31, 32, 33, 34, 35, 36, 37, 38, 39, 40, 41, 42, 43, 44, 45, 46, 47, 48, 49, 50, 51, 52, 53, 54, 55, 56, 57, 58, 59, 60, 61, 62, 63, 64, 65, 66, 67, 68, 69, 70, 71, 72, 73, 74, 75, 76, 77, 78, 79, 80, 81, 82, 83, 84, 85, 86, 87, 88, 89, 90, 91, 92, 93, 94, 95, 96, 97, 98, 99, 100, 101, 102, 103, 104, 105, 106, 107, 108, 109, 110, 111, 112, 113, 114, 115, 116, 117, 118, 119, 120, 121, 122, 123, 124, 125, 126, 127, 128, 129, 130, 131, 132, 133, 134, 135, 136, 137, 138, 139, 140, 141, 142, 143, 144, 145, 146, 147, 148, 149, 150, 151, 152, 153, 154, 155, 156, 157, 158, 159, 160, 161, 162, 163, 164, 165, 166, 167, 168, 169, 170, 171, 172, 173, 174, 175, 176, 177, 178, 179, 180, 181, 182, 183, 184, 185, 186, 187, 188, 189, 190, 191, 192, 193, 194, 195, 196, 197, 198, 199, 900, 502, 512, 515, 516, 517, 518, 519, 520, 521, 522, 523, 524] σ σ2 ∧ (-2147483648 ≤ v ∧ v ≤ 2147483647) ∧ (BSV9 σ a C E M Cn r p q s t n v) ∧ (∃ S2, TGK S2 T2 σ2 a C Cn) ∧ (TR σ2 a B) ∧ (SEP σ2 a) ∧ (σ2.2.1 96 a = σ.2.1 96 a) ∧ (RK7 σ σ2 a) ∧ (K4 σ σ2 a) ∧ (Q6 σ T2 σ2 a C E M)) := by
  refine tn_aload_n dX11_beside_0 rfl 0 rfl ?_
  refine tn_iload_n dX11_beside_1 rfl 1 rfl ?_
  refine tn_callV (M := m_X11_beside) (pc := 2) (ix := 123) (ci := 11) (M' := m_X11_codeOf) (As := [.int (iI r)]) (rest := []) dX11_beside_2 ok_X11_codeOf im_X11_codeOf se_X11_codeOf ml11_123 np_X11_codeOf rfl rfl ha rfl (Nat.le_of_ble_eq_true rfl) (Nat.le_of_ble_eq_true rfl) rfl (k_X11_codeOf_x (d + 6) (T := T) (σ := σ) (a := a) (r := r) ha (by omega) hw ) (fun r1 T3 σ2 gt4 hp => ?_)
  obtain ⟨v6, rfl, rfl, rfl, rv7, f5⟩ := hp
  clear gt4
  rcases rv7 with rv7 | ⟨xq8, rfl, hk9⟩
  · show Tn _ _ 5 T σ [(0, .ref a), (1, .int (iI r)), (2, .int (iI p)), (3, .int (iI q)), (4, .int (iI s)), (5, .int (iI t)), (6, .int (iI n))] (vl true v6 :: []) _
    rw [vl_null rv7]
    refine tn_ifnullN (tgt := 22) dX11_beside_5 (by decide) ?_
    refine tn_iconst dX11_beside_22 ?_
    exact tn_iret rfl dX11_beside_23 ⟨_, rfl, hw, FrC.rfl, by omega, Or.inl ⟨fun y9 => by have x9 := (hT.2.2 r y9.1.1 y9.1.2).1.1; have z9 := f5; unfold CDF at z9; omega, by omega⟩, ⟨S, hT⟩, htr, hsep, rfl, RK7.rf, K4.rfl, ⟨S, hK, fun _ _ _ => ⟨CSM.rf, CSM.rf⟩, id⟩⟩
  · show Tn _ _ 5 T σ [(0, .ref a), (1, .int (iI r)), (2, .int (iI p)), (3, .int (iI q)), (4, .int (iI s)), (5, .int (iI t)), (6, .int (iI n))] (vl true (xq8 : Int) :: []) _
    rw [vl_ref rfl]
    have hk9o : OB T xq8 1 := ⟨by omega, by rw [hk9]; rfl, by omega⟩
    refine tn_ifnull dX11_beside_5 ?_
    refine tn_iload dX11_beside_8 6 rfl ?_
    refine tn_iconst dX11_beside_10 ?_
    refine tn_icmp_lt (tgt := 22) dX11_beside_11 (by decide) ⟨by omega, by omega⟩ ⟨by decide, by decide⟩ (fun h10 => ?_) (fun h10 => ?_)
    · refine tn_iconst dX11_beside_22 ?_
      exact tn_iret rfl dX11_beside_23 ⟨_, rfl, hw, FrC.rfl, by omega, Or.inl ⟨fun y9 => by have x9 := (hT.2.2 r y9.1.1 y9.1.2).1.1; have z9 := f5; unfold CDF at z9; omega, by omega⟩, ⟨S, hT⟩, htr, hsep, rfl, RK7.rf, K4.rfl, ⟨S, hK, fun _ _ _ => ⟨CSM.rf, CSM.rf⟩, id⟩⟩
    · refine tn_iload dX11_beside_14 6 rfl ?_
      refine tn_sipush dX11_beside_16 (by decide) ?_
      refine tn_icmp_le (tgt := 24) dX11_beside_19 (by decide) ⟨by omega, by omega⟩ ⟨by decide, by decide⟩ (fun h11 => ?_) (fun h11 => ?_)
      · refine tn_aload_n dX11_beside_24 rfl 0 rfl ?_
        rcases wf_110 hw ha with hx12 | ⟨xq13, hx12, hk14⟩
        · refine tn_getN (ci := 11) (i := 15) (n := 110) dX11_beside_25 rfl lay_11 (by decide) fl11_258 ha rfl rfl (Int.lt_of_le_of_lt (Int.le_of_eq (Eq.refl _)) hx12) ?_
          refine tn_ifnonnullN dX11_beside_28 ?_
          exact bs7_new d ha hw hx12 htr hK.1.1.1 (fun T2 σ2 g w p0 tr sp h96 pq pi p5 => by
            have kp := hK.pair ha hw w pq pi
            exact Tn.mono (k_X11_beside_50u (d) (T := T2) (σ := σ2) (a := a) (r := r) (p := p) (q := q) (s := s) (t := t) (n := n) (B := B) (S := NW6 S T T2) (R9 := adN σ2 103 a) (g.ob ha) h_r h_p h_q h_s h_t h_n w p0 (by omega) tr sp kp.1.2.1 (ad_ex (Q := fun x => (T2 x).1 = 37) (wf_103 w (g.ob ha))).1 kp.1.2.2 (TGK.pair hT hK.2.1 hw ha pq pi.1) ((pq.1 97 a (by decide) (by have := ha.1; omega) (by omega)).trans hCn)) (fun ro t1 s1 h => by obtain ⟨v, h1, h2, h3, h4, h5, h6, h7, h11, h8, h9, h10, h12, h13⟩ := h; exact ⟨v, h1, h2, FrC.all (by decide) (by decide) ht_all, h4, Or.inr ⟨⟨by have z9 := f5; unfold CDF at z9; omega, by omega⟩, NW6 S T T2, T2, _, σ2, kp.1, ⟨w, g.ob ha⟩, kp.2, p5, h10, h13⟩, ⟨NW6 S T T2, h12⟩, h5, h6, h7.trans h96, (PRQ.rk pq hw ha).trans h11, (K4.prq pq hw ha).trans (K4.of h3 w (g.ob ha) (by decide)), NW6 S T T2, (kp.1.q (g.ob ha) w h10 h8 h9).1, fun r9 x9 y9 => ⟨(kp.2 r9 x9 y9).1.trans ((kp.1.q (g.ob ha) w h10 h8 h9).2 r9 x9 y9).1, (kp.2 r9 x9 y9).2.trans ((kp.1.q (g.ob ha) w h10 h8 h9).2 r9 x9 y9).2⟩, fun _ => PR5.q h8 p5⟩))
        · have hk14o : OB T xq13 0 := ⟨by omega, by rw [hk14]; rfl, by omega⟩
          refine tn_getR (ci := 11) (i := 15) (n := 110) (x := xq13) dX11_beside_25 rfl lay_11 (by decide) fl11_258 ha rfl rfl (hx12) ?_
          refine tn_ifnonnull (tgt := 50) dX11_beside_28 (by decide) ?_
          exact Tn.mono (k_X11_beside_50u (d) (T := T) (σ := σ) (a := a) (r := r) (p := p) (q := q) (s := s) (t := t) (n := n) (B := B) (S := S) (R9 := adN σ 103 a) ha h_r h_p h_q h_s h_t h_n hw (by omega) (by omega) htr hsep hK.2.1 (ad_ex (Q := fun x => (T x).1 = 37) (wf_103 hw ha)).1 hK.2.2 hT hCn) (fun ro t1 s1 h => by obtain ⟨v, h1, h2, h3, h4, h5, h6, h7, h11, h8, h9, h10, h12, h13⟩ := h; exact ⟨v, h1, h2, FrC.all (by decide) (by decide) ht_all, h4, Or.inr ⟨⟨by have z9 := f5; unfold CDF at z9; omega, by omega⟩, S, _, _, _, hK, ⟨hw, ha⟩, fun _ _ _ => ⟨CSM.rf, CSM.rf⟩, h5a, h10, h13⟩, ⟨S, h12⟩, h5, h6, h7, h11, K4.of h3 hw ha (by decide), S, (hK.q ha hw h10 h8 h9).1, (hK.q ha hw h10 h8 h9).2, PR5.q h8⟩)
      · refine tn_iconst dX11_beside_22 ?_
        exact tn_iret rfl dX11_beside_23 ⟨_, rfl, hw, FrC.rfl, by omega, Or.inl ⟨fun y9 => by have x9 := (hT.2.2 r y9.1.1 y9.1.2).1.1; have z9 := f5; unfold CDF at z9; omega, by omega⟩, ⟨S, hT⟩, htr, hsep, rfl, RK7.rf, K4.rfl, ⟨S, hK, fun _ _ _ => ⟨CSM.rf, CSM.rf⟩, id⟩⟩
