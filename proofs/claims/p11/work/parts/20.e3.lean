section
set_option maxHeartbeats 4000000 in
set_option maxRecDepth 20000 in
theorem bs4_new (d : Nat) {T : CT} {σ : MS} {a : Nat} {r p q s t n B : Int} {post : Option Value → CT → MS → Prop} (ha : OB T a 11) (hw : WT T σ) (h110 : σ.2.1 110 a < 0) (htr : TR σ a B) (kk : ∀ (T2 : CT) (σ2 : MS), GT T T2 → WT T2 σ2 → 0 ≤ σ2.2.1 110 a → TR σ2 a B → SEP σ2 a → σ2.2.1 96 a = σ.2.1 96 a → K4 σ σ2 a → Tn (d + 8) m_X11_beside 50 T2 σ2 [(0, .ref a), (1, .int (iI r)), (2, .int (iI p)), (3, .int (iI q)), (4, .int (iI s)), (5, .int (iI t)), (6, .int (iI n))] [] post) : Tn (d + 8) m_X11_beside 31 T σ [(0, .ref a), (1, .int (iI r)), (2, .int (iI p)), (3, .int (iI q)), (4, .int (iI s)), (5, .int (iI t)), (6, .int (iI n))] [] post := by
  refine tn_aload_n dX11_beside_31 rfl 0 rfl ?_
  refine tn_newO (ci := 0) (N := 5) tyX0 tyX0_ok dX11_beside_32 rfl lay_0 cl11_262 ist_0 ini_0 df_0 rfl (by decide) hfd_0 (fun x hx => ?_)
  have hax : a ≠ x := fun e => by have := ha.1; rw [e] at this; omega
  obtain ⟨y5, hy5, hk5, hl5⟩ := wf_99 hw ha
  obtain ⟨y4, hy4, hk4, hl4⟩ := wf_98 hw ha
  obtain ⟨rr, hrr, hkr⟩ := wf_103 hw ha
  have t5 : T y5 = (5, 6) := Prod.ext hk5 (by show (T y5).2 = 6; omega)
  have t4 : T y4 = (4, 6) := Prod.ext hk4 (by show (T y4).2 = 6; omega)
  obtain ⟨T1, S1, hT1, hx1, hf1, h91, e0, e1, hdf, wn, cd, eT, eS⟩ : ∃ (T1 : CT) (S1 : MS), (∀ c, c ≠ x → T1 c = T c) ∧ T1 x = (80, 0) ∧ (∀ n c, n < 200 → c ≠ x → S1.2.1 n (c : Int) = σ.2.1 n c) ∧ S1.2.1 900 = σ.2.1 900 ∧ S1.1 0 = σ.1 0 + (5 : Nat) ∧ S1.1 1 = σ.1 1 + 1 ∧ (∀ j, j < 200 → S1.2.1 j (x : Int) = dfF j) ∧ WTn T1 S1 ∧ (∀ K, CD K T → CD K T1) ∧ T1 = tT T x (80 + 0) 0 ∧ S1 = objS x (gh 5 σ) := by
    have e : (tT T x (80 + 0) 0 x).1 = 80 := by rw [tT_eq]
    have f1 : ∀ n c, n < 200 → c ≠ x → (objS x (gh 5 σ)).2.1 n (c : Int) = σ.2.1 n c := fun n c hn hc => by rw [objS_ne (by omega)]; rfl
    have f9 : (objS x (gh 5 σ)).2.1 900 = σ.2.1 900 := by rw [objS_hi (by omega)]; rfl
    exact ⟨_, _, fun c hc => tT_ne hc, tT_eq, f1, f9, rfl, rfl, fun j hj => objS_eq hj, hw.n.new hx (fun c hc => tT_ne hc) f1 (fun c hc => by rw [objS_hi (by omega)]; rfl) f9 (by rw [e]; omega) (by rw [e]; omega) (fun q => by unfold IA at q; rw [e] at q; omega), fun K h => h.new (fun c hc => tT_ne hc) hx (by rw [e]; omega), rfl, rfl⟩
  rw [← eT, ← eS]
  have a1 : T1 a = T a := hT1 a hax
  have oa1 : OB T1 a 11 := by unfold OB; rw [a1]; exact ha
  have n5 : y5 ≠ x := fun e => by rw [e] at hk5; omega
  have n4 : y4 ≠ x := fun e => by rw [e] at hk4; omega
  have nr : rr ≠ x := fun e => by rw [e] at hkr; omega
  refine tn_dup dX11_beside_35 rfl ?_
  refine tn_aload_n dX11_beside_36 rfl 0 rfl ?_
  refine tn_getR (ci := 11) (i := 4) (n := 99) (x := y5) dX11_beside_37 rfl lay_11 (by decide) fl11_19 oa1 rfl rfl ((hf1 99 a (by decide) hax).trans hy5) ?_
  refine tn_aload_n dX11_beside_40 rfl 0 rfl ?_
  refine tn_getR (ci := 11) (i := 3) (n := 98) (x := y4) dX11_beside_41 rfl lay_11 (by decide) fl11_15 oa1 rfl rfl ((hf1 98 a (by decide) hax).trans hy4) ?_
  refine tn_callI (M := m_X11_beside) (pc := 44) (ix := 264) (M' := m_X0_init) (As := [.ref y5, .ref y4]) (rest := [.ref x, .ref a]) dX11_beside_44 ok_X0_init rfl rfl im_X0_init ml11_264 np_X0_init rfl (Nat.le_of_ble_eq_true rfl) (Nat.le_of_ble_eq_true rfl) rfl (kc_X0_init_30 (d + 5) (T := T1) (σ := S1) (a := x) (K := (hw.2.2.2.2.2).choose_spec.choose) (cs := y5) (mc := y4) hx1 wn (cd _ (fun c => ((hw.2.2.2.2.2).choose_spec.choose_spec.2.2.1 c).symm)) hdf ((hT1 y5 n5).trans t5) ((hT1 y4 n4).trans t4)) (fun r2 T2 S2 g hp => ?_)
  obtain ⟨rfl, hr, w1, c1, k1, g0, g1, n7, n41, tt, htt, htz⟩ := hp
  show Tn _ _ 47 T2 S2 [(0, .ref a), (1, .int (iI r)), (2, .int (iI p)), (3, .int (iI q)), (4, .int (iI s)), (5, .int (iI t)), (6, .int (iI n))] [.ref x, .ref a] _
  have ka := k1.1 a (by rw [a1]; have := ha.1; omega) hax
  have oa2 : OB T2 a 11 := by unfold OB; rw [ka.1]; exact oa1
  have kr := k1.1 rr (by rw [hT1 rr nr]; omega) nr
  refine tn_putV (ci := 11) (i := 15) (n := 110) (r := true) (v := (x : Int)) tyX11 tyX11_ok nmX11 dX11_beside_47 rfl lay_11 (by decide) fl11_258 rfl (tyX11_ok 15 (by decide)) (vl_ref rfl).symm rfl rfl oa2 rfl rfl ?_
  have gT : GT T T2 := fun c z1 z2 => by
    have e : c ≠ x := fun e => z1 (by rw [e]; exact hx)
    exact ((k1.1 c (by rw [hT1 c e]; exact z1) e).1).trans (hT1 c e)
  have v3 : ∀ m, m < 200 → m ≠ 110 → (sA 110 a x S2).2.1 m a = σ.2.1 m a := fun m h1 h2 => by rw [sA_k h2, ka.2.1 m h1, hf1 m a h1 hax]
  refine kk T2 (sA 110 a x S2) gT (WT.pair hw ha h110 hx hT1 hx1 hf1 h91 e0 e1 w1 hr k1 g0 g1 n41 (fun K9 h9 => ?_)) (by rw [show (sA 110 a x S2).2.1 110 a = (x : Int) from ra_eq]; omega) (TR.of (x := rr) ((v3 103 (by decide) (by decide)).trans hrr) ?_) (fun p9 q9 => ?_) (v3 96 (by decide) (by decide)) ⟨⟨v3 95 (by decide) (by decide), v3 97 (by decide) (by decide), v3 104 (by decide) (by decide), v3 105 (by decide) (by decide)⟩, fun x0 hx0 => ?_⟩
  · intro c
    rw [c1 c, ← h9 c]
    exact (hw.2.2.2.2.2).choose_spec.choose_spec.2.2.1 c
  · rw [sA_k (by omega), kr.2.1 57 (by decide), hf1 57 rr (by decide) nr]; exact htr rr hrr
  · rw [show (sA 110 a x S2).2.1 110 a = (x : Int) from ra_eq] at q9
    have e9 : p9 = x := by omega
    rw [e9, sA_k (by omega), htt, v3 103 (by decide) (by decide), hrr]
    intro e8
    have e7 : tt = rr := by omega
    rw [e7, hT1 rr nr] at htz
    omega
  · obtain ⟨y2, hy2, hk2⟩ := wf_95 hw ha
    have hk3 : (T y2).1 = 2 := hk2.1
    have e0 : x0 = y2 := by omega
    have n2 : y2 ≠ x := fun e => by rw [e] at hk3; omega
    rw [e0, sA_k (by omega), (k1.1 y2 (by rw [hT1 y2 n2]; omega) n2).2.2, eS, objS_hi (by omega)]
    rfl
end
section
set_option maxHeartbeats 4000000 in
set_option maxRecDepth 20000 in
theorem k_X11_beside_g (d : Nat) {T : CT} {σ : MS} {a : Nat} {r : Int} {p : Int} {q : Int} {s : Int} {t : Int} {n : Int} {B : Int} (ha : OB T a 11) (h_r : -2147483648 ≤ r ∧ r ≤ 2147483647) (h_p : -2147483648 ≤ p ∧ p ≤ 2147483647) (h_q : -2147483648 ≤ q ∧ q ≤ 2147483647) (h_s : -2147483648 ≤ s ∧ s ≤ 2147483647) (h_t : -2147483648 ≤ t ∧ t ≤ 2147483647) (h_n : -2147483648 ≤ n ∧ n ≤ 2147483647) (hw : WT T σ) (htr : TR σ a B) (hsep : SEP σ a) : Tn (d + 8) m_X11_beside 0 T σ [(0, .ref a), (1, .int (iI r)), (2, .int (iI p)), (3, .int (iI q)), (4, .int (iI s)), (5, .int (iI t)), (6, .int (iI n))] [] (fun ro T2 σ2 => ∃ v : Int, ro = some (.int (iI v)) ∧ WT T2 σ2 ∧ FrC T [0, 1, 2, 3, 4, 5, 6, 7, 8, 9, 10, 11, 12, 13, 14, 15, 16, 17, 18, 19, 20, 21, 22, 23, 24, 25, 26, 27, 28, 29, 30, 31, 32, 33, 34, 35, 36, 37, 38, 39, 40, 41, 42, 43, 44, 45, 46, 47, 48, 49, 50, 51, 52, 53, 54, 55, 56, 57, 58, 59, 60, 61, 62, 63, 64, 65, 66, 67, 68, 69, 70, 71, 72, 73, 74, 75, 76, 77, 78, 79, 80, 81, 82, 83, 84, 85, 86, 87, 88, 89, 90, 91, 92, 93, 94, 95, 96, 97, 98, 99, 100, 101, 102, 103, 104, 105, 106, 107, 108, 109, 110, 111, 112, 113, 114, 115, 116, 117, 118, 119, 120, 121, 122, 123, 124, 125, 126, 127, 128, 129, 130, 131, 132, 133, 134, 135, 136, 137, 138, 139, 140, 141, 142, 143, 144, 145, 146, 147, 148, 149, 150, 151, 152, 153, 154, 155, 156, 157, 158, 159, 160, 161, 162, 163, 164, 165, 166, 167, 168, 169, 170, 171, 172, 173, 174, 175, 176, 177, 178, 179, 180, 181, 182, 183, 184, 185, 186, 187, 188, 189, 190, 191, 192, 193, 194, 195, 196, 197, 198, 199, 900, 502, 512, 515, 516, 517, 518, 519, 520, 521, 522, 523, 524] σ σ2 ∧ (-2147483648 ≤ v ∧ v ≤ 2147483647) ∧ (TR σ2 a B) ∧ (SEP σ2 a) ∧ (σ2.2.1 96 a = σ.2.1 96 a) ∧ (K4 σ σ2 a)) := by
  refine tn_aload_n dX11_beside_0 rfl 0 rfl ?_
  refine tn_iload_n dX11_beside_1 rfl 1 rfl ?_
  refine tn_callV (M := m_X11_beside) (pc := 2) (ix := 123) (ci := 11) (M' := m_X11_codeOf) (As := [.int (iI r)]) (rest := []) dX11_beside_2 ok_X11_codeOf im_X11_codeOf se_X11_codeOf ml11_123 np_X11_codeOf rfl rfl ha rfl (Nat.le_of_ble_eq_true rfl) (Nat.le_of_ble_eq_true rfl) rfl (k_X11_codeOf (d + 6) (T := T) (σ := σ) (a := a) (r := r) ha (by omega) hw ) (fun r1 T3 σ2 gt4 hp => ?_)
  obtain ⟨v5, rfl, rfl, rfl, rv6⟩ := hp
  clear gt4
  rcases rv6 with rv6 | ⟨x7, rfl, hk8⟩
  · show Tn _ _ 5 T σ [(0, .ref a), (1, .int (iI r)), (2, .int (iI p)), (3, .int (iI q)), (4, .int (iI s)), (5, .int (iI t)), (6, .int (iI n))] (vl true v5 :: []) _
    rw [vl_null rv6]
    refine tn_ifnullN (tgt := 22) dX11_beside_5 (by decide) ?_
    refine tn_iconst dX11_beside_22 ?_
    exact tn_iret rfl dX11_beside_23 ⟨_, rfl, hw, FrC.rfl, by omega, htr, hsep, rfl, K4.rfl⟩
  · show Tn _ _ 5 T σ [(0, .ref a), (1, .int (iI r)), (2, .int (iI p)), (3, .int (iI q)), (4, .int (iI s)), (5, .int (iI t)), (6, .int (iI n))] (vl true (x7 : Int) :: []) _
    rw [vl_ref rfl]
    have hk8o : OB T x7 1 := ⟨by omega, by rw [hk8]; rfl, by omega⟩
    refine tn_ifnull dX11_beside_5 ?_
    refine tn_iload dX11_beside_8 6 rfl ?_
    refine tn_iconst dX11_beside_10 ?_
    refine tn_icmp_lt (tgt := 22) dX11_beside_11 (by decide) ⟨by omega, by omega⟩ ⟨by decide, by decide⟩ (fun h9 => ?_) (fun h9 => ?_)
    · refine tn_iconst dX11_beside_22 ?_
      exact tn_iret rfl dX11_beside_23 ⟨_, rfl, hw, FrC.rfl, by omega, htr, hsep, rfl, K4.rfl⟩
    · refine tn_iload dX11_beside_14 6 rfl ?_
      refine tn_sipush dX11_beside_16 (by decide) ?_
      refine tn_icmp_le (tgt := 24) dX11_beside_19 (by decide) ⟨by omega, by omega⟩ ⟨by decide, by decide⟩ (fun h10 => ?_) (fun h10 => ?_)
      · refine tn_aload_n dX11_beside_24 rfl 0 rfl ?_
        rcases wf_110 hw ha with hx11 | ⟨x12, hx11, hk13⟩
        · refine tn_getN (ci := 11) (i := 15) (n := 110) dX11_beside_25 rfl lay_11 (by decide) fl11_258 ha rfl rfl (Int.lt_of_le_of_lt (Int.le_of_eq (Eq.refl _)) hx11) ?_
          refine tn_ifnonnullN dX11_beside_28 ?_
          exact bs4_new d ha hw hx11 htr (fun T2 σ2 g w p0 tr sp h96 k4 => Tn.mono (k_X11_beside_50 (d) (T := T2) (σ := σ2) (a := a) (r := r) (p := p) (q := q) (s := s) (t := t) (n := n) (B := B) (g.ob ha) h_r h_p h_q h_s h_t h_n w p0 (by omega) tr sp) (fun ro t1 s1 h => by obtain ⟨v, h1, h2, h3, h4, h5, h6, h7⟩ := h; exact ⟨v, h1, h2, FrC.all (by decide) (by decide) ht_all, h4, h5, h6, h7.trans h96, k4.trans (K4.of h3 w (g.ob ha) (by decide))⟩))
        · have hk13o : OB T x12 0 := ⟨by omega, by rw [hk13]; rfl, by omega⟩
          refine tn_getR (ci := 11) (i := 15) (n := 110) (x := x12) dX11_beside_25 rfl lay_11 (by decide) fl11_258 ha rfl rfl (hx11) ?_
          refine tn_ifnonnull (tgt := 50) dX11_beside_28 (by decide) ?_
          exact Tn.mono (k_X11_beside_50 (d) (T := T) (σ := σ) (a := a) (r := r) (p := p) (q := q) (s := s) (t := t) (n := n) (B := B) ha h_r h_p h_q h_s h_t h_n hw (by omega) (by omega) htr hsep) (fun ro t1 s1 h => by obtain ⟨v, h1, h2, h3, h4, h5, h6, h7⟩ := h; exact ⟨v, h1, h2, FrC.all (by decide) (by decide) ht_all, h4, h5, h6, h7, K4.of h3 hw ha (by decide)⟩)
      · refine tn_iconst dX11_beside_22 ?_
        exact tn_iret rfl dX11_beside_23 ⟨_, rfl, hw, FrC.rfl, by omega, htr, hsep, rfl, K4.rfl⟩
end
section
theorem x4_feed (d : Nat) {N : Nat} {T : CT} {σ : MS} {a : Nat} {p q r s t : Int}  (ha : OB T a 11) (h_p : -2147483648 ≤ p ∧ p ≤ 2147483647) (h_q : -2147483648 ≤ q ∧ q ≤ 2147483647) (h_r : -2147483648 ≤ r ∧ r ≤ 2147483647) (h_s : -2147483648 ≤ s ∧ s ≤ 2147483647) (h_t : -2147483648 ≤ t ∧ t ≤ 2147483647) (hN : N ≤ 512) (h : INVX N T σ a) : Tn (d + 80) m_X11_feed 0 T σ [(0, .ref a), (1, .int (iI p)), (2, .int (iI q)), (3, .int (iI r)), (4, .int (iI s)), (5, .int (iI t))] [] (fun ro T2 σ2 => ∃ v : Int, ro = some (.int (iI v)) ∧ INVX (N + 1) T2 σ2 a ∧ ((σ.2.1 96 a ≤ 1180 ∧ v = σ.2.1 96 a + 20 ∧ σ2.2.1 96 a = σ.2.1 96 a + 20) ∨ (1180 < σ.2.1 96 a ∧ v = -1 ∧ σ2.2.1 96 a = σ.2.1 96 a)) ∧ FWQ σ σ2 a p q r s t ∧ (σ2.2.1 95 a = σ.2.1 95 a ∧ σ2.2.1 97 a = σ.2.1 97 a ∧ σ2.2.1 104 a = σ.2.1 104 a ∧ σ2.2.1 105 a = σ.2.1 105 a)) := by
  have e : d + 80 = d + 78 + 2 := by omega
  rw [e]
  refine Tn.mono (k_X11_feed_g (d + 78)  ha h_p h_q h_r h_s h_t h.1 ) (fun ro T2 σ2 hp => ?_)
  obtain ⟨v, rfl, rfl, w, F, q0, q1, q2⟩ := hp
  exact ⟨v, rfl, INVX.step h w F (by decide) (by decide) (by decide) (by decide), q1, q2, rc_F F (Or.inl (by decide)) (by decide) rfl, rc_F F (Or.inl (by decide)) (by decide) rfl, rc_F F (Or.inl (by decide)) (by decide) rfl, rc_F F (Or.inl (by decide)) (by decide) rfl⟩
theorem x4_end (d : Nat) {N : Nat} {T : CT} {σ : MS} {a : Nat} {n : Int}  (ha : OB T a 11) (h_n : -2147483648 ≤ n ∧ n ≤ 2147483647) (hN : N ≤ 512) (h : INVX N T σ a) : Tn (d + 80) m_X11_end 0 T σ [(0, .ref a), (1, .int (iI n))] [] (fun ro T2 σ2 => ∃ v : Int, ro = some (.int (iI v)) ∧ INVX (N + 1) T2 σ2 a ∧ (((n < 0 ∨ σ.2.1 96 a < n) ∧ v = -1 ∧ σ2.2.1 96 a = σ.2.1 96 a) ∨ (0 ≤ n ∧ n ≤ σ.2.1 96 a ∧ v = n ∧ σ2.2.1 96 a = n)) ∧ K4 σ σ2 a) := by
  have e : d + 80 = d + 79 + 1 := by omega
  rw [e]
  refine Tn.mono (k_X11_end (d + 79)  ha h_n h.1 ) (fun ro T2 σ2 hp => ?_)
  obtain ⟨v, rfl, rfl, w, F, q0, q1⟩ := hp
  exact ⟨v, rfl, INVX.step h w F (by decide) (by decide) (by decide) (by decide), q1, K4.of F h.1 ha (by decide)⟩
theorem x4_read (d : Nat) {N : Nat} {T : CT} {σ : MS} {a : Nat}  {fT Sx : Int → Int} (hrw : ∀ x : Nat, σ.2.1 95 a = (x : Int) → RWE σ x fT (σ.2.1 96 a)) (hB : BYT fT) (hSx : Sx = svC fT (σ.2.1 96 a)) (ha : OB T a 11)  (hN : N ≤ 512) (h : INVX N T σ a) : Tn (d + 80) m_X11_read 0 T σ [(0, .ref a)] [] (fun ro T2 σ2 => ∃ v : Int, ro = some (.int (iI v)) ∧ INVX (N + 1) T2 σ2 a ∧ (σ2.2.1 96 a = 0) ∧ RQ9 Sx v (σ2.2.1 104 a) (σ2.2.1 105 a) (σ.2.1 97 a) (σ2.2.1 97 a)) := by
  have e : d + 80 = d + 0 + 80 := by omega
  rw [e]
  refine Tn.mono (k_X11_read_g (d + 0) (fT := fT) (Sx := Sx) ha  h.1 hrw hB hSx) (fun ro T2 σ2 hp => ?_)
  obtain ⟨v, rfl, w, F, q0, q1, q2⟩ := hp
  exact ⟨v, rfl, INVX.step h w F (by decide) (by decide) (by decide) (by decide), q1, q2⟩
theorem x4_fault (d : Nat) {N : Nat} {T : CT} {σ : MS} {a : Nat} {w : Int}  (ha : OB T a 11) (h_w : -2147483648 ≤ w ∧ w ≤ 2147483647) (hN : N ≤ 512) (h : INVX N T σ a) : Tn (d + 80) m_X11_fault 0 T σ [(0, .ref a), (1, .int (iI w))] [] (fun ro T2 σ2 => ∃ v : Int, ro = some (.int (iI v)) ∧ INVX (N + 1) T2 σ2 a ∧ (σ2.2.1 96 a = σ.2.1 96 a) ∧ K4 σ σ2 a ∧ ((w = 0 ∧ v = σ.2.1 104 a) ∨ (w = 1 ∧ v = σ.2.1 105 a) ∨ (w ≠ 0 ∧ w ≠ 1 ∧ v = -1))) := by
  have e : d + 80 = d + 79 + 1 := by omega
  rw [e]
  refine Tn.mono (k_X11_fault_g (d + 79)  ha h_w h.1 ) (fun ro T2 σ2 hp => ?_)
  obtain ⟨v, rfl, rfl, rfl, q0, q1⟩ := hp
  exact ⟨v, rfl, INVX.step h h.1 (FrC.rfl (ks := [])) (by decide) (by decide) (by decide) (by decide), rfl, K4.rfl, q1⟩
theorem x4_routine (d : Nat) {N : Nat} {T : CT} {σ : MS} {a : Nat} {r w : Int}  (ha : OB T a 11) (h_r : -2147483648 ≤ r ∧ r ≤ 2147483647) (h_w : -2147483648 ≤ w ∧ w ≤ 2147483647) (hN : N ≤ 512) (h : INVX N T σ a) : Tn (d + 80) m_X11_routine 0 T σ [(0, .ref a), (1, .int (iI r)), (2, .int (iI w))] [] (fun ro T2 σ2 => ∃ v : Int, ro = some (.int (iI v)) ∧ INVX (N + 1) T2 σ2 a ∧ (σ2.2.1 96 a = σ.2.1 96 a) ∧ K4 σ σ2 a) := by
  have e : d + 80 = d + 75 + 5 := by omega
  rw [e]
  refine Tn.mono (k_X11_routine (d + 75)  ha h_r h_w h.1 ) (fun ro T2 σ2 hp => ?_)
  obtain ⟨v, rfl, rfl, rfl, q0⟩ := hp
  exact ⟨v, rfl, INVX.step h h.1 (FrC.rfl (ks := [])) (by decide) (by decide) (by decide) (by decide), rfl, K4.rfl⟩
theorem x4_item (d : Nat) {N : Nat} {T : CT} {σ : MS} {a : Nat} {r k w : Int}  (ha : OB T a 11) (h_r : -2147483648 ≤ r ∧ r ≤ 2147483647) (h_k : -2147483648 ≤ k ∧ k ≤ 2147483647) (h_w : -2147483648 ≤ w ∧ w ≤ 2147483647) (hN : N ≤ 512) (h : INVX N T σ a) : Tn (d + 80) m_X11_item 0 T σ [(0, .ref a), (1, .int (iI r)), (2, .int (iI k)), (3, .int (iI w))] [] (fun ro T2 σ2 => ∃ v : Int, ro = some (.int (iI v)) ∧ INVX (N + 1) T2 σ2 a ∧ (σ2.2.1 96 a = σ.2.1 96 a) ∧ K4 σ σ2 a) := by
  have e : d + 80 = d + 78 + 2 := by omega
  rw [e]
  refine Tn.mono (k_X11_item (d + 78)  ha h_r h_k h_w h.1 ) (fun ro T2 σ2 hp => ?_)
  obtain ⟨v, rfl, rfl, rfl, q0⟩ := hp
  exact ⟨v, rfl, INVX.step h h.1 (FrC.rfl (ks := [])) (by decide) (by decide) (by decide) (by decide), rfl, K4.rfl⟩
theorem x4_frame (d : Nat) {N : Nat} {T : CT} {σ : MS} {a : Nat} {r f w : Int}  (ha : OB T a 11) (h_r : -2147483648 ≤ r ∧ r ≤ 2147483647) (h_f : -2147483648 ≤ f ∧ f ≤ 2147483647) (h_w : -2147483648 ≤ w ∧ w ≤ 2147483647) (hN : N ≤ 512) (h : INVX N T σ a) : Tn (d + 80) m_X11_frame 0 T σ [(0, .ref a), (1, .int (iI r)), (2, .int (iI f)), (3, .int (iI w))] [] (fun ro T2 σ2 => ∃ v : Int, ro = some (.int (iI v)) ∧ INVX (N + 1) T2 σ2 a ∧ (σ2.2.1 96 a = σ.2.1 96 a) ∧ K4 σ σ2 a) := by
  have e : d + 80 = d + 78 + 2 := by omega
  rw [e]
  refine Tn.mono (k_X11_frame (d + 78)  ha h_r h_f h_w h.1 ) (fun ro T2 σ2 hp => ?_)
  obtain ⟨v, rfl, rfl, rfl, q0⟩ := hp
  exact ⟨v, rfl, INVX.step h h.1 (FrC.rfl (ks := [])) (by decide) (by decide) (by decide) (by decide), rfl, K4.rfl⟩
theorem x4_told (d : Nat) {N : Nat} {T : CT} {σ : MS} {a : Nat} {r k f m w : Int}  (ha : OB T a 11) (h_r : -2147483648 ≤ r ∧ r ≤ 2147483647) (h_k : -2147483648 ≤ k ∧ k ≤ 2147483647) (h_f : -2147483648 ≤ f ∧ f ≤ 2147483647) (h_m : -2147483648 ≤ m ∧ m ≤ 2147483647) (h_w : -2147483648 ≤ w ∧ w ≤ 2147483647) (hN : N ≤ 512) (h : INVX N T σ a) : Tn (d + 80) m_X11_told 0 T σ [(0, .ref a), (1, .int (iI r)), (2, .int (iI k)), (3, .int (iI f)), (4, .int (iI m)), (5, .int (iI w))] [] (fun ro T2 σ2 => ∃ v : Int, ro = some (.int (iI v)) ∧ INVX (N + 1) T2 σ2 a ∧ (σ2.2.1 96 a = σ.2.1 96 a) ∧ K4 σ σ2 a) := by
  have e : d + 80 = d + 74 + 6 := by omega
  rw [e]
  refine Tn.mono (k_X11_told (d + 74)  ha h_r h_k h_f h_m h_w h.1 ) (fun ro T2 σ2 hp => ?_)
  obtain ⟨v, rfl, w, F, q0⟩ := hp
  exact ⟨v, rfl, INVX.step h w F (by decide) (by decide) (by decide) (by decide), rc_F F (Or.inl (by decide)) (by decide) rfl, K4.of F h.1 ha (by decide)⟩
theorem x4_pass (d : Nat) {N : Nat} {T : CT} {σ : MS} {a : Nat} {k r : Int}  (ha : OB T a 11) (h_k : -2147483648 ≤ k ∧ k ≤ 2147483647) (h_r : -2147483648 ≤ r ∧ r ≤ 2147483647) (hN : N ≤ 512) (h : INVX N T σ a) : Tn (d + 80) m_X11_pass 0 T σ [(0, .ref a), (1, .int (iI k)), (2, .int (iI r))] [] (fun ro T2 σ2 => ∃ v : Int, ro = some (.int (iI v)) ∧ INVX (N + 1) T2 σ2 a ∧ (σ2.2.1 96 a = σ.2.1 96 a) ∧ K4 σ σ2 a) := by
  have e : d + 80 = d + 71 + 9 := by omega
  rw [e]
  refine Tn.mono (k_X11_pass (d + 71)  ha h_k h_r h.1 ) (fun ro T2 σ2 hp => ?_)
  obtain ⟨v, rfl, w, F, q0⟩ := hp
  exact ⟨v, rfl, INVX.step h w F (by decide) (by decide) (by decide) (by decide), rc_F F (Or.inl (by decide)) (by decide) rfl, K4.of F h.1 ha (by decide)⟩
theorem x4_start (d : Nat) {N : Nat} {T : CT} {σ : MS} {a : Nat} {r p q s t : Int}  (ha : OB T a 11) (h_r : -2147483648 ≤ r ∧ r ≤ 2147483647) (h_p : -2147483648 ≤ p ∧ p ≤ 2147483647) (h_q : -2147483648 ≤ q ∧ q ≤ 2147483647) (h_s : -2147483648 ≤ s ∧ s ≤ 2147483647) (h_t : -2147483648 ≤ t ∧ t ≤ 2147483647) (hN : N ≤ 512) (h : INVX N T σ a) : Tn (d + 80) m_X11_start 0 T σ [(0, .ref a), (1, .int (iI r)), (2, .int (iI p)), (3, .int (iI q)), (4, .int (iI s)), (5, .int (iI t))] [] (fun ro T2 σ2 => ∃ v : Int, ro = some (.int (iI v)) ∧ INVX (N + 1) T2 σ2 a ∧ (σ2.2.1 96 a = σ.2.1 96 a) ∧ K4 σ σ2 a ∧ ((v = 1 ∧ 0 ≤ r ∧ r < σ.2.1 97 a) ∨ (v = 0 ∧ (r < 0 ∨ σ.2.1 97 a ≤ r)))) := by
  have e : d + 80 = d + 75 + 5 := by omega
  rw [e]
  refine Tn.mono (k_X11_start_g (d + 75) (B := 20001 * (N : Int)) ha h_r h_p h_q h_s h_t h.1 h.2.1 (by omega)) (fun ro T2 σ2 hp => ?_)
  obtain ⟨v, rfl, rfl, w, F, q0, q1, q2⟩ := hp
  exact ⟨v, rfl, INVX.tr h w F (by decide) (by decide) (by decide) q2 (by omega), rc_F F (Or.inl (by decide)) (by decide) rfl, K4.of F h.1 ha (by decide), q1⟩
theorem x4_go (d : Nat) {N : Nat} {T : CT} {σ : MS} {a : Nat} {w n : Int}  (ha : OB T a 11) (h_w : -2147483648 ≤ w ∧ w ≤ 2147483647) (h_n : -2147483648 ≤ n ∧ n ≤ 2147483647) (hN : N ≤ 512) (h : INVX N T σ a) : Tn (d + 80) m_X11_go 0 T σ [(0, .ref a), (1, .int (iI w)), (2, .int (iI n))] [] (fun ro T2 σ2 => ∃ v : Int, ro = some (.int (iI v)) ∧ INVX (N + 1) T2 σ2 a ∧ (σ2.2.1 96 a = σ.2.1 96 a) ∧ K4 σ σ2 a) := by
  have e : d + 80 = d + 73 + 7 := by omega
  rw [e]
  refine Tn.mono (k_X11_go (d + 73) (B := 20001 * (N : Int)) ha h_w h_n h.1 h.2.1 (by omega)) (fun ro T2 σ2 hp => ?_)
  obtain ⟨v, rfl, rfl, w, F, q0, q1⟩ := hp
  exact ⟨v, rfl, INVX.tr h w F (by decide) (by decide) (by decide) q1 (by omega), rc_F F (Or.inl (by decide)) (by decide) rfl, K4.of F h.1 ha (by decide)⟩
theorem x4_stack (d : Nat) {N : Nat} {T : CT} {σ : MS} {a : Nat} {k w : Int}  (ha : OB T a 11) (h_k : -2147483648 ≤ k ∧ k ≤ 2147483647) (h_w : -2147483648 ≤ w ∧ w ≤ 2147483647) (hN : N ≤ 512) (h : INVX N T σ a) : Tn (d + 80) m_X11_stack 0 T σ [(0, .ref a), (1, .int (iI k)), (2, .int (iI w))] [] (fun ro T2 σ2 => ∃ v : Int, ro = some (.int (iI v)) ∧ INVX (N + 1) T2 σ2 a ∧ (σ2.2.1 96 a = σ.2.1 96 a) ∧ K4 σ σ2 a) := by
  have e : d + 80 = d + 75 + 5 := by omega
  rw [e]
  refine Tn.mono (k_X11_stack (d + 75)  ha h_k h_w h.1 ) (fun ro T2 σ2 hp => ?_)
  obtain ⟨v, rfl, rfl, w, F, q0⟩ := hp
  exact ⟨v, rfl, INVX.step h w F (by decide) (by decide) (by decide) (by decide), rc_F F (Or.inl (by decide)) (by decide) rfl, K4.of F h.1 ha (by decide)⟩
theorem x4_known (d : Nat) {N : Nat} {T : CT} {σ : MS} {a : Nat} {k m : Int}  (ha : OB T a 11) (h_k : -2147483648 ≤ k ∧ k ≤ 2147483647) (h_m : -2147483648 ≤ m ∧ m ≤ 2147483647) (hN : N ≤ 512) (h : INVX N T σ a) : Tn (d + 80) m_X11_known 0 T σ [(0, .ref a), (1, .int (iI k)), (2, .int (iI m))] [] (fun ro T2 σ2 => ∃ v : Int, ro = some (.int (iI v)) ∧ INVX (N + 1) T2 σ2 a ∧ (σ2.2.1 96 a = σ.2.1 96 a) ∧ K4 σ σ2 a) := by
  have e : d + 80 = d + 74 + 6 := by omega
  rw [e]
  refine Tn.mono (k_X11_known (d + 74)  ha h_k h_m h.1 ) (fun ro T2 σ2 hp => ?_)
  obtain ⟨v, rfl, w, F, q0⟩ := hp
  exact ⟨v, rfl, INVX.step h w F (by decide) (by decide) (by decide) (by decide), rc_F F (Or.inl (by decide)) (by decide) rfl, K4.of F h.1 ha (by decide)⟩
theorem x4_value (d : Nat) {N : Nat} {T : CT} {σ : MS} {a : Nat} {k m : Int}  (ha : OB T a 11) (h_k : -2147483648 ≤ k ∧ k ≤ 2147483647) (h_m : -2147483648 ≤ m ∧ m ≤ 2147483647) (hN : N ≤ 512) (h : INVX N T σ a) : Tn (d + 80) m_X11_value 0 T σ [(0, .ref a), (1, .int (iI k)), (2, .int (iI m))] [] (fun ro T2 σ2 => ∃ v : Int, ro = some (.int (iI v)) ∧ INVX (N + 1) T2 σ2 a ∧ (σ2.2.1 96 a = σ.2.1 96 a) ∧ K4 σ σ2 a) := by
  have e : d + 80 = d + 74 + 6 := by omega
  rw [e]
  refine Tn.mono (k_X11_value (d + 74)  ha h_k h_m h.1 ) (fun ro T2 σ2 hp => ?_)
  obtain ⟨v, rfl, w, F, q0⟩ := hp
  exact ⟨v, rfl, INVX.step h w F (by decide) (by decide) (by decide) (by decide), rc_F F (Or.inl (by decide)) (by decide) rfl, K4.of F h.1 ha (by decide)⟩
theorem x4_run (d : Nat) {N : Nat} {T : CT} {σ : MS} {a : Nat} {w : Int}  (ha : OB T a 11) (h_w : -2147483648 ≤ w ∧ w ≤ 2147483647) (hN : N ≤ 512) (h : INVX N T σ a) : Tn (d + 80) m_X11_run 0 T σ [(0, .ref a), (1, .int (iI w))] [] (fun ro T2 σ2 => ∃ v : Int, ro = some (.int (iI v)) ∧ INVX (N + 1) T2 σ2 a ∧ (σ2.2.1 96 a = σ.2.1 96 a) ∧ K4 σ σ2 a) := by
  have e : d + 80 = d + 77 + 3 := by omega
  rw [e]
  refine Tn.mono (k_X11_run (d + 77)  ha h_w h.1 ) (fun ro T2 σ2 hp => ?_)
  obtain ⟨v, rfl, rfl, rfl, q0⟩ := hp
  exact ⟨v, rfl, INVX.step h h.1 (FrC.rfl (ks := [])) (by decide) (by decide) (by decide) (by decide), rfl, K4.rfl⟩
theorem x4_printed (d : Nat) {N : Nat} {T : CT} {σ : MS} {a : Nat} {i : Int}  (ha : OB T a 11) (h_i : -2147483648 ≤ i ∧ i ≤ 2147483647) (hN : N ≤ 512) (h : INVX N T σ a) : Tn (d + 80) m_X11_printed 0 T σ [(0, .ref a), (1, .int (iI i))] [] (fun ro T2 σ2 => ∃ v : Int, ro = some (.int (iI v)) ∧ INVX (N + 1) T2 σ2 a ∧ (σ2.2.1 96 a = σ.2.1 96 a) ∧ K4 σ σ2 a) := by
  have e : d + 80 = d + 78 + 2 := by omega
  rw [e]
  refine Tn.mono (k_X11_printed (d + 78)  ha h_i h.1 ) (fun ro T2 σ2 hp => ?_)
  obtain ⟨v, rfl, rfl, rfl, q0⟩ := hp
  exact ⟨v, rfl, INVX.step h h.1 (FrC.rfl (ks := [])) (by decide) (by decide) (by decide) (by decide), rfl, K4.rfl⟩
theorem x4_beside (d : Nat) {N : Nat} {T : CT} {σ : MS} {a : Nat} {r p q s t n : Int}  (ha : OB T a 11) (h_r : -2147483648 ≤ r ∧ r ≤ 2147483647) (h_p : -2147483648 ≤ p ∧ p ≤ 2147483647) (h_q : -2147483648 ≤ q ∧ q ≤ 2147483647) (h_s : -2147483648 ≤ s ∧ s ≤ 2147483647) (h_t : -2147483648 ≤ t ∧ t ≤ 2147483647) (h_n : -2147483648 ≤ n ∧ n ≤ 2147483647) (hN : N ≤ 512) (h : INVX N T σ a) : Tn (d + 80) m_X11_beside 0 T σ [(0, .ref a), (1, .int (iI r)), (2, .int (iI p)), (3, .int (iI q)), (4, .int (iI s)), (5, .int (iI t)), (6, .int (iI n))] [] (fun ro T2 σ2 => ∃ v : Int, ro = some (.int (iI v)) ∧ INVX (N + 1) T2 σ2 a ∧ (σ2.2.1 96 a = σ.2.1 96 a) ∧ K4 σ σ2 a) := by
  have e : d + 80 = d + 72 + 8 := by omega
  rw [e]
  refine Tn.mono (k_X11_beside_g (d + 72) (B := 20001 * (N : Int)) ha h_r h_p h_q h_s h_t h_n h.1 h.2.1 h.2.2) (fun ro T2 σ2 hp => ?_)
  obtain ⟨v, rfl, w, F, q0, q1, q2, q3, q4⟩ := hp
  exact ⟨v, rfl, INVX.all h w q1 q2 (by omega), q3, q4⟩
theorem x4_compared (d : Nat) {N : Nat} {T : CT} {σ : MS} {a : Nat} {w : Int}  (ha : OB T a 11) (h_w : -2147483648 ≤ w ∧ w ≤ 2147483647) (hN : N ≤ 512) (h : INVX N T σ a) : Tn (d + 80) m_X11_compared 0 T σ [(0, .ref a), (1, .int (iI w))] [] (fun ro T2 σ2 => ∃ v : Int, ro = some (.int (iI v)) ∧ INVX (N + 1) T2 σ2 a ∧ (σ2.2.1 96 a = σ.2.1 96 a) ∧ K4 σ σ2 a) := by
  have e : d + 80 = d + 79 + 1 := by omega
  rw [e]
  refine Tn.mono (k_X11_compared (d + 79)  ha h_w h.1 ) (fun ro T2 σ2 hp => ?_)
  obtain ⟨v, rfl, rfl, rfl, q0⟩ := hp
  exact ⟨v, rfl, INVX.step h h.1 (FrC.rfl (ks := [])) (by decide) (by decide) (by decide) (by decide), rfl, K4.rfl⟩
end
section
theorem m4_end (d : Nat) {N : Nat} {b : Nat} {σ : MS} {x : Int} (h_x : -2147483648 ≤ x ∧ x ≤ 2147483647) (hN : N ≤ 512) (h : INVM N σ) : Tm (d + 80) m_X12_end 0 b σ [(0, .ref b), (1, .int (iI x))] [] (fun ro σ2 => ∃ v : Int, ro = some (.int (iI v)) ∧ INVM (N + 1) σ2 ∧ (((x < 0 ∨ σ.1 2 < x) ∧ v = -1 ∧ σ2.1 2 = σ.1 2) ∨ (0 ≤ x ∧ x ≤ σ.1 2 ∧ v = x ∧ σ2.1 2 = x)) ∧ K4m σ σ2) := by
  have e : d + 80 = d + 78 + 2 := by omega
  rw [e]
  refine Tm.mono (c_X12_end (d + 78) (x := x) h.rg h.sz h_x) (fun ro σ2 hp => ?_)
  obtain ⟨v, rfl, F, R, q1, q2⟩ := hp
  exact ⟨v, rfl, h.fr F R (by have := h.sz; omega) (by decide) (by decide), by omega, K4m.of F (by decide) (by decide)⟩
theorem m4_compared (d : Nat) {N : Nat} {b : Nat} {σ : MS} {x : Int} (h_x : -2147483648 ≤ x ∧ x ≤ 2147483647) (hN : N ≤ 512) (h : INVM N σ) : Tm (d + 80) m_X12_compared 0 b σ [(0, .ref b), (1, .int (iI x))] [] (fun ro σ2 => ∃ v : Int, ro = some (.int (iI v)) ∧ INVM (N + 1) σ2 ∧ (σ2.1 2 = σ.1 2) ∧ K4m σ σ2) := by
  have e : d + 80 = d + 78 + 2 := by omega
  rw [e]
  refine Tm.mono (c_X12_compared (d + 78) (x := x) h.rg h_x) (fun ro σ2 hp => ?_)
  obtain ⟨v, rfl, F, R⟩ := hp
  exact ⟨v, rfl, h.fr0 F R (by decide) (by decide), (F.1 2 (by decide)), K4m.of F (by decide) (by decide)⟩
theorem m4_printed (d : Nat) {N : Nat} {b : Nat} {σ : MS} {x : Int} (h_x : -2147483648 ≤ x ∧ x ≤ 2147483647) (hN : N ≤ 512) (h : INVM N σ) : Tm (d + 80) m_X12_printed 0 b σ [(0, .ref b), (1, .int (iI x))] [] (fun ro σ2 => ∃ v : Int, ro = some (.int (iI v)) ∧ INVM (N + 1) σ2 ∧ (σ2.1 2 = σ.1 2) ∧ K4m σ σ2) := by
  have e : d + 80 = d + 79 + 1 := by omega
  rw [e]
  refine Tm.mono (c_X12_printed (d + 79) (x := x) h.rg h_x) (fun ro σ2 hp => ?_)
  obtain ⟨v, rfl, F, R⟩ := hp
  exact ⟨v, rfl, h.fr0 F R (by decide) (by decide), (F.1 2 (by decide)), K4m.of F (by decide) (by decide)⟩
theorem m4_routine (d : Nat) {N : Nat} {b : Nat} {σ : MS} {x w : Int} (h_x : -2147483648 ≤ x ∧ x ≤ 2147483647) (h_w : -2147483648 ≤ w ∧ w ≤ 2147483647) (hN : N ≤ 512) (h : INVM N σ) : Tm (d + 80) m_X12_routine 0 b σ [(0, .ref b), (1, .int (iI x)), (2, .int (iI w))] [] (fun ro σ2 => ∃ v : Int, ro = some (.int (iI v)) ∧ INVM (N + 1) σ2 ∧ (σ2.1 2 = σ.1 2) ∧ K4m σ σ2) := by
  have e : d + 80 = d + 75 + 5 := by omega
  rw [e]
  refine Tm.mono (c_X12_routine (d + 75) (x := x) (w := w) h.rg h.itm h.par h.nam h.rtn h_x h_w) (fun ro σ2 hp => ?_)
  obtain ⟨v, rfl, F, R⟩ := hp
  exact ⟨v, rfl, h.fr0 F R (by decide) (by decide), (F.1 2 (by decide)), K4m.of F (by decide) (by decide)⟩
theorem m4_item (d : Nat) {N : Nat} {b : Nat} {σ : MS} {x k w : Int} (h_x : -2147483648 ≤ x ∧ x ≤ 2147483647) (h_k : -2147483648 ≤ k ∧ k ≤ 2147483647) (h_w : -2147483648 ≤ w ∧ w ≤ 2147483647) (hN : N ≤ 512) (h : INVM N σ) : Tm (d + 80) m_X12_item 0 b σ [(0, .ref b), (1, .int (iI x)), (2, .int (iI k)), (3, .int (iI w))] [] (fun ro σ2 => ∃ v : Int, ro = some (.int (iI v)) ∧ INVM (N + 1) σ2 ∧ (σ2.1 2 = σ.1 2) ∧ K4m σ σ2) := by
  have e : d + 80 = d + 76 + 4 := by omega
  rw [e]
  refine Tm.mono (c_X12_item (d + 76) (x := x) (k := k) (w := w) h.rg h.itm h.par h.nam h.rtn h_x h_k h_w) (fun ro σ2 hp => ?_)
  obtain ⟨v, rfl, F, R⟩ := hp
  exact ⟨v, rfl, h.fr0 F R (by decide) (by decide), (F.1 2 (by decide)), K4m.of F (by decide) (by decide)⟩
theorem m4_frame (d : Nat) {N : Nat} {b : Nat} {σ : MS} {x f w : Int} (h_x : -2147483648 ≤ x ∧ x ≤ 2147483647) (h_f : -2147483648 ≤ f ∧ f ≤ 2147483647) (h_w : -2147483648 ≤ w ∧ w ≤ 2147483647) (hN : N ≤ 512) (h : INVM N σ) : Tm (d + 80) m_X12_frame 0 b σ [(0, .ref b), (1, .int (iI x)), (2, .int (iI f)), (3, .int (iI w))] [] (fun ro σ2 => ∃ v : Int, ro = some (.int (iI v)) ∧ INVM (N + 1) σ2 ∧ (σ2.1 2 = σ.1 2) ∧ K4m σ σ2) := by
  have e : d + 80 = d + 76 + 4 := by omega
  rw [e]
  refine Tm.mono (c_X12_frame (d + 76) (x := x) (f := f) (w := w) h.rg h.itm h.par h.nam h.rtn h_x h_f h_w) (fun ro σ2 hp => ?_)
  obtain ⟨v, rfl, F, R⟩ := hp
  exact ⟨v, rfl, h.fr0 F R (by decide) (by decide), (F.1 2 (by decide)), K4m.of F (by decide) (by decide)⟩
theorem m4_told (d : Nat) {N : Nat} {b : Nat} {σ : MS} {x k f n w : Int} (h_x : -2147483648 ≤ x ∧ x ≤ 2147483647) (h_k : -2147483648 ≤ k ∧ k ≤ 2147483647) (h_f : -2147483648 ≤ f ∧ f ≤ 2147483647) (h_n : -2147483648 ≤ n ∧ n ≤ 2147483647) (h_w : -2147483648 ≤ w ∧ w ≤ 2147483647) (hN : N ≤ 512) (h : INVM N σ) : Tm (d + 80) m_X12_told 0 b σ [(0, .ref b), (1, .int (iI x)), (2, .int (iI k)), (3, .int (iI f)), (4, .int (iI n)), (5, .int (iI w))] [] (fun ro σ2 => ∃ v : Int, ro = some (.int (iI v)) ∧ INVM (N + 1) σ2 ∧ (σ2.1 2 = σ.1 2) ∧ K4m σ σ2) := by
  have e : d + 80 = d + 74 + 6 := by omega
  rw [e]
  refine Tm.mono (c_X12_told (d + 74) (x := x) (k := k) (f := f) (n := n) (w := w) h.rg h.itm h.par h.nam h.rtn h.lab h.b47 h.b48 h.ssa h.sca h_x h_k h_f h_n h_w) (fun ro σ2 hp => ?_)
  obtain ⟨v, rfl, F, R, q1, q2, q3, q4, q5⟩ := hp
  exact ⟨v, rfl, h.frT F R q1 q2 q3 q4 q5 (by decide) (by decide), (F.1 2 (by decide)), K4m.of F (by decide) (by decide)⟩
theorem m4_pass (d : Nat) {N : Nat} {b : Nat} {σ : MS} {w r : Int} (h_w : -2147483648 ≤ w ∧ w ≤ 2147483647) (h_r : -2147483648 ≤ r ∧ r ≤ 2147483647) (hN : N ≤ 512) (h : INVM N σ) : Tm (d + 80) m_X12_pass 0 b σ [(0, .ref b), (1, .int (iI w)), (2, .int (iI r))] [] (fun ro σ2 => ∃ v : Int, ro = some (.int (iI v)) ∧ INVM (N + 1) σ2 ∧ (σ2.1 2 = σ.1 2) ∧ K4m σ σ2) := by
  have e : d + 80 = d + 72 + 8 := by omega
  rw [e]
  refine Tm.mono (c_X12_pass (d + 72) (w := w) (r := r) h.rg h.itm h.par h.nam h.gda h.lab h.b47 h.b48 h.b59 h.b63 h.nul h.knw h_w h_r) (fun ro σ2 hp => ?_)
  obtain ⟨v, rfl, F, R, g1, g2, q1, q2, q3, q4, q5, q6, q7, q8, q9⟩ := hp
  exact ⟨v, rfl, h.frP F R g1 g2 q1 q2 q3 q4 q5 q6 q7 q8 (q9.imp (fun z => z.2) id), (F.1 2 (by decide)), K4m.of F (by decide) (by decide)⟩
theorem m4_start (d : Nat) {N : Nat} {b : Nat} {σ : MS} {x a1 a2 a3 a4 : Int} (h_x : -2147483648 ≤ x ∧ x ≤ 2147483647) (h_a1 : -2147483648 ≤ a1 ∧ a1 ≤ 2147483647) (h_a2 : -2147483648 ≤ a2 ∧ a2 ≤ 2147483647) (h_a3 : -2147483648 ≤ a3 ∧ a3 ≤ 2147483647) (h_a4 : -2147483648 ≤ a4 ∧ a4 ≤ 2147483647) (hN : N ≤ 512) (h : INVM N σ) : Tm (d + 80) m_X12_start 0 b σ [(0, .ref b), (1, .int (iI x)), (2, .int (iI a1)), (3, .int (iI a2)), (4, .int (iI a3)), (5, .int (iI a4))] [] (fun ro σ2 => ∃ v : Int, ro = some (.int (iI v)) ∧ INVM (N + 1) σ2 ∧ (σ2.1 2 = σ.1 2) ∧ K4m σ σ2 ∧ ((v = 1 ∧ 0 ≤ x ∧ x < σ.1 10) ∨ (v = 0 ∧ (x < 0 ∨ σ.1 10 ≤ x)))) := by
  have e : d + 80 = d + 77 + 3 := by omega
  rw [e]
  refine Tm.mono (c5_X12_start (d + 77) (x := x) (a1 := a1) (a2 := a2) (a3 := a3) (a4 := a4) h.rg h.itm h.par h.nam h.rtn h.pn h_x h_a1 h_a2 h_a3 h_a4) (fun ro σ2 hp => ?_)
  obtain ⟨v, rfl, v01, F, R, q1, q2, q3, q4, q5⟩ := hp
  have t76 : σ2.2.1 76 0 = σ.2.1 76 0 ∨ σ2.2.1 76 0 = 0 := by
    rcases v01 with e | e
    · exact Or.inl (by rw [(q1 e).2.2])
    · exact Or.inr (q4 e).2
  have r7 : R7 σ2 := fun a c => by
    rcases v01 with e | e
    · have g : Fr [0, 69, 70] [] [] σ σ2 := ⟨fun k hk => by
        by_cases e7 : k = 67
        · rw [e7]; exact (q1 e).1
        · by_cases e8 : k = 68
          · rw [e8]; exact (q1 e).2.1
          · exact F.1 k (by simp only [List.mem_cons, List.not_mem_nil, or_false] at hk ⊢; omega), fun k _ => by rw [(q1 e).2.2], fun k hk => F.2.2 k hk⟩
      exact h.r7.fr g (by decide) (by decide) a c
    · have z := q2 e
      have B2 : BKA σ2 0 := h.bka.fr F (by decide) (by decide)
      have e10 : σ2.1 10 = σ.1 10 := F.1 10 (by decide)
      exact RUN.new (by rw [e10]; exact z.1) (B2.2 _ z.1.1 (by rw [e10]; exact z.1.2)) z.2.1 z.2.2
  exact ⟨v, rfl, h.frS F R r7 (by omega) t76, (F.1 2 (by decide)), K4m.of F (by decide) (by decide), q5⟩
theorem m4_go (d : Nat) {N : Nat} {b : Nat} {σ : MS} {w nn : Int} (h_w : -2147483648 ≤ w ∧ w ≤ 2147483647) (h_nn : -2147483648 ≤ nn ∧ nn ≤ 2147483647) (hN : N ≤ 512) (h : INVM N σ) : Tm (d + 80) m_X12_go 0 b σ [(0, .ref b), (1, .int (iI w)), (2, .int (iI nn))] [] (fun ro σ2 => ∃ v : Int, ro = some (.int (iI v)) ∧ INVM (N + 1) σ2 ∧ (σ2.1 2 = σ.1 2) ∧ K4m σ σ2) := by
  have e : d + 80 = d + 76 + 4 := by omega
  rw [e]
  refine Tm.mono (c_X12_go (d + 76) (w := w) (nn := nn) h.rg h.itm h.par h.bka h.r7 (by have := h.n70; omega) (by have := h.n76; omega) h_w h_nn) (fun ro σ2 hp => ?_)
  obtain ⟨v, rfl, F, R, q1, q2, q3, q4⟩ := hp
  exact ⟨v, rfl, h.frG F R q1 q3 q4, (F.1 2 (by decide)), K4m.of F (by decide) (by decide)⟩
theorem m4_stack (d : Nat) {N : Nat} {b : Nat} {σ : MS} {k w : Int} (h_k : -2147483648 ≤ k ∧ k ≤ 2147483647) (h_w : -2147483648 ≤ w ∧ w ≤ 2147483647) (hN : N ≤ 512) (h : INVM N σ) : Tm (d + 80) m_X12_stack 0 b σ [(0, .ref b), (1, .int (iI k)), (2, .int (iI w))] [] (fun ro σ2 => ∃ v : Int, ro = some (.int (iI v)) ∧ INVM (N + 1) σ2 ∧ (σ2.1 2 = σ.1 2) ∧ K4m σ σ2) := by
  have e : d + 80 = d + 77 + 3 := by omega
  rw [e]
  refine Tm.mono (c_X12_stack (d + 77) (k := k) (w := w) h.rg h.itm h.par h.nam h.rtn h.run2 h_k h_w) (fun ro σ2 hp => ?_)
  obtain ⟨v, rfl, F, R⟩ := hp
  exact ⟨v, rfl, h.fr0 F R (by decide) (by decide), (F.1 2 (by decide)), K4m.of F (by decide) (by decide)⟩
theorem m4_known (d : Nat) {N : Nat} {b : Nat} {σ : MS} {k n : Int} (h_k : -2147483648 ≤ k ∧ k ≤ 2147483647) (h_n : -2147483648 ≤ n ∧ n ≤ 2147483647) (hN : N ≤ 512) (h : INVM N σ) : Tm (d + 80) m_X12_known 0 b σ [(0, .ref b), (1, .int (iI k)), (2, .int (iI n))] [] (fun ro σ2 => ∃ v : Int, ro = some (.int (iI v)) ∧ INVM (N + 1) σ2 ∧ (σ2.1 2 = σ.1 2) ∧ K4m σ σ2) := by
  have e : d + 80 = d + 73 + 7 := by omega
  rw [e]
  refine Tm.mono (c_X12_known (d + 73) (k := k) (n := n) h.rg h.itm h.par h.nam h.rtn h.run2 h.lab h.b47 h.b48 h.ssa h.sca h_k h_n) (fun ro σ2 hp => ?_)
  obtain ⟨v, rfl, F, R, q1, q2, q3, q4, q5⟩ := hp
  exact ⟨v, rfl, h.frT F R q1 q2 q3 q4 q5 (by decide) (by decide), (F.1 2 (by decide)), K4m.of F (by decide) (by decide)⟩
theorem m4_value (d : Nat) {N : Nat} {b : Nat} {σ : MS} {k n : Int} (h_k : -2147483648 ≤ k ∧ k ≤ 2147483647) (h_n : -2147483648 ≤ n ∧ n ≤ 2147483647) (hN : N ≤ 512) (h : INVM N σ) : Tm (d + 80) m_X12_value 0 b σ [(0, .ref b), (1, .int (iI k)), (2, .int (iI n))] [] (fun ro σ2 => ∃ v : Int, ro = some (.int (iI v)) ∧ INVM (N + 1) σ2 ∧ (σ2.1 2 = σ.1 2) ∧ K4m σ σ2) := by
  have e : d + 80 = d + 73 + 7 := by omega
  rw [e]
  refine Tm.mono (c_X12_value (d + 73) (k := k) (n := n) h.rg h.itm h.par h.nam h.rtn h.run2 h.lab h.b47 h.b48 h.ssa h.sca h_k h_n) (fun ro σ2 hp => ?_)
  obtain ⟨v, rfl, F, R, q1, q2, q3, q4, q5⟩ := hp
  exact ⟨v, rfl, h.frT F R q1 q2 q3 q4 q5 (by decide) (by decide), (F.1 2 (by decide)), K4m.of F (by decide) (by decide)⟩
theorem m4_run (d : Nat) {N : Nat} {b : Nat} {σ : MS} {w : Int} (h_w : -2147483648 ≤ w ∧ w ≤ 2147483647) (hN : N ≤ 512) (h : INVM N σ) : Tm (d + 80) m_X12_run 0 b σ [(0, .ref b), (1, .int (iI w))] [] (fun ro σ2 => ∃ v : Int, ro = some (.int (iI v)) ∧ INVM (N + 1) σ2 ∧ (σ2.1 2 = σ.1 2) ∧ K4m σ σ2) := by
  have e : d + 80 = d + 78 + 2 := by omega
  rw [e]
  refine Tm.mono (c_X12_run (d + 78) (w := w) h.rg h.run1 h_w) (fun ro σ2 hp => ?_)
  obtain ⟨v, rfl, F, R⟩ := hp
  exact ⟨v, rfl, h.fr0 F R (by decide) (by decide), (F.1 2 (by decide)), K4m.of F (by decide) (by decide)⟩
theorem m4_beside (d : Nat) {N : Nat} {b : Nat} {σ : MS} {x a1 a2 a3 a4 ln : Int} (h_x : -2147483648 ≤ x ∧ x ≤ 2147483647) (h_a1 : -2147483648 ≤ a1 ∧ a1 ≤ 2147483647) (h_a2 : -2147483648 ≤ a2 ∧ a2 ≤ 2147483647) (h_a3 : -2147483648 ≤ a3 ∧ a3 ≤ 2147483647) (h_a4 : -2147483648 ≤ a4 ∧ a4 ≤ 2147483647) (h_ln : -2147483648 ≤ ln ∧ ln ≤ 2147483647) (hN : N ≤ 512) (h : INVM N σ) : Tm (d + 80) m_X12_beside 0 b σ [(0, .ref b), (1, .int (iI x)), (2, .int (iI a1)), (3, .int (iI a2)), (4, .int (iI a3)), (5, .int (iI a4)), (6, .int (iI ln))] [] (fun ro σ2 => ∃ v : Int, ro = some (.int (iI v)) ∧ INVM (N + 1) σ2 ∧ (σ2.1 2 = σ.1 2) ∧ K4m σ σ2) := by
  have e : d + 80 = d + 71 + 9 := by omega
  rw [e]
  refine Tm.mono (c_X12_beside (d + 71) (x := x) (a1 := a1) (a2 := a2) (a3 := a3) (a4 := a4) (ln := ln) h.rg h.itm h.par h.nam h.gda h.lab h.b47 h.b48 h.ssa h.sca h.pla h_x h_a1 h_a2 h_a3 h_a4 h_ln) (fun ro σ2 hp => ?_)
  obtain ⟨v, rfl, F, R, q1, q2, q3, q4, q5, q6⟩ := hp
  exact ⟨v, rfl, h.frB F R q1 q2 q3 q4 q5 q6 (by decide) (by decide), (F.1 2 (by decide)), K4m.of F (by decide) (by decide)⟩
theorem m4_feed (d : Nat) {N : Nat} {b : Nat} {σ : MS} {x1 x2 x3 x4 x5 : Int} (h_x1 : -2147483648 ≤ x1 ∧ x1 ≤ 2147483647) (h_x2 : -2147483648 ≤ x2 ∧ x2 ≤ 2147483647) (h_x3 : -2147483648 ≤ x3 ∧ x3 ≤ 2147483647) (h_x4 : -2147483648 ≤ x4 ∧ x4 ≤ 2147483647) (h_x5 : -2147483648 ≤ x5 ∧ x5 ≤ 2147483647) (hN : N ≤ 512) (h : INVM N σ) : Tm (d + 80) m_X12_feed 0 b σ [(0, .ref b), (1, .int (iI x1)), (2, .int (iI x2)), (3, .int (iI x3)), (4, .int (iI x4)), (5, .int (iI x5))] [] (fun ro σ2 => ∃ v : Int, ro = some (.int (iI v)) ∧ INVM (N + 1) σ2 ∧ ((σ.1 2 ≤ 1180 ∧ v = σ.1 2 + 20 ∧ σ2.1 2 = σ.1 2 + 20) ∨ (1180 < σ.1 2 ∧ v = -1 ∧ σ2.1 2 = σ.1 2)) ∧ (σ.1 2 ≤ 1180 → σ2.2.1 1 = w20 (σ.2.1 1) (σ.1 2) x1 x2 x3 x4 x5) ∧ (1180 < σ.1 2 → σ2.2.1 1 = σ.2.1 1) ∧ (σ2.1 10 = σ.1 10 ∧ σ2.1 26 = σ.1 26 ∧ σ2.1 27 = σ.1 27)) := by
  have e : d + 80 = d + 78 + 2 := by omega
  rw [e]
  refine Tm.mono (c4_X12_feed (d + 78) (x1 := x1) (x2 := x2) (x3 := x3) (x4 := x4) (x5 := x5) h.rg h.sz) (fun ro σ2 hp => ?_)
  obtain ⟨v, rfl, F, R, q1, q2, q3, q4⟩ := hp
  exact ⟨v, rfl, h.fr F R (by have := h.sz; omega) (by decide) (by decide), by omega, q3, q4, F.1 10 (by decide), F.1 26 (by decide), F.1 27 (by decide)⟩
theorem m4_fault (d : Nat) {N : Nat} {b : Nat} {σ : MS} {x : Int} (h_x : -2147483648 ≤ x ∧ x ≤ 2147483647) (hN : N ≤ 512) (h : INVM N σ) : Tm (d + 80) m_X12_fault 0 b σ [(0, .ref b), (1, .int (iI x))] [] (fun ro σ2 => ∃ v : Int, ro = some (.int (iI v)) ∧ INVM (N + 1) σ2 ∧ (σ2.1 2 = σ.1 2) ∧ K4m σ σ2 ∧ ((x = 0 ∧ v = σ.1 26) ∨ (x = 1 ∧ v = σ.1 27) ∨ (x ≠ 0 ∧ x ≠ 1 ∧ v = -1))) := by
  have e : d + 80 = d + 79 + 1 := by omega
  rw [e]
  refine Tm.mono (c4_X12_fault (d + 79) (x := x) h.rg h_x) (fun ro σ2 hp => ?_)
  obtain ⟨v, rfl, F, R, q1⟩ := hp
  exact ⟨v, rfl, h.fr0 F R (by decide) (by decide), (F.1 2 (by decide)), K4m.of F (by decide) (by decide), q1⟩
theorem m4_read (d : Nat) {N : Nat} {b : Nat} {σ : MS}   (hN : N ≤ 512) (h : INVM N σ) : Tm (d + 80) m_X12_read 0 b σ [(0, .ref b)] [] (fun ro σ2 => ∃ v : Int, ro = some (.int (iI v)) ∧ INVM (N + 1) σ2 ∧ (σ2.1 2 = 0) ∧ RQ9 (sv (sS 21 (σ.1 2) σ)) v (σ2.1 26) (σ2.1 27) (σ.1 10) (σ2.1 10)) := by
  have e : d + 80 = d + 15 + 65 := by omega
  rw [e]
  refine Tm.mono (c_X12_read (d + 15)  h.rg h.sz h.nn h.n43 h.rd) (fun ro σ2 hp => ?_)
  obtain ⟨v, rfl, F, R, q1, q2, q3, q4, q5⟩ := hp
  exact ⟨v, rfl, h.frR F R q1 q2 q3 q4, q1, q5⟩
end
