theorem cd_X11_beside : Cond.code yX11_beside cX11_beside 8 (some .int) ∈ pWW := pw6 (List.mem_of_getElem? (i := 171) rfl) rfl
abbrev m_X11_beside : MT := (yX11_beside, cX11_beside, 8, (some .int))
theorem ok_X11_beside : pOk m_X11_beside := ⟨⟨cd_X11_beside, ini_11⟩, by decide +kernel, ⟨by decide +kernel, by decide +kernel⟩, Nat.le_of_ble_eq_true rfl⟩
theorem np_X11_beside : (parseMethodDescriptor yX11_beside.desc).map (fun d => d.parameters.length) = some 6 := by decide +kernel
theorem im_X11_beside : Cond.instanceMethod yX11_beside ∈ pWW := pw6 (List.mem_of_getElem? (i := 169) rfl) rfl
theorem se_X11_beside : Cond.selects RX11 yX11_beside yX11_beside ∈ pWW := pw6 (List.mem_of_getElem? (i := 170) rfl) rfl
theorem dX11_beside_50 : decode cX11_beside 50 = .ok (.iconst 0, 1) := by decide +kernel
theorem dX11_beside_51 : decode cX11_beside 51 = .ok (.istore 7, 2) := by decide +kernel
theorem dX11_beside_53 : decode cX11_beside 53 = .ok (.iload 7, 2) := by decide +kernel
theorem dX11_beside_55 : decode cX11_beside 55 = .ok (.aload_n 0, 1) := by decide +kernel
theorem dX11_beside_56 : decode cX11_beside 56 = .ok (.getfield 116, 3) := by decide +kernel
theorem dX11_beside_59 : decode cX11_beside 59 = .ok (.if_icmp .ge 24, 3) := by decide +kernel
theorem dX11_beside_62 : decode cX11_beside 62 = .ok (.aload_n 0, 1) := by decide +kernel
theorem dX11_beside_63 : decode cX11_beside 63 = .ok (.getfield 39, 3) := by decide +kernel
theorem dX11_beside_66 : decode cX11_beside 66 = .ok (.iload 7, 2) := by decide +kernel
theorem dX11_beside_68 : decode cX11_beside 68 = .ok (.aload_n 0, 1) := by decide +kernel
theorem dX11_beside_69 : decode cX11_beside 69 = .ok (.iload 7, 2) := by decide +kernel
theorem dX11_beside_71 : decode cX11_beside 71 = .ok (.invokevirtual 123, 3) := by decide +kernel
theorem dX11_beside_74 : decode cX11_beside 74 = .ok (.invokevirtual 176, 3) := by decide +kernel
theorem dX11_beside_77 : decode cX11_beside 77 = .ok (.iinc 7 1, 3) := by decide +kernel
theorem dX11_beside_80 : decode cX11_beside 80 = .ok (.goto (-27), 3) := by decide +kernel
set_option maxRecDepth 20000 in
theorem l_X11_beside_50_53 (d : Nat) {T0 : CT} {σ0 : MS} {a : Nat} {c1 : Int} {c2 : Int} {c3 : Int} {c4 : Int} {c5 : Int} {c6 : Int} {B : Int} {post : Option Value → CT → MS → Prop} (r_c1 : -2147483648 ≤ c1 ∧ c1 ≤ 2147483647) (r_c2 : -2147483648 ≤ c2 ∧ c2 ≤ 2147483647) (r_c3 : -2147483648 ≤ c3 ∧ c3 ≤ 2147483647) (r_c4 : -2147483648 ≤ c4 ∧ c4 ≤ 2147483647) (r_c5 : -2147483648 ≤ c5 ∧ c5 ≤ 2147483647) (r_c6 : 1 ≤ c6 ∧ c6 ≤ 20000) (hw0 : WT T0 σ0) (h110 : 0 ≤ σ0.2.1 110 a) (hx_83 : ∀ (T : CT) (i7 : Int) (σ : MS) , (GT T0 T) → (WT T σ) → (FrC T0 [92, 93, 94, 900] σ0 σ) → (OB T a 11) → (0 ≤ i7 ∧ i7 ≤ 2147483647) → (TR σ a B) → (SEP σ a) → Tn (d + 8) m_X11_beside 83 T σ [(0, .ref a), (1, .int (iI c1)), (2, .int (iI c2)), (3, .int (iI c3)), (4, .int (iI c4)), (5, .int (iI c5)), (6, .int (iI c6)), (7, .int (iI i7))] [] post) : ∀ (n : Nat) (T : CT) (i7 : Int) (σ : MS) , (GT T0 T) → (WT T σ) → (FrC T0 [92, 93, 94, 900] σ0 σ) → (OB T a 11) → (0 ≤ i7 ∧ i7 ≤ 2147483647) → (TR σ a B) → (SEP σ a) → (2147483700 - i7).toNat = n → Tn (d + 8) m_X11_beside 53 T σ [(0, .ref a), (1, .int (iI c1)), (2, .int (iI c2)), (3, .int (iI c3)), (4, .int (iI c4)), (5, .int (iI c5)), (6, .int (iI c6)), (7, .int (iI i7))] [] post := by
  intro n
  induction n using Nat.strongRecOn with
  | _ n ih =>
    intro T i7 σ hG hw hF h_a r_i7 htr hsep hm
    refine tn_iload dX11_beside_53 7 rfl ?_
    refine tn_aload_n dX11_beside_55 rfl 0 rfl ?_
    refine tn_getI (ci := 11) (i := 2) (n := 97) (t := σ.2.1 97 a) dX11_beside_56 rfl lay_11 (by decide) fl11_116 h_a rfl rfl (rfl) ?_
    have g1 : ((0 : Int) ≤ σ.2.1 97 a ∧ σ.2.1 97 a ≤ 6) := wf_97 hw h_a
    refine tn_icmp_ge (tgt := 83) dX11_beside_59 (by decide) ⟨by omega, by omega⟩ ⟨by omega, by omega⟩ (fun h2 => ?_) (fun h2 => ?_)
    · exact tn_sub [0, 1, 2, 3, 4, 5, 6, 7] rfl (hx_83 T (i7) σ hG hw (FrC.rfl.trans (FrC.sub hF (by decide))) h_a (by omega) htr hsep)
    · refine tn_aload_n dX11_beside_62 rfl 0 rfl ?_
      obtain ⟨x3, hx4, hk5⟩ : ∃ x : Nat, σ.2.1 102 a = (x : Int) ∧ (T x).1 = 40 := wf_102 hw h_a
      have hk5o : OB T x3 10 := ⟨by omega, by rw [hk5]; rfl, by omega⟩
      refine tn_getR (ci := 11) (i := 7) (n := 102) (x := x3) dX11_beside_63 rfl lay_11 (by decide) fl11_39 h_a rfl rfl (hx4) ?_
      refine tn_iload dX11_beside_66 7 rfl ?_
      refine tn_aload_n dX11_beside_68 rfl 0 rfl ?_
      refine tn_iload dX11_beside_69 7 rfl ?_
      refine tn_callV (M := m_X11_beside) (pc := 71) (ix := 123) (ci := 11) (M' := m_X11_codeOf) (As := [.int (iI i7)]) (rest := [.int (iI i7), .ref x3]) dX11_beside_71 ok_X11_codeOf im_X11_codeOf se_X11_codeOf ml11_123 np_X11_codeOf rfl rfl h_a rfl (Nat.le_of_ble_eq_true rfl) (Nat.le_of_ble_eq_true rfl) rfl (k_X11_codeOf (d + 6) (T := T) (σ := σ) (a := a) (r := i7) h_a (by omega) hw ) (fun r7 T9 σ8 gt10 hp => ?_)
      obtain ⟨v11, rfl, rfl, rfl, rv12⟩ := hp
      clear gt10
      rcases rv12 with rv12 | ⟨x13, rfl, hk14⟩
      · show Tn _ _ 74 T σ [(0, .ref a), (1, .int (iI c1)), (2, .int (iI c2)), (3, .int (iI c3)), (4, .int (iI c4)), (5, .int (iI c5)), (6, .int (iI c6)), (7, .int (iI i7))] (vl true v11 :: [.int (iI i7), .ref x3]) _
        rw [vl_null rv12]
        refine tn_callV (M := m_X11_beside) (pc := 74) (ix := 176) (ci := 10) (M' := m_X10_refresh) (As := [.int (iI i7), .null]) (rest := []) dX11_beside_74 ok_X10_refresh im_X10_refresh se_X10_refresh ml11_176 np_X10_refresh rfl rfl hk5o rfl (Nat.le_of_ble_eq_true rfl) (Nat.le_of_ble_eq_true rfl) rfl (k_X10_refresh_0 (d + 2) (T := T) (σ := σ) (a := x3) (r := i7) hk5o (by omega) hw ) (fun r15 T17 σ16 gt18 hp => ?_)
        obtain ⟨rfl, w20, F21⟩ := hp
        replace h_a : OB T17 a 11 := gt18.ob h_a
        show Tn _ _ 77 T17 σ16 [(0, .ref a), (1, .int (iI c1)), (2, .int (iI c2)), (3, .int (iI c3)), (4, .int (iI c4)), (5, .int (iI c5)), (6, .int (iI c6)), (7, .int (iI i7))] [] _
        refine tn_iinc (q0 := 7) (L' := [(7, .int (iI (i7 + 1))), (0, .ref a), (1, .int (iI c1)), (2, .int (iI c2)), (3, .int (iI c3)), (4, .int (iI c4)), (5, .int (iI c5)), (6, .int (iI c6))]) dX11_beside_77 rfl (by decide) rfl ?_
        refine tn_goto (tgt := 53) dX11_beside_80 (by decide) ?_
        exact tn_sub [1, 2, 3, 4, 5, 6, 7, 0] rfl (ih _ (by omega) T17 (i7 + 1) σ16 (GT.trans hG gt18) w20 ((FrC.rfl.trans (FrC.sub hF (by decide))).trans (FrC.sub (FrC.old F21 hG) (by decide))) h_a (by omega) (TR.frc htr F21 (by decide) (by decide)) (SEP.frc hsep F21 (by decide) (by decide) (by decide)) rfl)
      · show Tn _ _ 74 T σ [(0, .ref a), (1, .int (iI c1)), (2, .int (iI c2)), (3, .int (iI c3)), (4, .int (iI c4)), (5, .int (iI c5)), (6, .int (iI c6)), (7, .int (iI i7))] (vl true (x13 : Int) :: [.int (iI i7), .ref x3]) _
        rw [vl_ref rfl]
        have hk14o : OB T x13 1 := ⟨by omega, by rw [hk14]; rfl, by omega⟩
        refine tn_callV (M := m_X11_beside) (pc := 74) (ix := 176) (ci := 10) (M' := m_X10_refresh) (As := [.int (iI i7), .ref x13]) (rest := []) dX11_beside_74 ok_X10_refresh im_X10_refresh se_X10_refresh ml11_176 np_X10_refresh rfl rfl hk5o rfl (Nat.le_of_ble_eq_true rfl) (Nat.le_of_ble_eq_true rfl) rfl (k_X10_refresh (d + 2) (T := T) (σ := σ) (a := x3) (r := i7) (c := x13) hk5o (by omega) hk14o hk14 hw ) (fun r22 T24 σ23 gt25 hp => ?_)
        obtain ⟨rfl, w27, F28⟩ := hp
        replace h_a : OB T24 a 11 := gt25.ob h_a
        show Tn _ _ 77 T24 σ23 [(0, .ref a), (1, .int (iI c1)), (2, .int (iI c2)), (3, .int (iI c3)), (4, .int (iI c4)), (5, .int (iI c5)), (6, .int (iI c6)), (7, .int (iI i7))] [] _
        refine tn_iinc (q0 := 7) (L' := [(7, .int (iI (i7 + 1))), (0, .ref a), (1, .int (iI c1)), (2, .int (iI c2)), (3, .int (iI c3)), (4, .int (iI c4)), (5, .int (iI c5)), (6, .int (iI c6))]) dX11_beside_77 rfl (by decide) rfl ?_
        refine tn_goto (tgt := 53) dX11_beside_80 (by decide) ?_
        exact tn_sub [1, 2, 3, 4, 5, 6, 7, 0] rfl (ih _ (by omega) T24 (i7 + 1) σ23 (GT.trans hG gt25) w27 ((FrC.rfl.trans (FrC.sub hF (by decide))).trans (FrC.sub (FrC.old F28 hG) (by decide))) h_a (by omega) (TR.frc htr F28 (by decide) (by decide)) (SEP.frc hsep F28 (by decide) (by decide) (by decide)) rfl)
theorem fl11_267 : Cond.fieldLink RX11 267 (TX0 0).1 (TX0 0).2.1 (TX0 0).2.2.1 ∈ pWW := pw6 (List.mem_of_getElem? (i := 181) rfl) rfl
theorem fl11_270 : Cond.fieldLink RX11 270 (TX0 1).1 (TX0 1).2.1 (TX0 1).2.2.1 ∈ pWW := pw6 (List.mem_of_getElem? (i := 183) rfl) rfl
theorem ml11_273 : Cond.methodLink RX11 273 yX0_together ∈ pWW := pw6 (List.mem_of_getElem? (i := 201) rfl) rfl
theorem dX11_beside_83 : decode cX11_beside 83 = .ok (.aload_n 0, 1) := by decide +kernel
theorem dX11_beside_84 : decode cX11_beside 84 = .ok (.getfield 258, 3) := by decide +kernel
theorem dX11_beside_87 : decode cX11_beside 87 = .ok (.getfield 267, 3) := by decide +kernel
theorem dX11_beside_90 : decode cX11_beside 90 = .ok (.iload_n 1, 1) := by decide +kernel
theorem dX11_beside_91 : decode cX11_beside 91 = .ok (.iload_n 2, 1) := by decide +kernel
theorem dX11_beside_92 : decode cX11_beside 92 = .ok (.iload_n 3, 1) := by decide +kernel
theorem dX11_beside_93 : decode cX11_beside 93 = .ok (.iload 4, 2) := by decide +kernel
theorem dX11_beside_95 : decode cX11_beside 95 = .ok (.iload 5, 2) := by decide +kernel
theorem dX11_beside_97 : decode cX11_beside 97 = .ok (.invokevirtual 204, 3) := by decide +kernel
theorem dX11_beside_100 : decode cX11_beside 100 = .ok (.aload_n 0, 1) := by decide +kernel
theorem dX11_beside_101 : decode cX11_beside 101 = .ok (.getfield 258, 3) := by decide +kernel
theorem dX11_beside_104 : decode cX11_beside 104 = .ok (.getfield 270, 3) := by decide +kernel
theorem dX11_beside_107 : decode cX11_beside 107 = .ok (.iload_n 1, 1) := by decide +kernel
theorem dX11_beside_108 : decode cX11_beside 108 = .ok (.iload_n 2, 1) := by decide +kernel
theorem dX11_beside_109 : decode cX11_beside 109 = .ok (.iload_n 3, 1) := by decide +kernel
theorem dX11_beside_110 : decode cX11_beside 110 = .ok (.iload 4, 2) := by decide +kernel
theorem dX11_beside_112 : decode cX11_beside 112 = .ok (.iload 5, 2) := by decide +kernel
theorem dX11_beside_114 : decode cX11_beside 114 = .ok (.invokevirtual 204, 3) := by decide +kernel
theorem dX11_beside_117 : decode cX11_beside 117 = .ok (.aload_n 0, 1) := by decide +kernel
theorem dX11_beside_118 : decode cX11_beside 118 = .ok (.getfield 258, 3) := by decide +kernel
theorem dX11_beside_121 : decode cX11_beside 121 = .ok (.aload_n 0, 1) := by decide +kernel
theorem dX11_beside_122 : decode cX11_beside 122 = .ok (.getfield 39, 3) := by decide +kernel
theorem dX11_beside_125 : decode cX11_beside 125 = .ok (.iload 6, 2) := by decide +kernel
theorem dX11_beside_127 : decode cX11_beside 127 = .ok (.invokevirtual 273, 3) := by decide +kernel
theorem dX11_beside_130 : decode cX11_beside 130 = .ok (.ireturn, 1) := by decide +kernel
set_option maxRecDepth 20000 in
theorem k_X11_beside_50 (d : Nat) {T : CT} {σ : MS} {a : Nat} {r : Int} {p : Int} {q : Int} {s : Int} {t : Int} {n : Int} {B : Int} (ha : OB T a 11) (h_r : -2147483648 ≤ r ∧ r ≤ 2147483647) (h_p : -2147483648 ≤ p ∧ p ≤ 2147483647) (h_q : -2147483648 ≤ q ∧ q ≤ 2147483647) (h_s : -2147483648 ≤ s ∧ s ≤ 2147483647) (h_t : -2147483648 ≤ t ∧ t ≤ 2147483647) (h_n : -2147483648 ≤ n ∧ n ≤ 2147483647) (hw : WT T σ) (h110 : 0 ≤ σ.2.1 110 a) (hn : 1 ≤ n ∧ n ≤ 20000) (htr : TR σ a B) (hsep : SEP σ a) : Tn (d + 8) m_X11_beside 50 T σ [(0, .ref a), (1, .int (iI r)), (2, .int (iI p)), (3, .int (iI q)), (4, .int (iI s)), (5, .int (iI t)), (6, .int (iI n))] [] (fun ro T2 σ2 => ∃ v : Int, ro = some (.int (iI v)) ∧ WT T2 σ2 ∧ FrC T [2, 3, 4, 55, 56, 57, 58, 59, 60, 61, 62, 63, 64, 65, 66, 67, 68, 69, 70, 71, 92, 93, 94, 515, 900] σ σ2 ∧ (-2147483648 ≤ v ∧ v ≤ 2147483647) ∧ (TR σ2 a B) ∧ (SEP σ2 a) ∧ (σ2.2.1 96 a = σ.2.1 96 a)) := by
  refine tn_iconst dX11_beside_50 ?_
  refine tn_istore (L' := [(7, .int (iI 0)), (0, .ref a), (1, .int (iI r)), (2, .int (iI p)), (3, .int (iI q)), (4, .int (iI s)), (5, .int (iI t)), (6, .int (iI n))]) dX11_beside_51 (by decide) rfl ?_
  refine tn_sub [1, 2, 3, 4, 5, 6, 7, 0] rfl (l_X11_beside_50_53 (d) (σ0 := σ) (T0 := T) (a := a) (c1 := r) (c2 := p) (c3 := q) (c4 := s) (c5 := t) (c6 := n) (B := B) (by omega) (by omega) (by omega) (by omega) (by omega) (by omega) hw (by omega) (fun T3 i71 σ2 gt4 w5 F6 q7 r8 f9 f10 => ?_) _ T (0) σ GT.rfl hw FrC.rfl ha (by omega) htr hsep rfl)
  show Tn _ _ 83 T3 σ2 [(0, .ref a), (1, .int (iI r)), (2, .int (iI p)), (3, .int (iI q)), (4, .int (iI s)), (5, .int (iI t)), (6, .int (iI n)), (7, .int (iI i71))] [] _
  refine tn_aload_n dX11_beside_83 rfl 0 rfl ?_
  have nn18 : 0 ≤ σ2.2.1 110 a := (by rw [show σ2.2.1 110 a = σ.2.1 110 a from rc_F F6 (Or.inl (by decide)) (by decide) (rfl)]; omega)
  obtain ⟨x15, hx16, hk17⟩ := (wf_110 w5 q7).resolve_left (by omega)
  have hk17o : OB T3 x15 0 := ⟨by omega, by rw [hk17]; rfl, by omega⟩
  refine tn_getR (ci := 11) (i := 15) (n := 110) (x := x15) dX11_beside_84 rfl lay_11 (by decide) fl11_258 q7 rfl rfl (hx16) ?_
  obtain ⟨x19, hx20, hk21⟩ : ∃ x : Nat, σ2.2.1 0 x15 = (x : Int) ∧ (T3 x).1 = 37 := wf_0 w5 hk17o
  have hk21o : OB T3 x19 7 := ⟨by omega, by rw [hk21]; rfl, by omega⟩
  refine tn_getR (ci := 0) (i := 0) (n := 0) (x := x19) dX11_beside_87 rfl lay_0 (by decide) fl11_267 hk17o rfl rfl (hx20) ?_
  refine tn_iload_n dX11_beside_90 rfl 1 rfl ?_
  refine tn_iload_n dX11_beside_91 rfl 2 rfl ?_
  refine tn_iload_n dX11_beside_92 rfl 3 rfl ?_
  refine tn_iload dX11_beside_93 4 rfl ?_
  refine tn_iload dX11_beside_95 5 rfl ?_
  refine tn_callV (M := m_X11_beside) (pc := 97) (ix := 204) (ci := 7) (M' := m_X7_begin) (As := [.int (iI r), .int (iI p), .int (iI q), .int (iI s), .int (iI t)]) (rest := []) dX11_beside_97 ok_X7_begin im_X7_begin se_X7_begin ml11_204 np_X7_begin rfl rfl hk21o rfl (Nat.le_of_ble_eq_true rfl) (Nat.le_of_ble_eq_true rfl) rfl (k_X7_begin (d + 3) (T := T3) (σ := σ2) (a := x19) (p1 := r) (p2 := p) (p3 := q) (p4 := s) (p5 := t) hk21o hk21 (by omega) (by omega) (by omega) (by omega) (by omega) w5 ) (fun r23 T25 σ24 gt26 hp => ?_)
  obtain ⟨rfl, rfl, w30, F31, f27, f28⟩ := hp
  clear gt26
  obtain ⟨x33, hx34, hk35⟩ : ∃ x : Nat, σ2.2.1 103 a = (x : Int) ∧ (T3 x).1 = 37 := wf_103 w5 q7
  have hk35o : OB T3 x33 7 := ⟨by omega, by rw [hk35]; rfl, by omega⟩
  obtain ⟨x37, hx38, hk39⟩ : ∃ x : Nat, σ2.2.1 1 x15 = (x : Int) ∧ (T3 x).1 = 57 := wf_1 w5 hk17o
  have hk39o : OB T3 x37 7 := ⟨by omega, by rw [hk39]; rfl, by omega⟩
  have ne41 : x33 ≠ x19 := fun e => f10 x15 ((hx16)) (by rw [show σ2.2.1 0 x15 = _ from (hx20), show σ2.2.1 103 a = _ from (hx34), e])
  have tr32 : TR σ24 a B := TR.fa f9 f28 (fun t9 q9 => by have w9 : t9 = x33 := by { have w8 := (hx34); omega }; rw [w9]; exact ne41) (rc_F F31 (Or.inl (by decide)) (by decide) rfl)
  have tr32s : SEP σ24 a := SEP.frc f10 F31 (by decide) (by decide) (by decide)
  show Tn _ _ 100 T3 σ24 [(0, .ref a), (1, .int (iI r)), (2, .int (iI p)), (3, .int (iI q)), (4, .int (iI s)), (5, .int (iI t)), (6, .int (iI n)), (7, .int (iI i71))] [] _
  refine tn_aload_n dX11_beside_100 rfl 0 rfl ?_
  refine tn_getR (ci := 11) (i := 15) (n := 110) (x := x15) dX11_beside_101 rfl lay_11 (by decide) fl11_258 q7 rfl rfl (rc_F F31 (Or.inl (by decide)) (by decide) (hx16)) ?_
  refine tn_getR (ci := 0) (i := 1) (n := 1) (x := x37) dX11_beside_104 rfl lay_0 (by decide) fl11_270 hk17o rfl rfl (rc_F F31 (Or.inl (by decide)) (by decide) (hx38)) ?_
  refine tn_iload_n dX11_beside_107 rfl 1 rfl ?_
  refine tn_iload_n dX11_beside_108 rfl 2 rfl ?_
  refine tn_iload_n dX11_beside_109 rfl 3 rfl ?_
  refine tn_iload dX11_beside_110 4 rfl ?_
  refine tn_iload dX11_beside_112 5 rfl ?_
  refine tn_callV (M := m_X11_beside) (pc := 114) (ix := 204) (ci := 7) (M' := m_X7_begin) (As := [.int (iI r), .int (iI p), .int (iI q), .int (iI s), .int (iI t)]) (rest := []) dX11_beside_114 ok_X7_begin im_X7_begin se_X7_begin ml11_204 np_X7_begin rfl rfl hk39o rfl (Nat.le_of_ble_eq_true rfl) (Nat.le_of_ble_eq_true rfl) rfl (k_X7_begin_57 (d + 3) (T := T3) (σ := σ24) (a := x37) (p1 := r) (p2 := p) (p3 := q) (p4 := s) (p5 := t) hk39o hk39 (by omega) (by omega) (by omega) (by omega) (by omega) w30 ) (fun r42 T44 σ43 gt45 hp => ?_)
  obtain ⟨rfl, rfl, w51, F52, f46, f47, f48, f49⟩ := hp
  clear gt45
  have ne54 : x33 ≠ x37 := fun e => by rw [e] at hk35; omega
  have ne54t : σ43.2.1 57 x19 = σ24.2.1 57 x19 := f49 57 x19 (by decide) (fun e => by rw [e] at hk21; omega)
  have tr53 : TR σ43 a B := TR.fa tr32 f49 (fun t9 q9 => by have w9 : t9 = x33 := by { have w8 := (rc_F F31 (Or.inl (by decide)) (by decide) (hx34)); omega }; rw [w9]; exact ne54) (rc_F F52 (Or.inl (by decide)) (by decide) rfl)
  have tr53s : SEP σ43 a := SEP.frc tr32s F52 (by decide) (by decide) (by decide)
  show Tn _ _ 117 T3 σ43 [(0, .ref a), (1, .int (iI r)), (2, .int (iI p)), (3, .int (iI q)), (4, .int (iI s)), (5, .int (iI t)), (6, .int (iI n)), (7, .int (iI i71))] [] _
  refine tn_aload_n dX11_beside_117 rfl 0 rfl ?_
  refine tn_getR (ci := 11) (i := 15) (n := 110) (x := x15) dX11_beside_118 rfl lay_11 (by decide) fl11_258 q7 rfl rfl (rc_F F52 (Or.inl (by decide)) (by decide) (rc_F F31 (Or.inl (by decide)) (by decide) (hx16))) ?_
  refine tn_aload_n dX11_beside_121 rfl 0 rfl ?_
  obtain ⟨x55, hx56, hk57⟩ : ∃ x : Nat, σ2.2.1 102 a = (x : Int) ∧ (T3 x).1 = 40 := wf_102 w5 q7
  have hk57o : OB T3 x55 10 := ⟨by omega, by rw [hk57]; rfl, by omega⟩
  refine tn_getR (ci := 11) (i := 7) (n := 102) (x := x55) dX11_beside_122 rfl lay_11 (by decide) fl11_39 q7 rfl rfl (rc_F F52 (Or.inl (by decide)) (by decide) (rc_F F31 (Or.inl (by decide)) (by decide) (hx56))) ?_
  refine tn_iload dX11_beside_125 6 rfl ?_
  refine tn_callV (M := m_X11_beside) (pc := 127) (ix := 273) (ci := 0) (M' := m_X0_together) (As := [.ref x55, .int (iI n)]) (rest := []) dX11_beside_127 ok_X0_together im_X0_together se_X0_together ml11_273 np_X0_together rfl rfl hk17o rfl (Nat.le_of_ble_eq_true rfl) (Nat.le_of_ble_eq_true rfl) rfl (k_X0_together_f (d) (T := T3) (σ := σ43) (a := x15) (t := x55) (n := n) hk17o hk57o (by omega) w51 (by omega) (TB.of (rc_F F52 (Or.inl (by decide)) (by decide) (rc_F F31 (Or.inl (by decide)) (by decide) (hx20))) (by omega)) (PB.of (rc_F F52 (Or.inl (by decide)) (by decide) (rc_F F31 (Or.inl (by decide)) (by decide) (hx38))) (by unfold PIv; omega))) (fun r59 T61 σ60 gt62 hp => ?_)
  obtain ⟨v65, rfl, rfl, w66, F67, f63, f64⟩ := hp
  clear gt62
  have tr68 : TR σ60 a B := TR.f57 tr53 f64 (rc_F F52 (Or.inl (by decide)) (by decide) (rc_F F31 (Or.inl (by decide)) (by decide) (hx20))) (rc_F F52 (Or.inl (by decide)) (by decide) (rc_F F31 (Or.inl (by decide)) (by decide) (hx38))) (fun t9 q9 => by have w9 : t9 = x33 := by { have w8 := (rc_F F52 (Or.inl (by decide)) (by decide) (rc_F F31 (Or.inl (by decide)) (by decide) (hx34))); omega }; rw [w9]; exact ⟨ne41, ne54⟩) (rc_F F67 (Or.inl (by decide)) (by decide) rfl)
  have tr68s : SEP σ60 a := SEP.frc tr53s F67 (by decide) (by decide) (by decide)
  show Tn _ _ 130 T3 σ60 [(0, .ref a), (1, .int (iI r)), (2, .int (iI p)), (3, .int (iI q)), (4, .int (iI s)), (5, .int (iI t)), (6, .int (iI n)), (7, .int (iI i71))] [.int (iI v65)] _
  have q69 : σ60.2.1 96 a = σ.2.1 96 a := rc_F F67 (Or.inl (by decide)) (by decide) (rc_F F52 (Or.inl (by decide)) (by decide) (rc_F F31 (Or.inl (by decide)) (by decide) (rc_F F6 (Or.inl (by decide)) (by decide) (rfl))))
  exact tn_iret rfl dX11_beside_130 ⟨_, rfl, w66, ((((FrC.rfl.trans (FrC.sub F6 (by decide))).trans (FrC.sub (FrC.old F31 gt4) (by decide))).trans (FrC.sub (FrC.old F52 gt4) (by decide))).trans (FrC.sub (FrC.old F67 gt4) (by decide))), by omega, tr68, tr68s, by omega⟩
