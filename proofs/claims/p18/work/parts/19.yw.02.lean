section
set_option maxHeartbeats 1000000 in
set_option maxRecDepth 20000 in
theorem l_X4_addEntry_x_13 (d : Nat) {T : CT} {σ0 : MS} {a : Nat} {h : Nat} {x : Nat} {n : Int} {W : Int → It} {g : Nat} {Ng : Int} {fl : Nat} {xa : Nat} {La : Int → Int64} {P : Int} {yh : Nat} {Rg : Int → Int} {rz : Int} {base : Int} {fb : Int} {xq : Nat} {Ra : Int → Int} {Fg : Int} {W0 : Int → It} {k0 : Int} {a0 : Int} {s0 : BB} {it : It} {post : Option Value → CT → MS → Prop} (h_a : OB T a 4) (hw0 : WT T σ0) (hn0 : 0 ≤ Ng) (hh : σ0.2.1 25 a = (h : Int)) (hx : σ0.2.1 5 h = (x : Int)) (hn : σ0.2.1 6 h = n) (hg : σ0.2.1 26 a = (g : Int)) (hNg : σ0.2.1 7 g = Ng) (hfl : σ0.2.1 23 a = (fl : Int)) (hxa : σ0.2.1 18 fl = (xa : Int)) (hLa : σ0.2.2 xa = La) (hP : σ0.2.1 8 g = P) (hyh : σ0.2.1 15 g = (yh : Int)) (hRg : σ0.2.1 (1000 + yh) = Rg) (hbase : σ0.2.1 27 a = base) (hfb : σ0.2.1 29 a = fb) (hxq : σ0.2.1 24 a = (xq : Int)) (hRa : σ0.2.1 (1000 + xq) = Ra) (hN : n ≤ 200) (hra : ∀ j, 0 ≤ j → j < 8 → Ra j = it (3 + j)) (hit : ∀ m, 0 ≤ m → m < 4 → (0 ≤ it (3 + 2 * m) ∧ it (3 + 2 * m) ≤ 2) ∧ (it (3 + 2 * m) = 2 → 0 ≤ it (4 + 2 * m) ∧ it (4 + 2 * m) < 192)) (hnm : ∀ m, 0 ≤ m → m < Ng → 0 ≤ Rg m ∧ Rg m + base < 192) (hnn : ∀ g, nnC La Rg P g → 0 ≤ g ∧ g + base < 192) (hpn : (0 ≤ P ∧ P ≤ 4 ∧ P ≤ Ng) ∧ Ng ≤ 12) (har : (0 ≤ base ∧ base ≤ 192) ∧ (0 ≤ fb ∧ fb + Fg ≤ 12 ∧ 1 ≤ Fg)) (hne : x ≠ yh ∧ x ≠ xq) (hka : 0 ≤ k0 ∧ k0 + a0 ≤ n) (hs0 : s0.1 + 1 + Ng + P + cN (nnC La Rg P) 0 (192 : Int).toNat ≤ a0) (hx_133 : ∀ (i1 : Int) (σ : MS) , (WT T σ) → (FrC T [32] σ0 σ) → (0 ≤ i1 ∧ i1 ≤ 12) → (CHX [(32, a)] [x] [] σ0 σ) → (True) → (True) → (BLD (fb + Fg) W0 (cW σ x n) k0 a0 (σ.2.1 32 a) (mb1 fb base P Rg it (bA s0 (mkI 14 fb 0 0 0 0)) (Ng).toNat)) → Tn (d + 4) m_X4_addEntry 133 T σ [(0, .ref a), (1, .int (iI i1))] [] post) : ∀ (nq9 : Nat) (i1 : Int) (σ : MS) , (WT T σ) → (FrC T [32] σ0 σ) → (0 ≤ i1 ∧ i1 ≤ 12) → (CHX [(32, a)] [x] [] σ0 σ) → (BLD (fb + Fg) W0 (cW σ x n) k0 a0 (σ.2.1 32 a) (mb1 fb base P Rg it (bA s0 (mkI 14 fb 0 0 0 0)) (i1).toNat)) → (i1 ≤ Ng) → (2147483700 - i1).toNat = nq9 → Tn (d + 4) m_X4_addEntry 13 T σ [(0, .ref a), (1, .int (iI i1))] [] post := by
  intro nq9
  induction nq9 using Nat.strongRecOn with
  | _ nq9 ih =>
    intro i1 σ hw hF r_i1 hC hB h1 hm
    refine tn_iload_n dX4_addEntry_13 rfl 1 rfl ?_
    refine tn_aload_n dX4_addEntry_14 rfl 0 rfl ?_
    have hk3 : (T g).1 = 50 := ob_of ((wf_26 hw0 h_a).resolve_left (by omega)) hg
    have hk3o : OB T g 1 := ⟨by omega, by rw [hk3]; rfl, by omega⟩
    refine tn_getR (ci := 4) (i := 3) (n := 26) (x := g) dX4_addEntry_15 rfl lay_4 (by decide) fl4_33 h_a rfl rfl (rc_F hF (Or.inl (by decide)) (by decide) (hg)) ?_
    refine tn_getI (ci := 1) (i := 2) (n := 7) (t := σ0.2.1 7 g) dX4_addEntry_18 rfl lay_1 (by decide) fl4_105 hk3o rfl rfl (rc_F hF (Or.inl (by decide)) (by decide) (rfl)) ?_
    have g5 : ((0 : Int) ≤ σ0.2.1 7 g ∧ σ0.2.1 7 g ≤ 12) := wf_7 hw0 hk3o
    refine tn_icmp_ge (tgt := 133) dX4_addEntry_21 (by decide) ⟨by omega, by omega⟩ ⟨by omega, by omega⟩ (fun h6 => ?_) (fun h6 => ?_)
    · exact tn_sub [0, 1] rfl (hx_133 (i1) σ hw (FrC.rfl.trans (FrC.sub hF (by decide))) (by omega) hC True.intro True.intro (by have z := hB; rw [show i1 = Ng by omega] at z; exact z))
    · have m9 : (mb1 fb base P Rg it (bA s0 (mkI 14 fb 0 0 0 0)) (i1).toNat).1 = s0.1 + 1 + i1 + (if i1 ≤ P then i1 else P) := by rw [mb1_n _ (by omega), show ((i1.toNat : Nat) : Int) = i1 by omega]; rfl
      have m8 : (i1 < P → (mb1 fb base P Rg it (bA s0 (mkI 14 fb 0 0 0 0)) (i1).toNat).1 + 1 < a0) ∧ (mb1 fb base P Rg it (bA s0 (mkI 14 fb 0 0 0 0)) (i1).toNat).1 < a0 := by have c9 := cN_b (P := nnC La Rg P) (k := 192) (by decide); rw [m9]; split <;> omega
      have r9 := hB.1
      have r7 := hB.2.1
      have n9 := hnm i1 (by omega) (by omega)
      refine tn_aload_n dX4_addEntry_24 rfl 0 rfl ?_
      refine tn_getI (ci := 4) (i := 4) (n := 27) (t := σ0.2.1 27 a) dX4_addEntry_25 rfl lay_4 (by decide) fl4_57 h_a rfl rfl (rc_F hF (Or.inl (by decide)) (by decide) (rfl)) ?_
      have g7 : ((-2147483648 : Int) ≤ σ0.2.1 27 a ∧ σ0.2.1 27 a ≤ 2147483647) := wf_27 hw0 h_a
      refine tn_aload_n dX4_addEntry_28 rfl 0 rfl ?_
      refine tn_getR (ci := 4) (i := 3) (n := 26) (x := g) dX4_addEntry_29 rfl lay_4 (by decide) fl4_33 h_a rfl rfl (rc_F hF (Or.inl (by decide)) (by decide) (hg)) ?_
      refine tn_iconst dX4_addEntry_32 ?_
      refine tn_iload_n dX4_addEntry_33 rfl 1 rfl ?_
      obtain ⟨hk10, hl11⟩ : AR T yh 1 144 144 := ar_of (wf_15 hw0 hk3o) hyh
      have hk10i : IA T yh := by unfold IA; omega
      have cv12 : σ.2.1 (1000 + yh) = Rg := (CHX.r hC (by first | (simp; done) | (simp only [List.mem_cons, List.not_mem_nil, or_false, not_or]; first | omega | ((repeat' apply And.intro) <;> first | assumption | (apply Ne.symm; assumption))))).trans (hRg)
      refine tn_callV (M := m_X4_addEntry) (pc := 34) (ix := 122) (ci := 1) (M' := m_X1_homeOf) (As := [.int (iI 0), .int (iI i1)]) (rest := [.int (iI (σ0.2.1 27 a))]) dX4_addEntry_34 ok_X1_homeOf im_X1_homeOf se_X1_homeOf ml4_122 np_X1_homeOf rfl rfl hk3o rfl (Nat.le_of_ble_eq_true rfl) (Nat.le_of_ble_eq_true rfl) rfl (k_X1_homeOf_x (d + 1) (T := T) (σ := σ) (a := g) (f := 0) (m := i1) (xh := yh) (Rh := Rg) hk3o (by decide) (by omega) hw (rc_F hF (Or.inl (by decide)) (by decide) (hyh)) cv12 (by omega)) (fun r13 T15 σ14 gt16 hp => ?_)
      obtain ⟨v19, rfl, rfl, rfl, f17, f18⟩ := hp
      clear gt16
      show Tn _ _ 37 T σ [(0, .ref a), (1, .int (iI i1))] [.int (iI v19), .int (iI (σ0.2.1 27 a))] _
      have h9v : v19 = Rg i1 := by have z := f18; unfold ATQ at z; rw [show 12 * 0 + i1 = i1 by omega] at z; omega
      refine tn_iadd dX4_addEntry_37 ?_
      have h9 : (σ0.2.1 27 a) + v19 = base + Rg i1 := by omega
      refine tn_istore_n (L' := [(2, .int (iI ((σ0.2.1 27 a) + v19))), (0, .ref a), (1, .int (iI i1))]) dX4_addEntry_38 rfl (by decide) rfl ?_
      refine tn_iload_n dX4_addEntry_39 rfl 2 rfl ?_
      refine tn_aload_n dX4_addEntry_40 rfl 1 rfl ?_
      refine tn_getR (ci := 4) (i := 3) (n := 26) (x := g) dX4_addEntry_41 rfl lay_4 (by decide) fl4_33 h_a rfl rfl (rc_F hF (Or.inl (by decide)) (by decide) (hg)) ?_
      refine tn_getI (ci := 1) (i := 3) (n := 8) (t := σ0.2.1 8 g) dX4_addEntry_44 rfl lay_1 (by decide) fl4_108 hk3o rfl rfl (rc_F hF (Or.inl (by decide)) (by decide) (rfl)) ?_
      have g20 : ((0 : Int) ≤ σ0.2.1 8 g ∧ σ0.2.1 8 g ≤ 4) := wf_8 hw0 hk3o
      refine tn_icmp_ge (tgt := 54) dX4_addEntry_47 (by decide) ⟨by omega, by omega⟩ ⟨by omega, by omega⟩ (fun h21 => ?_) (fun h21 => ?_)
      · refine tn_iconst dX4_addEntry_54 ?_
        refine tn_istore_n (L' := [(3, .int (iI 0)), (2, .int (iI ((σ0.2.1 27 a) + v19))), (0, .ref a), (1, .int (iI i1))]) dX4_addEntry_55 rfl (by decide) rfl ?_
        refine tn_iload_n dX4_addEntry_56 rfl 0 rfl ?_
        refine tn_if_eq (tgt := 87) dX4_addEntry_57 (by decide) ⟨by decide, by decide⟩ (fun _ => ?_) (fun h => absurd h (by decide))
        refine tn_aload_n dX4_addEntry_87 rfl 2 rfl ?_
        have hk25 : (T h).1 = 50 := ob_of ((wf_25 hw0 h_a).resolve_left (by omega)) hh
        have hk25o : OB T h 1 := ⟨by omega, by rw [hk25]; rfl, by omega⟩
        refine tn_getR (ci := 4) (i := 2) (n := 25) (x := h) dX4_addEntry_88 rfl lay_4 (by decide) fl4_19 h_a rfl rfl (rc_F hF (Or.inl (by decide)) (by decide) (hh)) ?_
        refine tn_aload_n dX4_addEntry_91 rfl 2 rfl ?_
        refine tn_getI (ci := 4) (i := 9) (n := 32) (t := σ.2.1 32 a) dX4_addEntry_92 rfl lay_4 (by decide) fl4_96 h_a rfl rfl (rfl) ?_
        have g27 : ((-2147483648 : Int) ≤ σ.2.1 32 a ∧ σ.2.1 32 a ≤ 2147483647) := wf_32 hw h_a
        refine tn_iload_n dX4_addEntry_95 rfl 0 rfl ?_
        refine tn_if_eq (tgt := 103) dX4_addEntry_96 (by decide) ⟨by decide, by decide⟩ (fun _ => ?_) (fun h => absurd h (by decide))
        refine tn_iconst dX4_addEntry_103 ?_
        refine tn_iload_n dX4_addEntry_104 rfl 0 rfl ?_
        refine tn_if_eq (tgt := 112) dX4_addEntry_105 (by decide) ⟨by decide, by decide⟩ (fun _ => ?_) (fun h => absurd h (by decide))
        refine tn_iconst dX4_addEntry_112 ?_
        obtain ⟨hl33, hk32a, hk32b⟩ := cel_of (wf_5 hw0 hk25o) hx
        have hk32 : (T x).1 = 1 := hk32a (by omega)
        clear hk32a hk32b
        have hk32i : IA T x := by unfold IA; omega
        refine tn_callV (M := m_X4_addEntry) (pc := 113) (ix := 154) (ci := 1) (M' := m_X1_setWhere) (As := [.int (iI (σ.2.1 32 a)), .int (iI 1), .int (iI 0)]) (rest := []) dX4_addEntry_113 ok_X1_setWhere im_X1_setWhere se_X1_setWhere ml4_154 np_X1_setWhere rfl rfl hk25o rfl (Nat.le_of_ble_eq_true rfl) (Nat.le_of_ble_eq_true rfl) rfl (k_X1_setWhere_x (d + 1) (T := T) (σ := σ) (a := h) (k := σ.2.1 32 a) (y := 1) (z := 0) (x := x) (n := n) (W := cW σ x n) hk25o (by omega) (by decide) (by decide) hw (rc_F hF (Or.inl (by decide)) (by decide) (hx)) (rc_F hF (Or.inl (by decide)) (by decide) (hn)) rfl (by omega) (by omega)) (fun r34 T36 σ35 gt37 hp => ?_)
        obtain ⟨rfl, rfl, w41, F42, f38, f39⟩ := hp
        clear gt37
        show Tn _ _ 116 T σ35 [(3, .int (iI 0)), (2, .int (iI ((σ0.2.1 27 a) + v19))), (0, .ref a), (1, .int (iI i1))] [] _
        refine tn_aload_n dX4_addEntry_116 rfl 2 rfl ?_
        refine tn_bipush dX4_addEntry_117 (by decide) ?_
        refine tn_iload_n dX4_addEntry_119 rfl 3 rfl ?_
        refine tn_aload_n dX4_addEntry_120 rfl 2 rfl ?_
        refine tn_getI (ci := 4) (i := 6) (n := 29) (t := σ0.2.1 29 a) dX4_addEntry_121 rfl lay_4 (by decide) fl4_69 h_a rfl rfl (rc_F F42 (Or.inl (by decide)) (by decide) (rc_F hF (Or.inl (by decide)) (by decide) (rfl))) ?_
        have g43 : ((-2147483648 : Int) ≤ σ0.2.1 29 a ∧ σ0.2.1 29 a ≤ 2147483647) := wf_29 hw0 h_a
        refine tn_callV (M := m_X4_addEntry) (pc := 124) (ix := 148) (ci := 4) (M' := m_X4_addRow) (As := [.int (iI 12), .int (iI i1), .int (iI (σ0.2.1 29 a))]) (rest := []) dX4_addEntry_124 ok_X4_addRow im_X4_addRow se_X4_addRow ml4_148 np_X4_addRow rfl rfl h_a rfl (Nat.le_of_ble_eq_true rfl) (Nat.le_of_ble_eq_true rfl) rfl (k_X4_addRow_x (d + 1) (T := T) (σ := σ35) (a := a) (p1 := 12) (p2 := i1) (p3 := σ0.2.1 29 a) (h := h) (x := x) (n := n) (W := cW σ35 x n) (rz := σ.2.1 32 a) h_a (by decide) (by omega) (by omega) w41 (rc_F F42 (Or.inl (by decide)) (by decide) (rc_F hF (Or.inl (by decide)) (by decide) (hh))) (rc_F F42 (Or.inl (by decide)) (by decide) (rc_F hF (Or.inl (by decide)) (by decide) (hx))) (rc_F F42 (Or.inl (by decide)) (by decide) (rc_F hF (Or.inl (by decide)) (by decide) (hn))) rfl (rc_F F42 (Or.inl (by decide)) (by decide) (rfl)) (by omega) (by omega)) (fun r44 T46 σ45 gt47 hp => ?_)
        obtain ⟨rfl, rfl, w52, F53, f48, f49, f50⟩ := hp
        clear gt47
        first | rw [hfb] at f49 | skip
        first | rw [hbase] at f49 | skip
        first | rw [hrz] at f49 | skip
        show Tn _ _ 127 T σ45 [(3, .int (iI 0)), (2, .int (iI ((σ0.2.1 27 a) + v19))), (0, .ref a), (1, .int (iI i1))] [] _
        refine tn_iinc (q0 := 3) (L' := [(1, .int (iI (i1 + 1))), (3, .int (iI 0)), (2, .int (iI ((σ0.2.1 27 a) + v19))), (0, .ref a)]) dX4_addEntry_127 rfl (by decide) rfl ?_
        refine tn_goto (tgt := 13) dX4_addEntry_130 (by decide) ?_
        exact tn_sub [3, 0] rfl (ih _ (by omega) (i1 + 1) σ45 w52 (((FrC.rfl.trans (FrC.sub hF (by decide))).trans (FrC.sub F42 (by decide))).trans (FrC.sub F53 (by decide))) (by omega) ((hC.trans (CHX.sub f38 (by simp) (by simp) (by simp))).trans (CHX.sub f48 (by simp) (by simp) (by simp))) (by have b2 := hB.bind m8.2 f39 f49 f50 (by omega) (by omega); rw [mb1_s (by omega)]; unfold nmS; rw [if_neg (by omega)]; exact b2) (by omega) rfl)
      · refine tn_iconst dX4_addEntry_50 ?_
        refine tn_goto (tgt := 55) dX4_addEntry_51 (by decide) ?_
        refine tn_istore_n (L' := [(3, .int (iI 1)), (2, .int (iI ((σ0.2.1 27 a) + v19))), (0, .ref a), (1, .int (iI i1))]) dX4_addEntry_55 rfl (by decide) rfl ?_
        refine tn_iload_n dX4_addEntry_56 rfl 0 rfl ?_
        refine tn_if_eq (tgt := 87) dX4_addEntry_57 (by decide) ⟨by decide, by decide⟩ (fun h => absurd h (by decide)) (fun _ => ?_)
        refine tn_aload_n dX4_addEntry_60 rfl 2 rfl ?_
        refine tn_iload_n dX4_addEntry_61 rfl 1 rfl ?_
        refine tn_aload_n dX4_addEntry_62 rfl 2 rfl ?_
        obtain ⟨hk57, hl58⟩ : AR T xq 1 8 8 := ar_of (wf_24 hw0 h_a) hxq
        have hk57i : IA T xq := by unfold IA; omega
        refine tn_getR (ci := 4) (i := 1) (n := 24) (x := xq) dX4_addEntry_63 rfl lay_4 (by decide) fl4_9 h_a rfl rfl (rc_F hF (Or.inl (by decide)) (by decide) (hxq)) ?_
        refine tn_iconst dX4_addEntry_66 ?_
        refine tn_iload_n dX4_addEntry_67 rfl 3 rfl ?_
        refine tn_imul dX4_addEntry_68 ?_
        have cv59 : σ.2.1 (1000 + xq) = Ra := (CHX.r hC (by first | (simp; done) | (simp only [List.mem_cons, List.not_mem_nil, or_false, not_or]; first | omega | ((repeat' apply And.intro) <;> first | assumption | (apply Ne.symm; assumption))))).trans (hRa)
        refine tn_callSN (M := m_X4_addEntry) (pc := 69) (ix := 128) (M' := m_X11_at) (As := [.ref xq, .int (iI (2 * i1))]) (rest := [.int (iI ((σ0.2.1 27 a) + v19)), .ref a]) dX4_addEntry_69 ok_X11_at stt_X11_at nl4_128 np_X11_at rfl (Nat.le_of_ble_eq_true rfl) (Nat.le_of_ble_eq_true rfl) rfl (k_X11_at_x (d + 2) (T := T) (σ := σ) (x := xq) (i := 2 * i1) (R := Ra) hk57i (by omega) (by omega) hw cv59) (fun r60 T62 σ61 gt63 hp => ?_)
        obtain ⟨v67, rfl, rfl, rfl, f64, f65, f66⟩ := hp
        clear gt63
        clear f65
        have f66u := f66
        unfold ATQ at f66u
        show Tn _ _ 72 T σ [(3, .int (iI 1)), (2, .int (iI ((σ0.2.1 27 a) + v19))), (0, .ref a), (1, .int (iI i1))] [.int (iI v67), .int (iI ((σ0.2.1 27 a) + v19)), .ref a] _
        have a1e : v67 = it (3 + 2 * i1) := by have z := f66; unfold ATQ at z; have z2 := hra (2 * i1 + 0) (by omega) (by omega); rw [show 3 + (2 * i1 + 0) = 3 + 2 * i1 by omega] at z2; rw [← z2]; (try rw [show 2 * i1 + 0 = 2 * i1 by omega]); omega
        refine tn_aload_n dX4_addEntry_72 rfl 2 rfl ?_
        refine tn_getR (ci := 4) (i := 1) (n := 24) (x := xq) dX4_addEntry_73 rfl lay_4 (by decide) fl4_9 h_a rfl rfl (rc_F hF (Or.inl (by decide)) (by decide) (hxq)) ?_
        refine tn_iconst dX4_addEntry_76 ?_
        refine tn_iload_n dX4_addEntry_77 rfl 3 rfl ?_
        refine tn_imul dX4_addEntry_78 ?_
        refine tn_iconst dX4_addEntry_79 ?_
        refine tn_iadd dX4_addEntry_80 ?_
        refine tn_callSN (M := m_X4_addEntry) (pc := 81) (ix := 128) (M' := m_X11_at) (As := [.ref xq, .int (iI ((2 * i1) + 1))]) (rest := [.int (iI v67), .int (iI ((σ0.2.1 27 a) + v19)), .ref a]) dX4_addEntry_81 ok_X11_at stt_X11_at nl4_128 np_X11_at rfl (Nat.le_of_ble_eq_true rfl) (Nat.le_of_ble_eq_true rfl) rfl (k_X11_at_x (d + 2) (T := T) (σ := σ) (x := xq) (i := (2 * i1) + 1) (R := Ra) hk57i (by omega) (by omega) hw cv59) (fun r68 T70 σ69 gt71 hp => ?_)
        obtain ⟨v75, rfl, rfl, rfl, f72, f73, f74⟩ := hp
        clear gt71
        clear f73
        have f74u := f74
        unfold ATQ at f74u
        show Tn _ _ 84 T σ [(3, .int (iI 1)), (2, .int (iI ((σ0.2.1 27 a) + v19))), (0, .ref a), (1, .int (iI i1))] [.int (iI v75), .int (iI v67), .int (iI ((σ0.2.1 27 a) + v19)), .ref a] _
        have a2e : v75 = it (4 + 2 * i1) := by have z := f74; unfold ATQ at z; have z2 := hra (2 * i1 + 1) (by omega) (by omega); rw [show 3 + (2 * i1 + 1) = 4 + 2 * i1 by omega] at z2; rw [← z2]; (try rw [show 2 * i1 + 0 = 2 * i1 by omega]); omega
        have t9 := hit i1 (by omega) (by omega)
        have hk78 : (T h).1 = 50 := ob_of ((wf_25 hw0 h_a).resolve_left (by omega)) hh
        have hk78o : OB T h 1 := ⟨by omega, by rw [hk78]; rfl, by omega⟩
        obtain ⟨hl83, hk82a, hk82b⟩ := cel_of (wf_5 hw0 hk78o) hx
        have hk82 : (T x).1 = 1 := hk82a (by omega)
        clear hk82a hk82b
        have hk82i : IA T x := by unfold IA; omega
        refine tn_callV (M := m_X4_addEntry) (pc := 84) (ix := 151) (ci := 4) (M' := m_X4_addCopy) (As := [.int (iI ((σ0.2.1 27 a) + v19)), .int (iI v67), .int (iI v75)]) (rest := []) dX4_addEntry_84 ok_X4_addCopy im_X4_addCopy se_X4_addCopy ml4_151 np_X4_addCopy rfl rfl h_a rfl (Nat.le_of_ble_eq_true rfl) (Nat.le_of_ble_eq_true rfl) rfl (k_X4_addCopy_x (d) (T := T) (σ := σ) (a := a) (p1 := (σ0.2.1 27 a) + v19) (p2 := v67) (p3 := v75) (h := h) (x := x) (n := n) (W := cW σ x n) (rz := σ.2.1 32 a) h_a (by omega) (by omega) (by omega) hw (rc_F hF (Or.inl (by decide)) (by decide) (hh)) (rc_F hF (Or.inl (by decide)) (by decide) (hx)) (rc_F hF (Or.inl (by decide)) (by decide) (hn)) rfl (rfl) (by omega) (by omega)) (fun r84 T86 σ85 gt87 hp => ?_)
        obtain ⟨rfl, rfl, w92, F93, f88, f89, f90⟩ := hp
        clear gt87
        first | rw [hfb] at f89 | skip
        first | rw [hbase] at f89 | skip
        first | rw [hrz] at f89 | skip
        show Tn _ _ 87 T σ85 [(3, .int (iI 1)), (2, .int (iI ((σ0.2.1 27 a) + v19))), (0, .ref a), (1, .int (iI i1))] [] _
        have r8 := f90
        refine tn_aload_n dX4_addEntry_87 rfl 2 rfl ?_
        refine tn_getR (ci := 4) (i := 2) (n := 25) (x := h) dX4_addEntry_88 rfl lay_4 (by decide) fl4_19 h_a rfl rfl (rc_F F93 (Or.inl (by decide)) (by decide) (rc_F hF (Or.inl (by decide)) (by decide) (hh))) ?_
        refine tn_aload_n dX4_addEntry_91 rfl 2 rfl ?_
        refine tn_getI (ci := 4) (i := 9) (n := 32) (t := σ85.2.1 32 a) dX4_addEntry_92 rfl lay_4 (by decide) fl4_96 h_a rfl rfl (rfl) ?_
        have g94 : ((-2147483648 : Int) ≤ σ85.2.1 32 a ∧ σ85.2.1 32 a ≤ 2147483647) := wf_32 w92 h_a
        refine tn_iload_n dX4_addEntry_95 rfl 0 rfl ?_
        refine tn_if_eq (tgt := 103) dX4_addEntry_96 (by decide) ⟨by decide, by decide⟩ (fun h => absurd h (by decide)) (fun _ => ?_)
        refine tn_iconst dX4_addEntry_99 ?_
        refine tn_goto (tgt := 104) dX4_addEntry_100 (by decide) ?_
        refine tn_iload_n dX4_addEntry_104 rfl 0 rfl ?_
        refine tn_if_eq (tgt := 112) dX4_addEntry_105 (by decide) ⟨by decide, by decide⟩ (fun h => absurd h (by decide)) (fun _ => ?_)
        refine tn_iload_n dX4_addEntry_108 rfl 1 rfl ?_
        refine tn_goto (tgt := 113) dX4_addEntry_109 (by decide) ?_
        refine tn_callV (M := m_X4_addEntry) (pc := 113) (ix := 154) (ci := 1) (M' := m_X1_setWhere) (As := [.int (iI (σ85.2.1 32 a)), .int (iI 2), .int (iI ((σ0.2.1 27 a) + v19))]) (rest := []) dX4_addEntry_113 ok_X1_setWhere im_X1_setWhere se_X1_setWhere ml4_154 np_X1_setWhere rfl rfl hk78o rfl (Nat.le_of_ble_eq_true rfl) (Nat.le_of_ble_eq_true rfl) rfl (k_X1_setWhere_x (d + 1) (T := T) (σ := σ85) (a := h) (k := σ85.2.1 32 a) (y := 2) (z := (σ0.2.1 27 a) + v19) (x := x) (n := n) (W := cW σ85 x n) hk78o (by omega) (by decide) (by omega) w92 (rc_F F93 (Or.inl (by decide)) (by decide) (rc_F hF (Or.inl (by decide)) (by decide) (hx))) (rc_F F93 (Or.inl (by decide)) (by decide) (rc_F hF (Or.inl (by decide)) (by decide) (hn))) rfl (by omega) (by omega)) (fun r97 T99 σ98 gt100 hp => ?_)
        obtain ⟨rfl, rfl, w104, F105, f101, f102⟩ := hp
        clear gt100
        show Tn _ _ 116 T σ98 [(3, .int (iI 1)), (2, .int (iI ((σ0.2.1 27 a) + v19))), (0, .ref a), (1, .int (iI i1))] [] _
        refine tn_aload_n dX4_addEntry_116 rfl 2 rfl ?_
        refine tn_bipush dX4_addEntry_117 (by decide) ?_
        refine tn_iload_n dX4_addEntry_119 rfl 3 rfl ?_
        refine tn_aload_n dX4_addEntry_120 rfl 2 rfl ?_
        refine tn_getI (ci := 4) (i := 6) (n := 29) (t := σ0.2.1 29 a) dX4_addEntry_121 rfl lay_4 (by decide) fl4_69 h_a rfl rfl (rc_F F105 (Or.inl (by decide)) (by decide) (rc_F F93 (Or.inl (by decide)) (by decide) (rc_F hF (Or.inl (by decide)) (by decide) (rfl)))) ?_
        have g106 : ((-2147483648 : Int) ≤ σ0.2.1 29 a ∧ σ0.2.1 29 a ≤ 2147483647) := wf_29 hw0 h_a
        refine tn_callV (M := m_X4_addEntry) (pc := 124) (ix := 148) (ci := 4) (M' := m_X4_addRow) (As := [.int (iI 12), .int (iI i1), .int (iI (σ0.2.1 29 a))]) (rest := []) dX4_addEntry_124 ok_X4_addRow im_X4_addRow se_X4_addRow ml4_148 np_X4_addRow rfl rfl h_a rfl (Nat.le_of_ble_eq_true rfl) (Nat.le_of_ble_eq_true rfl) rfl (k_X4_addRow_x (d + 1) (T := T) (σ := σ98) (a := a) (p1 := 12) (p2 := i1) (p3 := σ0.2.1 29 a) (h := h) (x := x) (n := n) (W := cW σ98 x n) (rz := σ85.2.1 32 a) h_a (by decide) (by omega) (by omega) w104 (rc_F F105 (Or.inl (by decide)) (by decide) (rc_F F93 (Or.inl (by decide)) (by decide) (rc_F hF (Or.inl (by decide)) (by decide) (hh)))) (rc_F F105 (Or.inl (by decide)) (by decide) (rc_F F93 (Or.inl (by decide)) (by decide) (rc_F hF (Or.inl (by decide)) (by decide) (hx)))) (rc_F F105 (Or.inl (by decide)) (by decide) (rc_F F93 (Or.inl (by decide)) (by decide) (rc_F hF (Or.inl (by decide)) (by decide) (hn)))) rfl (rc_F F105 (Or.inl (by decide)) (by decide) (rfl)) (by omega) (by omega)) (fun r107 T109 σ108 gt110 hp => ?_)
        obtain ⟨rfl, rfl, w115, F116, f111, f112, f113⟩ := hp
        clear gt110
        first | rw [hfb] at f112 | skip
        first | rw [hbase] at f112 | skip
        first | rw [hrz] at f112 | skip
        show Tn _ _ 127 T σ108 [(3, .int (iI 1)), (2, .int (iI ((σ0.2.1 27 a) + v19))), (0, .ref a), (1, .int (iI i1))] [] _
        refine tn_iinc (q0 := 3) (L' := [(1, .int (iI (i1 + 1))), (3, .int (iI 1)), (2, .int (iI ((σ0.2.1 27 a) + v19))), (0, .ref a)]) dX4_addEntry_127 rfl (by decide) rfl ?_
        refine tn_goto (tgt := 13) dX4_addEntry_130 (by decide) ?_
        exact tn_sub [3, 0] rfl (ih _ (by omega) (i1 + 1) σ108 w115 ((((FrC.rfl.trans (FrC.sub hF (by decide))).trans (FrC.sub F93 (by decide))).trans (FrC.sub F105 (by decide))).trans (FrC.sub F116 (by decide))) (by omega) (((hC.trans (CHX.sub f88 (by simp) (by simp) (by simp))).trans (CHX.sub f101 (by simp) (by simp) (by simp))).trans (CHX.sub f111 (by simp) (by simp) (by simp))) (by have b1 := hB.copy (by omega) f89 f90 (by omega) (by omega) (fun q => by have z := t9.2 (by omega); omega); rw [h9v, a1e, a2e] at b1; have e1 := f102; rw [hbase, h9v] at e1; have b2 := b1.bind (by show (mb1 fb base P Rg it (bA s0 (mkI 14 fb 0 0 0 0)) (i1).toNat).1 + 1 < a0; exact m8.1 (by omega)) e1 f112 f113 (by omega) (by omega); rw [mb1_s (by omega)]; unfold nmS; rw [if_pos (by omega)]; exact b2) (by omega) rfl)
set_option maxHeartbeats 1000000 in
set_option maxRecDepth 20000 in
theorem l_X4_addEntry_x_135 (d : Nat) {T : CT} {σ0 : MS} {a : Nat} {h : Nat} {x : Nat} {n : Int} {W : Int → It} {g : Nat} {Ng : Int} {fl : Nat} {xa : Nat} {La : Int → Int64} {P : Int} {yh : Nat} {Rg : Int → Int} {rz : Int} {base : Int} {fb : Int} {xq : Nat} {Ra : Int → Int} {Fg : Int} {W0 : Int → It} {k0 : Int} {a0 : Int} {s0 : BB} {it : It} {post : Option Value → CT → MS → Prop} (h_a : OB T a 4) (hw0 : WT T σ0) (hn0 : 0 ≤ Ng) (hh : σ0.2.1 25 a = (h : Int)) (hx : σ0.2.1 5 h = (x : Int)) (hn : σ0.2.1 6 h = n) (hg : σ0.2.1 26 a = (g : Int)) (hNg : σ0.2.1 7 g = Ng) (hfl : σ0.2.1 23 a = (fl : Int)) (hxa : σ0.2.1 18 fl = (xa : Int)) (hLa : σ0.2.2 xa = La) (hP : σ0.2.1 8 g = P) (hyh : σ0.2.1 15 g = (yh : Int)) (hRg : σ0.2.1 (1000 + yh) = Rg) (hbase : σ0.2.1 27 a = base) (hfb : σ0.2.1 29 a = fb) (hxq : σ0.2.1 24 a = (xq : Int)) (hRa : σ0.2.1 (1000 + xq) = Ra) (hN : n ≤ 200) (hra : ∀ j, 0 ≤ j → j < 8 → Ra j = it (3 + j)) (hit : ∀ m, 0 ≤ m → m < 4 → (0 ≤ it (3 + 2 * m) ∧ it (3 + 2 * m) ≤ 2) ∧ (it (3 + 2 * m) = 2 → 0 ≤ it (4 + 2 * m) ∧ it (4 + 2 * m) < 192)) (hnm : ∀ m, 0 ≤ m → m < Ng → 0 ≤ Rg m ∧ Rg m + base < 192) (hnn : ∀ g, nnC La Rg P g → 0 ≤ g ∧ g + base < 192) (hpn : (0 ≤ P ∧ P ≤ 4 ∧ P ≤ Ng) ∧ Ng ≤ 12) (har : (0 ≤ base ∧ base ≤ 192) ∧ (0 ≤ fb ∧ fb + Fg ≤ 12 ∧ 1 ≤ Fg)) (hne : x ≠ yh ∧ x ≠ xq) (hka : 0 ≤ k0 ∧ k0 + a0 ≤ n) (hs0 : s0.1 + 1 + Ng + P + cN (nnC La Rg P) 0 (192 : Int).toNat ≤ a0) (hx_168 : ∀ (i1 : Int) (σ : MS) , (WT T σ) → (FrC T [32] σ0 σ) → (0 ≤ i1 ∧ i1 ≤ 192) → (CHX [(32, a)] [x] [] σ0 σ) → (True) → (BLD (fb + Fg) W0 (cW σ x n) k0 a0 (σ.2.1 32 a) (mb2 base (nnC La Rg P) (mb1 fb base P Rg it (bA s0 (mkI 14 fb 0 0 0 0)) (Ng).toNat) (192 : Int).toNat)) → Tn (d + 4) m_X4_addEntry 168 T σ [(0, .ref a), (1, .int (iI i1))] [] post) : ∀ (nq9 : Nat) (i1 : Int) (σ : MS) , (WT T σ) → (FrC T [32] σ0 σ) → (0 ≤ i1 ∧ i1 ≤ 192) → (CHX [(32, a)] [x] [] σ0 σ) → (BLD (fb + Fg) W0 (cW σ x n) k0 a0 (σ.2.1 32 a) (mb2 base (nnC La Rg P) (mb1 fb base P Rg it (bA s0 (mkI 14 fb 0 0 0 0)) (Ng).toNat) (i1 : Int).toNat)) → (2147483700 - i1).toNat = nq9 → Tn (d + 4) m_X4_addEntry 135 T σ [(0, .ref a), (1, .int (iI i1))] [] post := by
  intro nq9
  induction nq9 using Nat.strongRecOn with
  | _ nq9 ih =>
    intro i1 σ hw hF r_i1 hC hB hm
    refine tn_iload_n dX4_addEntry_135 rfl 1 rfl ?_
    refine tn_sipush dX4_addEntry_136 (by decide) ?_
    refine tn_icmp_ge (tgt := 168) dX4_addEntry_139 (by decide) ⟨by omega, by omega⟩ ⟨by decide, by decide⟩ (fun h1 => ?_) (fun h1 => ?_)
    · exact tn_sub [0, 1] rfl (hx_168 (i1) σ hw (FrC.rfl.trans (FrC.sub hF (by decide))) (by omega) hC True.intro (by have z := hB; rw [show i1 = 192 by omega] at z; exact z))
    · have m9 : (mb2 base (nnC La Rg P) (mb1 fb base P Rg it (bA s0 (mkI 14 fb 0 0 0 0)) (Ng).toNat) (i1 : Int).toNat).1 = s0.1 + 1 + Ng + P + cN (nnC La Rg P) 0 (i1 : Int).toNat := by rw [mb2_n, mb1_n _ (by omega), show ((Ng.toNat : Nat) : Int) = Ng by omega]; show s0.1 + 1 + Ng + (if Ng ≤ P then Ng else P) + _ = _; split <;> omega
      have c8 := cN_up (P := nnC La Rg P) (i := i1 + 1) (j := 192) (by omega) (by omega)
      have c6 := cN_up (P := nnC La Rg P) (i := i1) (j := i1 + 1) (by omega) (by omega)
      have r9 := hB.1
      have r7 := hB.2.1
      refine tn_aload_n dX4_addEntry_142 rfl 0 rfl ?_
      refine tn_iload_n dX4_addEntry_143 rfl 1 rfl ?_
      have hk4 : (T g).1 = 50 := ob_of ((wf_26 hw0 h_a).resolve_left (by omega)) hg
      have hk4o : OB T g 1 := ⟨by omega, by rw [hk4]; rfl, by omega⟩
      have hk8 : (T fl).1 = 33 := ob_of (wf_23 hw0 h_a) hfl
      have hk8o : OB T fl 3 := ⟨by omega, by rw [hk8]; rfl, by omega⟩
      obtain ⟨hk12, hl13⟩ : AR T xa 3 603 603 := ar_of (wf_18 hw0 hk8o) hxa
      have cv14 : σ.2.2 xa = La := (CHX.l hC (by first | (simp; done) | (simp only [List.mem_cons, List.not_mem_nil, or_false, not_or]; first | omega | ((repeat' apply And.intro) <;> first | assumption | (apply Ne.symm; assumption))))).trans (hLa)
      obtain ⟨hk17, hl18⟩ : AR T yh 1 144 144 := ar_of (wf_15 hw0 hk4o) hyh
      have hk17i : IA T yh := by unfold IA; omega
      have cv19 : σ.2.1 (1000 + yh) = Rg := (CHX.r hC (by first | (simp; done) | (simp only [List.mem_cons, List.not_mem_nil, or_false, not_or]; first | omega | ((repeat' apply And.intro) <;> first | assumption | (apply Ne.symm; assumption))))).trans (hRg)
      refine tn_callV (M := m_X4_addEntry) (pc := 144) (ix := 111) (ci := 4) (M' := m_X4_needsNought) (As := [.int (iI i1)]) (rest := []) dX4_addEntry_144 ok_X4_needsNought im_X4_needsNought se_X4_needsNought ml4_111 np_X4_needsNought rfl rfl h_a rfl (Nat.le_of_ble_eq_true rfl) (Nat.le_of_ble_eq_true rfl) rfl (k_X4_needsNought_x (d) (T := T) (σ := σ) (a := a) (r := i1) (g := g) (fl := fl) (xa := xa) (La := La) (P := P) (yh := yh) (Rg := Rg) h_a (by omega) hw (rc_F hF (Or.inl (by decide)) (by decide) (hg)) (rc_F hF (Or.inl (by decide)) (by decide) (hfl)) (rc_F hF (Or.inl (by decide)) (by decide) (hxa)) cv14 (rc_F hF (Or.inl (by decide)) (by decide) (hP)) (rc_F hF (Or.inl (by decide)) (by decide) (hyh)) cv19 ⟨by omega, by omega⟩) (fun r20 T22 σ21 gt23 hp => ?_)
      obtain ⟨v26, rfl, rfl, rfl, f24, f25⟩ := hp
      clear gt23
      show Tn _ _ 147 T σ [(0, .ref a), (1, .int (iI i1))] [.int (iI v26)] _
      refine tn_if_eq (tgt := 162) dX4_addEntry_147 (by decide) ⟨by omega, by omega⟩ (fun h27 => ?_) (fun h27 => ?_)
      · refine tn_iinc (q0 := 1) (L' := [(1, .int (iI (i1 + 1))), (0, .ref a)]) dX4_addEntry_162 rfl (by decide) rfl ?_
        refine tn_goto (tgt := 135) dX4_addEntry_165 (by decide) ?_
        exact tn_sub [1, 0] rfl (ih _ (by omega) (i1 + 1) σ hw (FrC.rfl.trans (FrC.sub hF (by decide))) (by omega) hC (by rw [mb2_s (by omega), dI_n (f25.resolve_left (fun q => absurd q.1 (by omega))).2]; exact hB) rfl)
      · have y9 : nnC La Rg P i1 := (f25.resolve_right (fun q => absurd q.1 (by omega))).2
        have n9 := hnn i1 y9
        have c7 := cN_y (P := nnC La Rg P) (k := i1) (by omega) y9
        refine tn_aload_n dX4_addEntry_150 rfl 0 rfl ?_
        refine tn_aload_n dX4_addEntry_151 rfl 0 rfl ?_
        refine tn_getI (ci := 4) (i := 4) (n := 27) (t := σ0.2.1 27 a) dX4_addEntry_152 rfl lay_4 (by decide) fl4_57 h_a rfl rfl (rc_F hF (Or.inl (by decide)) (by decide) (rfl)) ?_
        have g28 : ((-2147483648 : Int) ≤ σ0.2.1 27 a ∧ σ0.2.1 27 a ≤ 2147483647) := wf_27 hw0 h_a
        refine tn_iload_n dX4_addEntry_155 rfl 1 rfl ?_
        refine tn_iadd dX4_addEntry_156 ?_
        refine tn_iconst dX4_addEntry_157 ?_
        refine tn_iconst dX4_addEntry_158 ?_
        have hk31 : (T h).1 = 50 := ob_of ((wf_25 hw0 h_a).resolve_left (by omega)) hh
        have hk31o : OB T h 1 := ⟨by omega, by rw [hk31]; rfl, by omega⟩
        obtain ⟨hl36, hk35a, hk35b⟩ := cel_of (wf_5 hw0 hk31o) hx
        have hk35 : (T x).1 = 1 := hk35a (by omega)
        clear hk35a hk35b
        have hk35i : IA T x := by unfold IA; omega
        refine tn_callV (M := m_X4_addEntry) (pc := 159) (ix := 151) (ci := 4) (M' := m_X4_addCopy) (As := [.int (iI ((σ0.2.1 27 a) + i1)), .int (iI 1), .int (iI 0)]) (rest := []) dX4_addEntry_159 ok_X4_addCopy im_X4_addCopy se_X4_addCopy ml4_151 np_X4_addCopy rfl rfl h_a rfl (Nat.le_of_ble_eq_true rfl) (Nat.le_of_ble_eq_true rfl) rfl (k_X4_addCopy_x (d) (T := T) (σ := σ) (a := a) (p1 := (σ0.2.1 27 a) + i1) (p2 := 1) (p3 := 0) (h := h) (x := x) (n := n) (W := cW σ x n) (rz := σ.2.1 32 a) h_a (by omega) (by decide) (by decide) hw (rc_F hF (Or.inl (by decide)) (by decide) (hh)) (rc_F hF (Or.inl (by decide)) (by decide) (hx)) (rc_F hF (Or.inl (by decide)) (by decide) (hn)) rfl (rfl) (by omega) (by omega)) (fun r37 T39 σ38 gt40 hp => ?_)
        obtain ⟨rfl, rfl, w45, F46, f41, f42, f43⟩ := hp
        clear gt40
        first | rw [hfb] at f42 | skip
        first | rw [hbase] at f42 | skip
        first | rw [hrz] at f42 | skip
        show Tn _ _ 162 T σ38 [(0, .ref a), (1, .int (iI i1))] [] _
        refine tn_iinc (q0 := 1) (L' := [(1, .int (iI (i1 + 1))), (0, .ref a)]) dX4_addEntry_162 rfl (by decide) rfl ?_
        refine tn_goto (tgt := 135) dX4_addEntry_165 (by decide) ?_
        exact tn_sub [1, 0] rfl (ih _ (by omega) (i1 + 1) σ38 w45 ((FrC.rfl.trans (FrC.sub hF (by decide))).trans (FrC.sub F46 (by decide))) (by omega) (hC.trans (CHX.sub f41 (by simp) (by simp) (by simp))) (by have b1 := hB.copy (by omega) f42 f43 (by omega) (by omega) (fun q => by omega); (try rw [hbase] at b1); rw [mb2_s (by omega), dI_y y9]; exact b1) rfl)
set_option maxHeartbeats 1000000 in
set_option maxRecDepth 20000 in
theorem k_X4_addEntry_x (d : Nat) {T : CT} {σ : MS} {a : Nat} {h : Nat} {x : Nat} {n : Int} {W : Int → It} {g : Nat} {Ng : Int} {fl : Nat} {xa : Nat} {La : Int → Int64} {P : Int} {yh : Nat} {Rg : Int → Int} {rz : Int} {base : Int} {fb : Int} {xq : Nat} {Ra : Int → Int} {Fg : Int} {W0 : Int → It} {k0 : Int} {a0 : Int} {s0 : BB} {it : It} (ha : OB T a 4) (hw : WT T σ) (hh : σ.2.1 25 a = (h : Int)) (hx : σ.2.1 5 h = (x : Int)) (hn : σ.2.1 6 h = n) (hW : cW σ x n = W) (hg : σ.2.1 26 a = (g : Int)) (hNg : σ.2.1 7 g = Ng) (hfl : σ.2.1 23 a = (fl : Int)) (hxa : σ.2.1 18 fl = (xa : Int)) (hLa : σ.2.2 xa = La) (hP : σ.2.1 8 g = P) (hyh : σ.2.1 15 g = (yh : Int)) (hRg : σ.2.1 (1000 + yh) = Rg) (hrz : σ.2.1 32 a = rz) (hbase : σ.2.1 27 a = base) (hfb : σ.2.1 29 a = fb) (hxq : σ.2.1 24 a = (xq : Int)) (hRa : σ.2.1 (1000 + xq) = Ra) (hN : n ≤ 200) (hra : ∀ j, 0 ≤ j → j < 8 → Ra j = it (3 + j)) (hit : ∀ m, 0 ≤ m → m < 4 → (0 ≤ it (3 + 2 * m) ∧ it (3 + 2 * m) ≤ 2) ∧ (it (3 + 2 * m) = 2 → 0 ≤ it (4 + 2 * m) ∧ it (4 + 2 * m) < 192)) (hnm : ∀ m, 0 ≤ m → m < Ng → 0 ≤ Rg m ∧ Rg m + base < 192) (hnn : ∀ g, nnC La Rg P g → 0 ≤ g ∧ g + base < 192) (hpn : (0 ≤ P ∧ P ≤ 4 ∧ P ≤ Ng) ∧ Ng ≤ 12) (har : (0 ≤ base ∧ base ≤ 192) ∧ (0 ≤ fb ∧ fb + Fg ≤ 12 ∧ 1 ≤ Fg)) (hne : x ≠ yh ∧ x ≠ xq) (hka : 0 ≤ k0 ∧ k0 + a0 ≤ n) (hs0 : s0.1 + 1 + Ng + P + cN (nnC La Rg P) 0 (192 : Int).toNat ≤ a0) (hB0 : BLD (fb + Fg) W0 W k0 a0 rz s0) : Tn (d + 4) m_X4_addEntry 0 T σ [(0, .ref a)] [] (fun ro T2 σ2 => ro = none ∧ T = T2 ∧ WT T2 σ2 ∧ FrC T [32] σ σ2 ∧ (CHX [(32, a)] [x] [] σ σ2) ∧ (BLD (fb + Fg) W0 (cW σ2 x n) k0 a0 (σ2.2.1 32 a) (mb2 base (nnC La Rg P) (mb1 fb base P Rg it (bA s0 (mkI 14 fb 0 0 0 0)) (Ng).toNat) (192 : Int).toNat))) := by
  have r9 := hB0.1
  have r7 := hB0.2.1
  have c9 := cN_b (P := nnC La Rg P) (k := 192) (by decide)
  refine tn_aload_n dX4_addEntry_0 rfl 0 rfl ?_
  refine tn_bipush dX4_addEntry_1 (by decide) ?_
  refine tn_aload_n dX4_addEntry_3 rfl 0 rfl ?_
  refine tn_getI (ci := 4) (i := 6) (n := 29) (t := σ.2.1 29 a) dX4_addEntry_4 rfl lay_4 (by decide) fl4_69 ha rfl rfl (rfl) ?_
  have g1 : ((-2147483648 : Int) ≤ σ.2.1 29 a ∧ σ.2.1 29 a ≤ 2147483647) := wf_29 hw ha
  refine tn_iconst dX4_addEntry_7 ?_
  have hk4 : (T h).1 = 50 := ob_of ((wf_25 hw ha).resolve_left (by omega)) hh
  have hk4o : OB T h 1 := ⟨by omega, by rw [hk4]; rfl, by omega⟩
  obtain ⟨hl9, hk8a, hk8b⟩ := cel_of (wf_5 hw hk4o) hx
  have hk8 : (T x).1 = 1 := hk8a (by omega)
  clear hk8a hk8b
  have hk8i : IA T x := by unfold IA; omega
  refine tn_callV (M := m_X4_addEntry) (pc := 8) (ix := 148) (ci := 4) (M' := m_X4_addRow) (As := [.int (iI 14), .int (iI (σ.2.1 29 a)), .int (iI 0)]) (rest := []) dX4_addEntry_8 ok_X4_addRow im_X4_addRow se_X4_addRow ml4_148 np_X4_addRow rfl rfl ha rfl (Nat.le_of_ble_eq_true rfl) (Nat.le_of_ble_eq_true rfl) rfl (k_X4_addRow_x (d + 1) (T := T) (σ := σ) (a := a) (p1 := 14) (p2 := σ.2.1 29 a) (p3 := 0) (h := h) (x := x) (n := n) (W := W) (rz := rz) ha (by decide) (by omega) (by decide) hw (hh) (hx) (hn) hW (hrz) (by omega) (by omega)) (fun r10 T12 σ11 gt13 hp => ?_)
  obtain ⟨rfl, rfl, w18, F19, f14, f15, f16⟩ := hp
  clear gt13
  first | rw [hfb] at f15 | skip
  first | rw [hbase] at f15 | skip
  first | rw [hrz] at f15 | skip
  show Tn _ _ 11 T σ11 [(0, .ref a)] [] _
  refine tn_iconst dX4_addEntry_11 ?_
  refine tn_istore_n (L' := [(1, .int (iI 0)), (0, .ref a)]) dX4_addEntry_12 rfl (by decide) rfl ?_
  have cv20 : σ11.2.2 xa = La := (CHX.l f14 (by first | (simp; done) | (simp only [List.mem_cons, List.not_mem_nil, or_false, not_or]; first | omega | ((repeat' apply And.intro) <;> first | assumption | (apply Ne.symm; assumption))))).trans (hLa)
  have cv21 : σ11.2.1 (1000 + yh) = Rg := (CHX.r f14 (by first | (simp; done) | (simp only [List.mem_cons, List.not_mem_nil, or_false, not_or]; first | omega | ((repeat' apply And.intro) <;> first | assumption | (apply Ne.symm; assumption))))).trans (hRg)
  have cv22 : σ11.2.1 (1000 + xq) = Ra := (CHX.r f14 (by first | (simp; done) | (simp only [List.mem_cons, List.not_mem_nil, or_false, not_or]; first | omega | ((repeat' apply And.intro) <;> first | assumption | (apply Ne.symm; assumption))))).trans (hRa)
  refine tn_sub [1, 0] rfl (l_X4_addEntry_x_13 (d) (T := T) (σ0 := σ11) (a := a) (h := h) (x := x) (n := n) (W := W) (g := g) (Ng := Ng) (fl := fl) (xa := xa) (La := (La)) (P := P) (yh := yh) (Rg := (Rg)) (rz := rz) (base := base) (fb := fb) (xq := xq) (Ra := (Ra)) (Fg := Fg) (W0 := W0) (k0 := k0) (a0 := a0) (s0 := s0) (it := it) ha w18 (by omega) (rc_F F19 (Or.inl (by decide)) (by decide) (hh)) (rc_F F19 (Or.inl (by decide)) (by decide) (hx)) (rc_F F19 (Or.inl (by decide)) (by decide) (hn)) (rc_F F19 (Or.inl (by decide)) (by decide) (hg)) (rc_F F19 (Or.inl (by decide)) (by decide) (hNg)) (rc_F F19 (Or.inl (by decide)) (by decide) (hfl)) (rc_F F19 (Or.inl (by decide)) (by decide) (hxa)) cv20 (rc_F F19 (Or.inl (by decide)) (by decide) (hP)) (rc_F F19 (Or.inl (by decide)) (by decide) (hyh)) cv21 (rc_F F19 (Or.inl (by decide)) (by decide) (hbase)) (rc_F F19 (Or.inl (by decide)) (by decide) (hfb)) (rc_F F19 (Or.inl (by decide)) (by decide) (hxq)) cv22 hN hra hit hnm hnn hpn har hne hka hs0 (fun i123 σ24 w27 F28 r29 f30 f31 f32 f33 => ?_) _ (0) σ11 w18 FrC.rfl (by omega) CHX.rfl (hB0.rw3 (by have c9 := cN_b (P := nnC La Rg P) (k := 192) (by decide); omega) f15 f16 (by omega)) (by omega) rfl)
  show Tn _ _ 133 T σ24 [(0, .ref a), (1, .int (iI i123))] [] _
  refine tn_iconst dX4_addEntry_133 ?_
  refine tn_istore_n (L' := [(1, .int (iI 0)), (0, .ref a)]) dX4_addEntry_134 rfl (by decide) rfl ?_
  have cv34 : σ24.2.2 xa = La := (CHX.l f30 (by first | (simp; done) | (simp only [List.mem_cons, List.not_mem_nil, or_false, not_or]; first | omega | ((repeat' apply And.intro) <;> first | assumption | (apply Ne.symm; assumption))))).trans (cv20)
  have cv35 : σ24.2.1 (1000 + yh) = Rg := (CHX.r f30 (by first | (simp; done) | (simp only [List.mem_cons, List.not_mem_nil, or_false, not_or]; first | omega | ((repeat' apply And.intro) <;> first | assumption | (apply Ne.symm; assumption))))).trans (cv21)
  have cv36 : σ24.2.1 (1000 + xq) = Ra := (CHX.r f30 (by first | (simp; done) | (simp only [List.mem_cons, List.not_mem_nil, or_false, not_or]; first | omega | ((repeat' apply And.intro) <;> first | assumption | (apply Ne.symm; assumption))))).trans (cv22)
  refine tn_sub [1, 0] rfl (l_X4_addEntry_x_135 (d) (T := T) (σ0 := σ24) (a := a) (h := h) (x := x) (n := n) (W := W) (g := g) (Ng := Ng) (fl := fl) (xa := xa) (La := (La)) (P := P) (yh := yh) (Rg := (Rg)) (rz := rz) (base := base) (fb := fb) (xq := xq) (Ra := (Ra)) (Fg := Fg) (W0 := W0) (k0 := k0) (a0 := a0) (s0 := s0) (it := it) ha w27 (by omega) (rc_F F28 (Or.inl (by decide)) (by decide) (rc_F F19 (Or.inl (by decide)) (by decide) (hh))) (rc_F F28 (Or.inl (by decide)) (by decide) (rc_F F19 (Or.inl (by decide)) (by decide) (hx))) (rc_F F28 (Or.inl (by decide)) (by decide) (rc_F F19 (Or.inl (by decide)) (by decide) (hn))) (rc_F F28 (Or.inl (by decide)) (by decide) (rc_F F19 (Or.inl (by decide)) (by decide) (hg))) (rc_F F28 (Or.inl (by decide)) (by decide) (rc_F F19 (Or.inl (by decide)) (by decide) (hNg))) (rc_F F28 (Or.inl (by decide)) (by decide) (rc_F F19 (Or.inl (by decide)) (by decide) (hfl))) (rc_F F28 (Or.inl (by decide)) (by decide) (rc_F F19 (Or.inl (by decide)) (by decide) (hxa))) cv34 (rc_F F28 (Or.inl (by decide)) (by decide) (rc_F F19 (Or.inl (by decide)) (by decide) (hP))) (rc_F F28 (Or.inl (by decide)) (by decide) (rc_F F19 (Or.inl (by decide)) (by decide) (hyh))) cv35 (rc_F F28 (Or.inl (by decide)) (by decide) (rc_F F19 (Or.inl (by decide)) (by decide) (hbase))) (rc_F F28 (Or.inl (by decide)) (by decide) (rc_F F19 (Or.inl (by decide)) (by decide) (hfb))) (rc_F F28 (Or.inl (by decide)) (by decide) (rc_F F19 (Or.inl (by decide)) (by decide) (hxq))) cv36 hN hra hit hnm hnn hpn har hne hka hs0 (fun i137 σ38 w41 F42 r43 f44 f45 f46 => ?_) _ (0) σ24 w27 FrC.rfl (by omega) CHX.rfl f33 rfl)
  show Tn _ _ 168 T σ38 [(0, .ref a), (1, .int (iI i137))] [] _
  exact tn_vret rfl dX4_addEntry_168 ⟨rfl, rfl, w41, (((FrC.rfl.trans (FrC.sub F19 (by decide))).trans (FrC.sub F28 (by decide))).trans (FrC.sub F42 (by decide))), (((CHX.rfl.trans (CHX.sub f14 (by simp) (by simp) (by simp))).trans (CHX.sub f30 (by simp) (by simp) (by simp))).trans (CHX.sub f44 (by simp) (by simp) (by simp))), f46⟩
end
section
theorem CHN.gh {T : CT} {ks : List (Nat × Nat)} {rs ls : List Nat} {σ τ : MS} {N : Nat} (h : CHN T ks rs ls σ τ) : CHN T ks rs ls σ (gh N τ) := h
theorem k_copyOfX (d : Nat) {T : CT} {σ : MS} {a : Nat} {z : Int} {N : Nat} (ha : IA T a) (hl : (T a).2 ≤ 1000000) (hv : ∀ i, VOK (T a).1 i (σ.2.1 (1000 + a) i)) (hz : z = (N : Int)) (hN : N ≤ 1000000) (hlt : (T a).2 < N) : Tn (d + 1) m_J7_copyOf_59c91 0 T σ [(0, .ref a), (1, .int (iI z))] [] (fun ro T2 σ2 => ∃ (x : Nat) (f : Int → Int), ro = some (.ref x) ∧ (T x).1 = 0 ∧ T2 = tT T x (T a).1 N ∧ σ2 = rowS (1000 + x) f (gh N σ) ∧ (∀ i, VOK (T a).1 i (f i)) ∧ ∀ i, 0 ≤ i → i < ((T a).2 : Int) → f i = σ.2.1 (1000 + a) i) := by
  refine tn_iload_n dJ7_copyOf_59c91_0 rfl 1 rfl ?_
  refine tn_aload_n dJ7_copyOf_59c91_1 rfl 0 rfl ?_
  refine tn_alenX dJ7_copyOf_59c91_2 (Or.inl ha) ?_
  refine tn_icmp_ne (tgt := 14) dJ7_copyOf_59c91_3 (by decide) ⟨by omega, by omega⟩ ⟨by omega, by omega⟩ (fun _ => ?_) (fun h => absurd h (by omega))
  refine tn_iload_n dJ7_copyOf_59c91_14 rfl 1 rfl ?_
  refine tn_newI (N := N) (k := (T a).1) dJ7_copyOf_59c91_15 arC_int ha hz hN (fun x hx => ?_)
  have hax : a ≠ x := fun e => by unfold IA at ha; rw [e] at ha; omega
  have hTa : tT T x (T a).1 N a = T a := tT_ne hax
  have ha2 : IA (tT T x (T a).1 N) a := by unfold IA; rw [hTa]; exact ha
  have hx2 : IA (tT T x (T a).1 N) x := by unfold IA; rw [tT_eq]; exact ha
  have hxl : (tT T x (T a).1 N x).2 = N := by rw [tT_eq]
  have hal : (tT T x (T a).1 N a).2 = (T a).2 := by rw [hTa]
  generalize hT2 : tT T x (T a).1 N = T2 at ha2 hx2 hxl hal
  refine tn_astore_n (L' := [(2, .ref x), (0, .ref a), (1, .int (iI z))]) dJ7_copyOf_59c91_17 rfl (by decide) rfl ?_
  refine tn_aload_n dJ7_copyOf_59c91_18 rfl 1 rfl ?_
  refine tn_iconst dJ7_copyOf_59c91_19 ?_
  refine tn_aload_n dJ7_copyOf_59c91_20 rfl 0 rfl ?_
  refine tn_iconst dJ7_copyOf_59c91_21 ?_
  refine tn_aload_n dJ7_copyOf_59c91_22 rfl 1 rfl ?_
  refine tn_alenX dJ7_copyOf_59c91_23 (Or.inl ha2) ?_
  refine tn_iload_n dJ7_copyOf_59c91_24 rfl 2 rfl ?_
  refine tn_mmin (x := ((T2 a).2 : Int)) (y := z) dJ7_copyOf_59c91_25 mlmJ7 stM_min iniM cdM_min (by omega) (Nat.le_of_ble_eq_true rfl) ⟨by omega, by omega⟩ ⟨by omega, by omega⟩ (fun m hm => ?_)
  refine tn_acopyI (a := a) (b := x) (sp := 0) (dp := 0) (n := m) dJ7_copyOf_59c91_28 mlaJ7 acNat acSt acIni ha2 hx2 ⟨by omega, by omega⟩ (by omega) (by omega) (by omega) (by omega) (by omega) (by omega) (Nat.le_of_ble_eq_true rfl) ?_
  refine tn_aload_n dJ7_copyOf_59c91_31 rfl 0 rfl ?_
  have e1 : (rowS (1000 + x) (fun _ => 0) (gh N σ)).2.1 (1000 + a) = σ.2.1 (1000 + a) := by rw [rowS_ne (by omega)]; rfl
  refine tn_aret rfl (Or.inr ⟨_, rfl⟩) (Or.inr ⟨_, rfl⟩) dJ7_copyOf_59c91_32 ⟨x, _, rfl, hx, hT2.symm, rowS_rowS, fun i => ?_, fun i i0 i1 => ?_⟩
  · rw [e1, rowS_eq]
    unfold cpZ
    by_cases h : (0 : Int) ≤ i ∧ i < 0 + m
    · rw [if_pos h, show (0 : Int) + (i - 0) = i by omega]; exact hv i
    · rw [if_neg h]; exact vok_0
  · rw [e1, rowS_eq]
    unfold cpZ
    rw [if_pos (by omega), show (0 : Int) + (i - 0) = i by omega]
def opV (W : Int → It) (k m : Int) : Int → It := fun i => if i < k then W i else if i < k + m then zI else W (i - m)
theorem cw_open {σ τ : MS} {x x2 : Nat} {n k m sp dp l f t : Int} {R1 : Int → Int} (h1 : ∀ z, 0 ≤ z → z < 13 * n → R1 z = σ.2.1 (1000 + x) z) (h3 : ∀ j, τ.2.1 (1000 + x2) j = if f ≤ j ∧ j < t then 0 else cpZ R1 R1 sp dp l j) (hk : 0 ≤ k ∧ k ≤ n) (hm : 0 ≤ m) (es : sp = 13 * k) (ed : dp = 13 * (k + m)) (el : l = 13 * (n - k)) (ef : f = 13 * k) (et : t = 13 * (k + m)) {n2 : Int} (en : n2 = n + m) : cW τ x2 n2 = opV (cW σ x n) k m := by
  subst en
  funext i c
  unfold opV
  by_cases e : (0 ≤ i ∧ i < n + m) ∧ 0 ≤ c ∧ c ≤ 12
  · have w : cW τ x2 (n + m) i c = τ.2.1 (1000 + x2) (13 * i + c) := by unfold cW; rw [if_pos e]
    rw [w, h3]
    by_cases a : i < k
    · rw [if_pos a, if_neg (by omega)]
      unfold cpZ cW
      rw [if_neg (by omega), if_pos (by omega), h1 _ (by omega) (by omega)]
    · rw [if_neg a]
      by_cases b : i < k + m
      · rw [if_pos b, if_pos (by omega)]; rfl
      · rw [if_neg b, if_neg (by omega)]
        unfold cpZ cW
        rw [if_pos (by omega), if_pos (by omega), h1 _ (by omega) (by omega), show sp + (13 * i + c - dp) = 13 * (i - m) + c by omega]
  · have w : cW τ x2 (n + m) i c = 0 := by unfold cW; rw [if_neg e]
    rw [w]
    by_cases a : i < k
    · rw [if_pos a]; unfold cW; rw [if_neg (by omega)]
    · rw [if_neg a]
      by_cases b : i < k + m
      · rw [if_pos b]; rfl
      · rw [if_neg b]; unfold cW; rw [if_neg (by omega)]
theorem cw_same {σ τ : MS} {x x2 : Nat} {n : Int} (h1 : ∀ z, 0 ≤ z → z < 13 * n → τ.2.1 (1000 + x2) z = σ.2.1 (1000 + x) z) : cW τ x2 n = cW σ x n := by
  funext i c
  unfold cW
  by_cases e : (0 ≤ i ∧ i < n) ∧ 0 ≤ c ∧ c ≤ 12
  · rw [if_pos e, if_pos e, h1 _ (by omega) (by omega)]
  · rw [if_neg e, if_neg e]
end
section
set_option maxHeartbeats 1000000 in
set_option maxRecDepth 20000 in
theorem k_X1_holdRows_x (d : Nat) {T : CT} {σ : MS} {a : Nat} {m : Int} {x : Nat} (ha : OB T a 1) (hta : (T a).1 = 50) (h_m : -2147483648 ≤ m ∧ m ≤ 2147483647) (hw : WT T σ) (hx : σ.2.1 5 a = (x : Int)) (hm : 0 ≤ m ∧ m ≤ 200) : Tn (d + 2) m_X1_holdRows 0 T σ [(0, .ref a), (1, .int (iI m))] [] (fun ro T2 σ2 => ∃ v : Int, ro = some (.int (iI v)) ∧ WT T2 σ2 ∧ FrC T [5] σ σ2 ∧ (v = 0 ∨ v = 1) ∧ (CHN T [(5, a)] [] [] σ σ2) ∧ (v = 1) ∧ (∃ x2 : Nat, σ2.2.1 5 a = (x2 : Int) ∧ (x2 = x ∨ (T x2).1 = 0) ∧ 13 * m ≤ ((T2 x2).2 : Int) ∧ ∀ z, 0 ≤ z → z < ((T x).2 : Int) → σ2.2.1 (1000 + x2) z = σ.2.1 (1000 + x) z)) := by
  refine tn_iload_n dX1_holdRows_0 rfl 1 rfl ?_
  refine tn_if_lt (tgt := 11) dX1_holdRows_1 (by decide) ⟨by omega, by omega⟩ (fun h1 => absurd h1 (by omega)) (fun h1 => ?_)
  refine tn_iload_n dX1_holdRows_4 rfl 1 rfl ?_
  refine tn_sipush dX1_holdRows_5 (by decide) ?_
  refine tn_icmp_le (tgt := 13) dX1_holdRows_8 (by decide) ⟨by omega, by omega⟩ ⟨by decide, by decide⟩ (fun h2 => ?_) (fun h2 => absurd h2 (by omega))
  refine tn_iload_n dX1_holdRows_13 rfl 1 rfl ?_
  refine tn_bipush dX1_holdRows_14 (by decide) ?_
  refine tn_imul dX1_holdRows_16 ?_
  refine tn_aload_n dX1_holdRows_17 rfl 0 rfl ?_
  obtain ⟨hl6, hk5a, hk5b⟩ := cel_of (wf_5 hw ha) hx
  have hk5 : (T x).1 = 1 := hk5a (by omega)
  clear hk5a hk5b
  have hk5i : IA T x := by unfold IA; omega
  refine tn_getR (ci := 1) (i := 0) (n := 5) (x := x) dX1_holdRows_18 rfl lay_1 (by decide) fl1_9 ha rfl rfl (hx) ?_
  refine tn_alenX dX1_holdRows_21 (Or.inl hk5i) ?_
  refine tn_icmp_le (tgt := 58) dX1_holdRows_22 (by decide) ⟨by omega, by omega⟩ ⟨by omega, by omega⟩ (fun h7 => ?_) (fun h7 => ?_)
  · refine tn_iconst dX1_holdRows_58 ?_
    exact tn_zret (v := 1) rfl (by decide) dX1_holdRows_59 ⟨_, rfl, hw, FrC.rfl, by omega, CHN.rfl, rfl, ⟨x, hx, Or.inl rfl, by omega, fun _ _ _ => rfl⟩⟩
  · refine tn_sipush dX1_holdRows_25 (by decide) ?_
    refine tn_iconst dX1_holdRows_28 ?_
    refine tn_aload_n dX1_holdRows_29 rfl 0 rfl ?_
    refine tn_getR (ci := 1) (i := 0) (n := 5) (x := x) dX1_holdRows_30 rfl lay_1 (by decide) fl1_9 ha rfl rfl (hx) ?_
    refine tn_alenX dX1_holdRows_33 (Or.inl hk5i) ?_
    refine tn_imul dX1_holdRows_34 ?_
    refine tn_mmin (x := 2600) (y := 2 * (((T x).2 : Int))) dX1_holdRows_35 mlm1_57 stM_min iniM cdM_min (by omega) (Nat.le_of_ble_eq_true rfl) ⟨by omega, by omega⟩ ⟨by omega, by omega⟩ (fun z8 g9 => ?_)
    refine tn_istore_n (L' := [(2, .int (iI z8)), (0, .ref a), (1, .int (iI m))]) dX1_holdRows_38 rfl (by decide) rfl ?_
    refine tn_aload_n dX1_holdRows_39 rfl 1 rfl ?_
    refine tn_aload_n dX1_holdRows_40 rfl 1 rfl ?_
    refine tn_getR (ci := 1) (i := 0) (n := 5) (x := x) dX1_holdRows_41 rfl lay_1 (by decide) fl1_9 ha rfl rfl (hx) ?_
    refine tn_iload_n dX1_holdRows_44 rfl 2 rfl ?_
    refine tn_bipush dX1_holdRows_45 (by decide) ?_
    refine tn_imul dX1_holdRows_47 ?_
    refine tn_iload_n dX1_holdRows_48 rfl 0 rfl ?_
    refine tn_mmax (x := m * 13) (y := z8) dX1_holdRows_49 mlm1_63 stM_max iniM cdM_max (by omega) (Nat.le_of_ble_eq_true rfl) ⟨by omega, by omega⟩ ⟨by omega, by omega⟩ (fun z10 g11 => ?_)
    have g23 : 13 * σ.2.1 6 a ≤ ((T x).2 : Int) ∨ 2600 ≤ (T x).2 := hw.2.1 a x ha hx
    obtain ⟨N22, N22e⟩ : ∃ N : Nat, z10 = (N : Int) := ⟨(z10).toNat, by omega⟩
    refine tn_callS (M := m_X1_holdRows) (pc := 52) (ix := 66) (M' := m_J7_copyOf_59c91) (As := [.ref x, .int (iI z10)]) (rest := [.ref a]) dX1_holdRows_52 ok_J7_copyOf_59c91 stt_J7_copyOf_59c91 ml1_66 np_J7_copyOf_59c91 rfl (Nat.le_of_ble_eq_true rfl) (Nat.le_of_ble_eq_true rfl) rfl (k_copyOfX (d) (T := T) (σ := σ) (a := x) (z := z10) (N := N22) hk5i (by omega) (fun i => by exact (hw.2.2.1 x (Or.inl hk5i) i)) N22e (by omega) (by omega)) (fun r12 T13 σ14 gt15 hp => ?_)
    obtain ⟨x16, f17, rfl, hx18, hT19, hs20, hf21, hf21x⟩ := hp
    show Tn _ _ 55 T13 σ14 [(2, .int (iI z8)), (0, .ref a), (1, .int (iI m))] [.ref x16, .ref a] _
    have ob32 := ha
    replace ha : OB T13 a 1 := gt15.ob ha
    replace hta : (T13 a).1 = 50 := gt15.kk hta (by decide) (by decide)
    refine tn_putV (ci := 1) (i := 0) (n := 5) (r := true) (v := (x16 : Int)) tyX1 tyX1_ok nmX1 dX1_holdRows_55 rfl lay_1 (by decide) fl1_9 rfl (tyX1_ok 0 (by decide)) (vl_ref rfl).symm rfl rfl (gt15.ob ob32) rfl rfl ?_
    obtain ⟨σ24, h25⟩ : ∃ s, s = (sA 5 a (x16 : Int) σ14) := ⟨_, rfl⟩
    rw [← h25]
    have w26 : WT T13 σ24 := by
      rw [h25, hs20, hT19]
      exact WTx.app (hw.wx) ob32 (hx) hx18 hf21 ⟨by omega, by omega⟩ (by omega) (by omega) (by rw [show σ.2.1 6 a = σ.2.1 6 a from rfl]; omega)
    have F27 : FrC T [5] σ σ24 := by
      rw [h25, hs20]
      exact FrC.put (FrC.row (FrC.gh FrC.rfl) (hk_no (by unfold NH HT; omega))) (by decide) (by decide)
    have c28 : σ24.2.1 6 a = σ.2.1 6 a := by rw [h25, hs20]; exact rc_o (by decide) (rc_r (Or.inl (by decide)) (rfl))
    have q29 : σ24.2.1 5 a = (x16 : Int) := by rw [h25]; exact ra_eq
    have l30 : (T13 x16).2 = N22 := by rw [hT19, tT_eq]
    obtain ⟨cx31, cx31i⟩ := cell_of w26 (gt15.ob ob32) q29
    have cx31t : (T13 x16).1 = 1 := cx31.1 (by omega)
    show Tn _ _ 58 T13 σ24 [(2, .int (iI z8)), (0, .ref a), (1, .int (iI m))] [] _
    have ch33 : CHN T [(5, a)] [] [] σ σ24 := by rw [h25, hs20]; exact CHN.fld (CHN.row (CHN.gh CHN.rfl) (Or.inr hx18)) (by simp) (by decide)
    have ct34 : ∀ z, 0 ≤ z → z < ((T x).2 : Int) → σ24.2.1 (1000 + x16) z = σ.2.1 (1000 + x) z := fun z z0 z1 => by rw [h25, hs20, sA_k (by omega), rowS_eq]; exact hf21x z z0 z1
    refine tn_iconst dX1_holdRows_58 ?_
    exact tn_zret (v := 1) rfl (by decide) dX1_holdRows_59 ⟨_, rfl, w26, (FrC.rfl.trans (FrC.sub F27 (by decide))), by omega, (CHN.rfl.trans (CHN.sub ch33 (by simp) (by simp) (by simp))), rfl, ⟨x16, q29, Or.inr hx18, by omega, ct34⟩⟩
end
section
set_option maxHeartbeats 1000000 in
set_option maxRecDepth 20000 in
theorem k_X1_openRows_x (d : Nat) {T : CT} {σ : MS} {a : Nat} {k : Int} {m : Int} {x : Nat} {n : Int} {W : Int → It} (ha : OB T a 1) (hta : (T a).1 = 50) (h_k : -2147483648 ≤ k ∧ k ≤ 2147483647) (h_m : -2147483648 ≤ m ∧ m ≤ 2147483647) (hw : WT T σ) (hx : σ.2.1 5 a = (x : Int)) (hn : σ.2.1 6 a = n) (hW : cW σ x n = W) (hN : n ≤ 200) (hkm : (0 ≤ k ∧ k ≤ n) ∧ 0 ≤ m ∧ n + m ≤ 200) : Tn (d + 3) m_X1_openRows 0 T σ [(0, .ref a), (1, .int (iI k)), (2, .int (iI m))] [] (fun ro T2 σ2 => ∃ v : Int, ro = some (.int (iI v)) ∧ WT T2 σ2 ∧ FrC T [5, 6] σ σ2 ∧ (v = 0 ∨ v = 1) ∧ (CHN T [(5, a), (6, a)] [x] [] σ σ2) ∧ (v = 1) ∧ (∃ x2 : Nat, σ2.2.1 5 a = (x2 : Int) ∧ (x2 = x ∨ (T x2).1 = 0) ∧ σ2.2.1 6 a = n + m ∧ cW σ2 x2 (n + m) = opV W k m)) := by
  obtain ⟨hl4, hk3a, hk3b⟩ := cel_of (wf_5 hw ha) hx
  have hk3 : (T x).1 = 1 := hk3a (by omega)
  clear hk3a hk3b
  have hk3i : IA T x := by unfold IA; omega
  have g5 : 13 * σ.2.1 6 a ≤ ((T x).2 : Int) ∨ 2600 ≤ (T x).2 := hw.2.1 a x ha hx
  refine tn_iload_n dX1_openRows_0 rfl 2 rfl ?_
  refine tn_if_lt (tgt := 29) dX1_openRows_1 (by decide) ⟨by omega, by omega⟩ (fun h6 => absurd h6 (by omega)) (fun h6 => ?_)
  refine tn_iload_n dX1_openRows_4 rfl 1 rfl ?_
  refine tn_if_lt (tgt := 29) dX1_openRows_5 (by decide) ⟨by omega, by omega⟩ (fun h7 => absurd h7 (by omega)) (fun h7 => ?_)
  refine tn_iload_n dX1_openRows_8 rfl 1 rfl ?_
  refine tn_aload_n dX1_openRows_9 rfl 0 rfl ?_
  refine tn_getI (ci := 1) (i := 1) (n := 6) (t := σ.2.1 6 a) dX1_openRows_10 rfl lay_1 (by decide) fl1_33 ha rfl rfl (rfl) ?_
  have g8 : ((0 : Int) ≤ σ.2.1 6 a ∧ σ.2.1 6 a ≤ 5000) ∧ ((T a).1 = 50 → σ.2.1 6 a ≤ 200) := wf_6 hw ha
  have g8x := g8.2
  replace g8 := g8.1
  have g8x := g8x hta
  refine tn_icmp_gt (tgt := 29) dX1_openRows_13 (by decide) ⟨by omega, by omega⟩ ⟨by omega, by omega⟩ (fun h9 => ?_) (fun h9 => ?_)
  · refine tn_iconst dX1_openRows_29 ?_
    exact tn_zret (v := 0) rfl (by decide) dX1_openRows_30 ⟨_, rfl, hw, FrC.rfl, by omega, CHN.rfl, False.elim (by omega), False.elim (by omega)⟩
  · refine tn_aload_n dX1_openRows_16 rfl 0 rfl ?_
    refine tn_aload_n dX1_openRows_17 rfl 0 rfl ?_
    refine tn_getI (ci := 1) (i := 1) (n := 6) (t := σ.2.1 6 a) dX1_openRows_18 rfl lay_1 (by decide) fl1_33 ha rfl rfl (rfl) ?_
    refine tn_iload_n dX1_openRows_21 rfl 2 rfl ?_
    refine tn_iadd dX1_openRows_22 ?_
    refine tn_callV (M := m_X1_openRows) (pc := 23) (ix := 76) (ci := 1) (M' := m_X1_holdRows) (As := [.int (iI ((σ.2.1 6 a) + m))]) (rest := []) dX1_openRows_23 ok_X1_holdRows im_X1_holdRows se_X1_holdRows ml1_76 np_X1_holdRows rfl rfl ha rfl (Nat.le_of_ble_eq_true rfl) (Nat.le_of_ble_eq_true rfl) rfl (k_X1_holdRows_x (d) (T := T) (σ := σ) (a := a) (m := (σ.2.1 6 a) + m) (x := x) ha hta (by omega) hw (hx) (by omega)) (fun r10 T12 σ11 gt13 hp => ?_)
    obtain ⟨v18, rfl, w19, F20, f14, f15, f16, f17⟩ := hp
    replace ha : OB T12 a 1 := gt13.ob ha
    replace hta : (T12 a).1 = 50 := gt13.kk hta (by decide) (by decide)
    show Tn _ _ 26 T12 σ11 [(0, .ref a), (1, .int (iI k)), (2, .int (iI m))] [.int (iI v18)] _
    have g69 : σ11.2.1 6 a = σ.2.1 6 a := rc_F F20 (Or.inl (by decide)) (by decide) (rfl)
    refine tn_if_ne (tgt := 31) dX1_openRows_26 (by decide) ⟨by omega, by omega⟩ (fun h21 => ?_) (fun h21 => ?_)
    · obtain ⟨x29, e59, ex9, el9, ec9⟩ := f17
      obtain ⟨x22, hx23, hl25, hk24a, hk24b⟩ := wf_5 w19 ha
      have hk24 : (T12 x22).1 = 1 := hk24a (by omega)
      clear hk24a hk24b
      have hk24i : IA T12 x22 := by unfold IA; omega
      have e29 : x29 = x22 := by have z : σ11.2.1 5 a = (x22 : Int) := hx23; omega
      rw [e29] at ex9 el9 ec9
      refine tn_aload_n dX1_openRows_31 rfl 0 rfl ?_
      refine tn_getR (ci := 1) (i := 0) (n := 5) (x := x22) dX1_openRows_32 rfl lay_1 (by decide) fl1_9 ha rfl rfl (hx23) ?_
      refine tn_iload_n dX1_openRows_35 rfl 1 rfl ?_
      refine tn_bipush dX1_openRows_36 (by decide) ?_
      refine tn_imul dX1_openRows_38 ?_
      refine tn_aload_n dX1_openRows_39 rfl 0 rfl ?_
      refine tn_getR (ci := 1) (i := 0) (n := 5) (x := x22) dX1_openRows_40 rfl lay_1 (by decide) fl1_9 ha rfl rfl (hx23) ?_
      refine tn_iload_n dX1_openRows_43 rfl 1 rfl ?_
      refine tn_iload_n dX1_openRows_44 rfl 2 rfl ?_
      refine tn_iadd dX1_openRows_45 ?_
      refine tn_bipush dX1_openRows_46 (by decide) ?_
      refine tn_imul dX1_openRows_48 ?_
      refine tn_aload_n dX1_openRows_49 rfl 0 rfl ?_
      refine tn_getI (ci := 1) (i := 1) (n := 6) (t := σ11.2.1 6 a) dX1_openRows_50 rfl lay_1 (by decide) fl1_33 ha rfl rfl (rfl) ?_
      have g26 : ((0 : Int) ≤ σ11.2.1 6 a ∧ σ11.2.1 6 a ≤ 5000) ∧ ((T12 a).1 = 50 → σ11.2.1 6 a ≤ 200) := wf_6 w19 ha
      have g26x := g26.2
      replace g26 := g26.1
      have g26x := g26x hta
      refine tn_iload_n dX1_openRows_53 rfl 1 rfl ?_
      refine tn_isub dX1_openRows_54 ?_
      refine tn_bipush dX1_openRows_55 (by decide) ?_
      refine tn_imul dX1_openRows_57 ?_
      refine tn_acopyI (a := x22) (b := x22) (sp := k * 13) (dp := (k + m) * 13) (n := ((σ11.2.1 6 a) - k) * 13) dX1_openRows_58 mla1_80 acNat acSt acIni hk24i hk24i ⟨by omega, by omega⟩ (by omega) (by omega) (by omega) (by omega) (by omega) (by omega) (Nat.le_of_ble_eq_true rfl) ?_
      refine tn_aload_n dX1_openRows_61 rfl 0 rfl ?_
      refine tn_getR (ci := 1) (i := 0) (n := 5) (x := x22) dX1_openRows_62 rfl lay_1 (by decide) fl1_9 ha rfl rfl (rc_r (Or.inl (by decide)) (hx23)) ?_
      refine tn_iload_n dX1_openRows_65 rfl 1 rfl ?_
      refine tn_bipush dX1_openRows_66 (by decide) ?_
      refine tn_imul dX1_openRows_68 ?_
      refine tn_iload_n dX1_openRows_69 rfl 1 rfl ?_
      refine tn_iload_n dX1_openRows_70 rfl 2 rfl ?_
      refine tn_iadd dX1_openRows_71 ?_
      refine tn_bipush dX1_openRows_72 (by decide) ?_
      refine tn_imul dX1_openRows_74 ?_
      refine tn_iconst dX1_openRows_75 ?_
      refine tn_callS (M := m_X1_openRows) (pc := 76) (ix := 72) (M' := m_J7_fill_fda19) (As := [.ref x22, .int (iI (k * 13)), .int (iI ((k + m) * 13)), .int (iI 0)]) (rest := []) dX1_openRows_76 ok_J7_fill_fda19 stt_J7_fill_fda19 ml1_72 np_J7_fill_fda19 rfl (Nat.le_of_ble_eq_true rfl) (Nat.le_of_ble_eq_true rfl) rfl (k_J7_fill_fda19_x (d) (T := T12) (σ := (rowS (1000 + x22) (cpZ (σ11.2.1 (1000 + x22)) (σ11.2.1 (1000 + x22)) (k * 13) ((k + m) * 13) (((σ11.2.1 6 a) - k) * 13)) σ11)) (x := x22) (f := k * 13) (t := (k + m) * 13) (y := 0) hk24i (by omega) (by omega) (by omega) (by decide) (w19.row (Or.inl hk24i) (vok_cp1 w19 hk24i hk24i (by have q9 := hk24; omega))) (nh_k hk24 (by unfold HT; omega)) (by omega) (by omega)) (fun r27 T29 σ28 gt30 hp => ?_)
      obtain ⟨rfl, rfl, w34, F35, f31, f32⟩ := hp
      clear gt30
      show Tn _ _ 79 T12 σ28 [(0, .ref a), (1, .int (iI k)), (2, .int (iI m))] [] _
      refine tn_aload_n dX1_openRows_79 rfl 0 rfl ?_
      refine tn_dup dX1_openRows_80 rfl ?_
      refine tn_getI (ci := 1) (i := 1) (n := 6) (t := σ11.2.1 6 a) dX1_openRows_81 rfl lay_1 (by decide) fl1_33 ha rfl rfl (rc_F F35 (Or.inl (by decide)) (by decide) (rc_r (Or.inl (by decide)) (rfl))) ?_
      refine tn_iload_n dX1_openRows_84 rfl 2 rfl ?_
      refine tn_iadd dX1_openRows_85 ?_
      refine tn_putV (ci := 1) (i := 1) (n := 6) (r := false) (v := (σ11.2.1 6 a) + m) tyX1 tyX1_ok nmX1 dX1_openRows_86 rfl lay_1 (by decide) fl1_33 rfl (tyX1_ok 1 (by decide)) rfl rfl rfl ha rfl rfl ?_
      refine tn_iconst dX1_openRows_89 ?_
      exact tn_zret (v := 1) rfl (by decide) dX1_openRows_90 ⟨_, rfl, (w34.put6 (rc_F F35 (Or.inl (by decide)) (by decide) (rc_r (Or.inl (by decide)) (hx23))) (fo_6 ⟨by omega, by omega⟩) (by omega)), ((((FrC.rfl.trans (FrC.sub F20 (by decide))).row (hk_no (GT.nh gt13 (nh_k hk24 (by unfold HT; omega))))).trans (FrC.sub (FrC.old F35 gt13) (by decide))).put (by decide) (by decide)), by omega, ((((CHN.rfl.trans (CHN.sub f15 (by simp) (by simp) (by simp))).row (ex9.imp (fun e => by rw [e]; simp) id)).trans (CHN.of f31 (by simp) (fun z q => by rw [List.mem_singleton.mp q]; exact (ex9.imp (fun e => by rw [e]; simp) id)) (by simp))).fld (by simp) (by decide)), rfl, ⟨x22, rc_o (by decide) (rc_F F35 (Or.inl (by decide)) (by decide) (rc_r (Or.inl (by decide)) (hx23))), ex9, ((show (sA 6 a ((σ11.2.1 6 a) + m) σ28).2.1 6 a = (σ11.2.1 6 a) + m from ra_eq).trans (by omega)), (by rw [cW_fld (by decide), ← hW]; exact cw_open (R1 := σ11.2.1 (1000 + x22)) (fun z z0 z1 => ec9 z z0 (by omega)) (fun j => by have z := f32 j; rw [rowS_eq] at z; exact z) ⟨by omega, by omega⟩ (by omega) (by omega) (by omega) (by omega) (by omega) (by omega) rfl)⟩⟩
    · refine tn_iconst dX1_openRows_29 ?_
      exact tn_zret (v := 0) rfl (by decide) dX1_openRows_30 ⟨_, rfl, w19, (FrC.rfl.trans (FrC.sub F20 (by decide))), by omega, (CHN.rfl.trans (CHN.sub f15 (by simp) (by simp) (by simp))), False.elim (by omega), False.elim (by omega)⟩
end
section
theorem lnA.at {W : Int → It} {k j i : Int} (h : lnA (vW W) k j) (hk : W k 0 = 10) (a : j ≤ i) (b : i ≤ k) (c : W i 0 = 11) : i = j := by
  by_cases e : i = j
  · exact e
  · have z : i < k := by
      by_cases q : i = k
      · rw [q] at c; omega
      · omega
    have w := h.2.2.2 i (by omega) z
    rw [vW_0] at w
    omega
def SPR (R R0 G : Int → Int) (b i : Int) : Prop := ∀ z, R z = if b ≤ z ∧ z < b + i then G (z - b) else R0 z
theorem SPR.nil {R G : Int → Int} {b : Int} : SPR R R G b 0 := fun z => by rw [if_neg (by omega)]
theorem SPR.step {R R2 R0 G : Int → Int} {b i y t : Int} (h : SPR R R0 G b i) (h0 : 0 ≤ i) (e : R2 = uZ R t y) (ht : t = b + i) (hy : y = G i) : SPR R2 R0 G b (i + 1) := fun z => by
  rw [e, ht]
  by_cases q : z = b + i
  · rw [q, uZ_eq, if_pos (by omega), show b + i - b = i by omega]; exact hy
  · rw [uZ_ne q, h z]
    by_cases w : b ≤ z ∧ z < b + i
    · rw [if_pos w, if_pos (by omega)]
    · rw [if_neg w, if_neg (by omega)]
theorem SPR.to {R R0 G : Int → Int} {b i t : Int} (h : SPR R R0 G b i) (e : i = t) : SPR R R0 G b t := by rw [← e]; exact h
def HMR (R R0 Gn Gh : Int → Int) (base fb i j : Int) : Prop := (∀ f m, 0 ≤ f → (f < i ∨ (f = i ∧ m < j)) → 0 ≤ m → m < Gn f → R (12 * (fb + f) + m) = base + Gh (12 * f + m)) ∧ ∀ z, z < 12 * fb → R z = R0 z
section HMRS
variable {R R2 R0 Gn Gh : Int → Int} {base fb i j y t : Int}
theorem HMR.nil : HMR R R Gn Gh base fb 0 0 := ⟨fun f m a b c d => by omega, fun z _ => rfl⟩
theorem HMR.step (h : HMR R R0 Gn Gh base fb i j) (hn : ∀ f, 0 ≤ f → f ≤ i → Gn f ≤ 12) (h0 : 0 ≤ fb ∧ 0 ≤ i ∧ 0 ≤ j ∧ j < Gn i) (e : R2 = uZ R t y) (ht : t = 12 * (fb + i) + j) (hy : y = base + Gh (12 * i + j)) : HMR R2 R0 Gn Gh base fb i (j + 1) := by
  refine ⟨fun f m a b c d => ?_, fun z q => ?_⟩
  · have nf := hn f a (by omega)
    rw [e, ht]
    by_cases q : f = i ∧ m = j
    · rw [q.1, q.2, uZ_eq]; exact hy
    · rw [uZ_ne (by omega)]; exact h.1 f m a (by omega) c d
  · have nf := hn i (by omega) (Int.le_refl i)
    rw [e, ht, uZ_ne (by omega)]; exact h.2 z q
theorem HMR.next (h : HMR R R0 Gn Gh base fb i j) (hj : Gn i ≤ j) : HMR R R0 Gn Gh base fb (i + 1) 0 := ⟨fun f m a b c d => by
  by_cases q : f = i
  · exact h.1 f m a (by rw [q] at d; omega) c d
  · exact h.1 f m a (by omega) c d, h.2⟩
theorem HMR.to {i2 j2 : Int} (h : HMR R R0 Gn Gh base fb i j) (e : i = i2) (e2 : j = j2) : HMR R R0 Gn Gh base fb i2 j2 := by rw [← e, ← e2]; exact h
end HMRS
theorem atq_in {R : Int → Int} {N i v : Int} (h : ATQ R N i v) (hi : 0 ≤ i ∧ i < N) : v = R i := by
  unfold ATQ at h
  omega
end
section
set_option maxHeartbeats 1000000 in
set_option maxRecDepth 20000 in
theorem l_X4_addFrames_x_2 (d : Nat) {T : CT} {σ : MS} {a : Nat} {kc : Int} {h : Nat} {x : Nat} {n : Int} {W : Int → It} {xR : Nat} {Hr : Int → Int} {xP : Nat} {Hp : Int → Int} {xL : Nat} {Hl : Int → Int} {xn : Nat} {Hn : Int → Int} {xh : Nat} {Hh : Int → Int} {g : Nat} {Fg : Int} {yR : Nat} {Gr : Int → Int} {yP : Nat} {Gp : Int → Int} {yL : Nat} {Gl : Int → Int} {yn : Nat} {Gn : Int → Int} {yh : Nat} {Gh : Int → Int} {base : Int} {fb : Int} {j0 : Int} {post : Option Value → CT → MS → Prop} (h_a : OB T a 4) (hw : WT T σ) (hkc : (0 ≤ kc ∧ kc < n) ∧ W kc 0 = 10) (hlA : lnA (vW W) kc j0) (hh : σ.2.1 25 a = (h : Int)) (hx : σ.2.1 5 h = (x : Int)) (hn : σ.2.1 6 h = n) (hW : cW σ x n = W) (hxR : σ.2.1 11 h = (xR : Int)) (hHr : σ.2.1 (1000 + xR) = Hr) (hxP : σ.2.1 12 h = (xP : Int)) (hHp : σ.2.1 (1000 + xP) = Hp) (hxL : σ.2.1 13 h = (xL : Int)) (hHl : σ.2.1 (1000 + xL) = Hl) (hxn : σ.2.1 14 h = (xn : Int)) (hHn : σ.2.1 (1000 + xn) = Hn) (hxh : σ.2.1 15 h = (xh : Int)) (hHh : σ.2.1 (1000 + xh) = Hh) (hg : σ.2.1 26 a = (g : Int)) (hFg : σ.2.1 10 g = Fg) (hyR : σ.2.1 11 g = (yR : Int)) (hGr : σ.2.1 (1000 + yR) = Gr) (hyP : σ.2.1 12 g = (yP : Int)) (hGp : σ.2.1 (1000 + yP) = Gp) (hyL : σ.2.1 13 g = (yL : Int)) (hGl : σ.2.1 (1000 + yL) = Gl) (hyn : σ.2.1 14 g = (yn : Int)) (hGn : σ.2.1 (1000 + yn) = Gn) (hyh : σ.2.1 15 g = (yh : Int)) (hGh : σ.2.1 (1000 + yh) = Gh) (hbase : σ.2.1 27 a = base) (hfb : σ.2.1 29 a = fb) (hN : n ≤ 200) (hds : DS [x, xR, xP, xL, xn, xh, yR, yP, yL, yn, yh]) (haf : (0 ≤ base ∧ base ≤ 192) ∧ (0 ≤ fb ∧ fb + Fg ≤ 12 ∧ 0 ≤ Fg)) (hgn : ∀ f, 0 ≤ f → f < Fg → 0 ≤ Gn f ∧ Gn f ≤ 12) (hgh : ∀ f m, 0 ≤ f → f < Fg → 0 ≤ m → m < Gn f → 0 ≤ Gh (12 * f + m) ∧ Gh (12 * f + m) < 192) (hln : (0 ≤ j0 ∧ j0 < n) ∧ -2147483648 + 100 ≤ W j0 2 ∧ W j0 2 ≤ 100000) (hgp : ∀ f, 0 ≤ f → f < Fg → -1000 ≤ Gp f ∧ Gp f ≤ 100000) (hx_26 : ∀ (i2 : Int) , (-1 ≤ i2 ∧ i2 ≤ 200) → (True) → (i2 = j0) → Tn (d + 3) m_X4_addFrames 26 T σ [(0, .ref a), (2, .int (iI i2))] [] post) : ∀ (nq9 : Nat) (i2 : Int) , (-1 ≤ i2 ∧ i2 ≤ 200) → (j0 ≤ i2 ∧ i2 ≤ kc) → (i2 + 20).toNat = nq9 → Tn (d + 3) m_X4_addFrames 2 T σ [(0, .ref a), (2, .int (iI i2))] [] post := by
  intro nq9
  induction nq9 using Nat.strongRecOn with
  | _ nq9 ih =>
    intro i2 r_i2 hI hm
    refine tn_iload_n dX4_addFrames_2 rfl 1 rfl ?_
    refine tn_if_lt (tgt := 26) dX4_addFrames_3 (by decide) ⟨by omega, by omega⟩ (fun h1 => ?_) (fun h1 => ?_)
    · exact tn_sub [0, 1] rfl (hx_26 (i2) (by omega) True.intro (by omega))
    · refine tn_aload_n dX4_addFrames_6 rfl 0 rfl ?_
      have hk4 : (T h).1 = 50 := ob_of ((wf_25 hw h_a).resolve_left (by omega)) hh
      have hk4o : OB T h 1 := ⟨by omega, by rw [hk4]; rfl, by omega⟩
      refine tn_getR (ci := 4) (i := 2) (n := 25) (x := h) dX4_addFrames_7 rfl lay_4 (by decide) fl4_19 h_a rfl rfl (hh) ?_
      refine tn_iload_n dX4_addFrames_10 rfl 1 rfl ?_
      refine tn_iconst dX4_addFrames_11 ?_
      obtain ⟨hl9, hk8a, hk8b⟩ := cel_of (wf_5 hw hk4o) hx
      have hk8 : (T x).1 = 1 := hk8a (by omega)
      clear hk8a hk8b
      have hk8i : IA T x := by unfold IA; omega
      refine tn_callV (M := m_X4_addFrames) (pc := 12) (ix := 29) (ci := 1) (M' := m_X1_get) (As := [.int (iI i2), .int (iI 0)]) (rest := []) dX4_addFrames_12 ok_X1_get im_X1_get se_X1_get ml4_29 np_X1_get rfl rfl hk4o rfl (Nat.le_of_ble_eq_true rfl) (Nat.le_of_ble_eq_true rfl) rfl (k_X1_get_x (d + 1) (T := T) (σ := σ) (a := h) (k := i2) (c := 0) (x := x) (n := n) (W := W) hk4o (by omega) (by decide) hw (hx) (hn) hW (by omega) (by omega)) (fun r10 T12 σ11 gt13 hp => ?_)
      obtain ⟨v16, rfl, rfl, rfl, f14, f15⟩ := hp
      clear gt13
      show Tn _ _ 15 T σ [(0, .ref a), (2, .int (iI i2))] [.int (iI v16)] _
      refine tn_bipush dX4_addFrames_15 (by decide) ?_
      refine tn_icmp_eq (tgt := 26) dX4_addFrames_17 (by decide) ⟨by omega, by omega⟩ ⟨by decide, by decide⟩ (fun h17 => ?_) (fun h17 => ?_)
      · exact tn_sub [0, 1] rfl (hx_26 (i2) (by omega) True.intro (hlA.at (by omega) (by omega) (by omega) (by omega)))
      · refine tn_iinc (q0 := 1) (L' := [(2, .int (iI (i2 + (-1)))), (0, .ref a)]) dX4_addFrames_20 rfl (by decide) rfl ?_
        refine tn_goto (tgt := 2) dX4_addFrames_23 (by decide) ?_
        exact tn_sub [1, 0] rfl (ih _ (by omega) (i2 + (-1)) (by omega) (by have z := hlA.2.2.1; rw [vW_0] at z; have z2 : i2 ≠ j0 := (fun e => by rw [e] at f15; omega); omega) rfl)
set_option maxHeartbeats 1000000 in
set_option maxRecDepth 20000 in
theorem l_X4_addFrames_x_179 (d : Nat) {T : CT} {σ0 : MS} {a : Nat} {c2 : Int} {c3 : Int} {c4 : Int} {Hh0 : Int → Int} {h : Nat} {x : Nat} {n : Int} {W : Int → It} {xR : Nat} {Hr : Int → Int} {xP : Nat} {Hp : Int → Int} {xL : Nat} {Hl : Int → Int} {xn : Nat} {Hn : Int → Int} {xh : Nat} {Hh : Int → Int} {g : Nat} {Fg : Int} {yR : Nat} {Gr : Int → Int} {yP : Nat} {Gp : Int → Int} {yL : Nat} {Gl : Int → Int} {yn : Nat} {Gn : Int → Int} {yh : Nat} {Gh : Int → Int} {base : Int} {fb : Int} {j0 : Int} {post : Option Value → CT → MS → Prop} (h_a : OB T a 4) (r_c2 : -1 ≤ c2 ∧ c2 ≤ 200) (r_c3 : 0 ≤ c3 ∧ c3 ≤ 12) (r_c4 : 0 ≤ c4 ∧ c4 ≤ 24) (hw0 : WT T σ0) (hc3 : (0 ≤ c3 ∧ c3 < Fg) ∧ c4 = fb + c3) (hh : σ0.2.1 25 a = (h : Int)) (hx : σ0.2.1 5 h = (x : Int)) (hn : σ0.2.1 6 h = n) (hW : cW σ0 x n = W) (hxR : σ0.2.1 11 h = (xR : Int)) (hHr : σ0.2.1 (1000 + xR) = Hr) (hxP : σ0.2.1 12 h = (xP : Int)) (hHp : σ0.2.1 (1000 + xP) = Hp) (hxL : σ0.2.1 13 h = (xL : Int)) (hHl : σ0.2.1 (1000 + xL) = Hl) (hxn : σ0.2.1 14 h = (xn : Int)) (hHn : σ0.2.1 (1000 + xn) = Hn) (hxh : σ0.2.1 15 h = (xh : Int)) (hg : σ0.2.1 26 a = (g : Int)) (hFg : σ0.2.1 10 g = Fg) (hyR : σ0.2.1 11 g = (yR : Int)) (hGr : σ0.2.1 (1000 + yR) = Gr) (hyP : σ0.2.1 12 g = (yP : Int)) (hGp : σ0.2.1 (1000 + yP) = Gp) (hyL : σ0.2.1 13 g = (yL : Int)) (hGl : σ0.2.1 (1000 + yL) = Gl) (hyn : σ0.2.1 14 g = (yn : Int)) (hGn : σ0.2.1 (1000 + yn) = Gn) (hyh : σ0.2.1 15 g = (yh : Int)) (hGh : σ0.2.1 (1000 + yh) = Gh) (hbase : σ0.2.1 27 a = base) (hfb : σ0.2.1 29 a = fb) (hN : n ≤ 200) (hds : DS [x, xR, xP, xL, xn, xh, yR, yP, yL, yn, yh]) (haf : (0 ≤ base ∧ base ≤ 192) ∧ (0 ≤ fb ∧ fb + Fg ≤ 12 ∧ 0 ≤ Fg)) (hgn : ∀ f, 0 ≤ f → f < Fg → 0 ≤ Gn f ∧ Gn f ≤ 12) (hgh : ∀ f m, 0 ≤ f → f < Fg → 0 ≤ m → m < Gn f → 0 ≤ Gh (12 * f + m) ∧ Gh (12 * f + m) < 192) (hln : (0 ≤ j0 ∧ j0 < n) ∧ -2147483648 + 100 ≤ W j0 2 ∧ W j0 2 ≤ 100000) (hgp : ∀ f, 0 ≤ f → f < Fg → -1000 ≤ Gp f ∧ Gp f ≤ 100000) (hx_234 : ∀ (i5 : Int) (σ : MS) , (WT T σ) → (FrC T [] σ0 σ) → (0 ≤ i5 ∧ i5 ≤ 12) → (CHX [] [xh] [] σ0 σ) → (True) → (True) → (HMR (σ.2.1 (1000 + xh)) Hh0 Gn Gh base fb (c3 + 1) 0) → Tn (d + 3) m_X4_addFrames 234 T σ [(0, .ref a), (2, .int (iI c2)), (3, .int (iI c3)), (4, .int (iI c4)), (5, .int (iI i5))] [] post) : ∀ (nq9 : Nat) (i5 : Int) (σ : MS) , (WT T σ) → (FrC T [] σ0 σ) → (0 ≤ i5 ∧ i5 ≤ 12) → (CHX [] [xh] [] σ0 σ) → (HMR (σ.2.1 (1000 + xh)) Hh0 Gn Gh base fb c3 i5) → (i5 ≤ 12) → (2147483700 - i5).toNat = nq9 → Tn (d + 3) m_X4_addFrames 179 T σ [(0, .ref a), (2, .int (iI c2)), (3, .int (iI c3)), (4, .int (iI c4)), (5, .int (iI i5))] [] post := by
  intro nq9
  induction nq9 using Nat.strongRecOn with
  | _ nq9 ih =>
    intro i5 σ hw hF r_i5 hC hH h5 hm
    refine tn_iload dX4_addFrames_179 4 rfl ?_
    refine tn_aload_n dX4_addFrames_181 rfl 0 rfl ?_
    have hk3 : (T g).1 = 50 := ob_of ((wf_26 hw0 h_a).resolve_left (by omega)) hg
    have hk3o : OB T g 1 := ⟨by omega, by rw [hk3]; rfl, by omega⟩
    refine tn_getR (ci := 4) (i := 3) (n := 26) (x := g) dX4_addFrames_182 rfl lay_4 (by decide) fl4_33 h_a rfl rfl (rc_F hF (Or.inl (by decide)) (by decide) (hg)) ?_
    obtain ⟨hk7, hl8⟩ : AR T yn 11 12 12 := ar_of (wf_14 hw0 hk3o) hyn
    have hk7i : IA T yn := by unfold IA; omega
    refine tn_getR (ci := 1) (i := 9) (n := 14) (x := yn) dX4_addFrames_185 rfl lay_1 (by decide) fl4_138 hk3o rfl rfl (rc_F hF (Or.inl (by decide)) (by decide) (hyn)) ?_
    refine tn_iload_n dX4_addFrames_188 rfl 2 rfl ?_
    have cv9 : σ.2.1 (1000 + yn) = Gn := (CHX.r hC (by simp only [List.mem_cons, List.not_mem_nil, or_false, not_or]; exact (hds.ne (i := 9) (j := 5) rfl rfl (by decide)))).trans (hGn)
    refine tn_callSN (M := m_X4_addFrames) (pc := 189) (ix := 128) (M' := m_X11_at) (As := [.ref yn, .int (iI c3)]) (rest := [.int (iI i5)]) dX4_addFrames_189 ok_X11_at stt_X11_at nl4_128 np_X11_at rfl (Nat.le_of_ble_eq_true rfl) (Nat.le_of_ble_eq_true rfl) rfl (k_X11_at_x (d + 1) (T := T) (σ := σ) (x := yn) (i := c3) (R := Gn) hk7i (by omega) (by omega) hw cv9) (fun r10 T12 σ11 gt13 hp => ?_)
    obtain ⟨v17, rfl, rfl, rfl, f14, f15, f16⟩ := hp
    clear gt13
    have f15n := f15.2.1 hk7
    clear f15
    have f16u := f16
    unfold ATQ at f16u
    show Tn _ _ 192 T σ [(0, .ref a), (2, .int (iI c2)), (3, .int (iI c3)), (4, .int (iI c4)), (5, .int (iI i5))] [.int (iI v17), .int (iI i5)] _
    refine tn_icmp_ge (tgt := 234) dX4_addFrames_192 (by decide) ⟨by omega, by omega⟩ ⟨by omega, by omega⟩ (fun h18 => ?_) (fun h18 => ?_)
    · exact tn_sub [0, 1, 2, 3, 4] rfl (hx_234 (i5) σ hw (FrC.rfl.trans (FrC.sub hF (by decide))) (by omega) hC True.intro True.intro (hH.next (by have z := f16; unfold ATQ at z; omega)))
    · have hn9 : i5 < Gn c3 := by have z := f16; unfold ATQ at z; omega
      have hn8 := hgn c3 (by omega) (by omega)
      have hh9 := hgh c3 i5 (by omega) (by omega) (by omega) hn9
      refine tn_aload_n dX4_addFrames_195 rfl 0 rfl ?_
      have hk21 : (T h).1 = 50 := ob_of ((wf_25 hw0 h_a).resolve_left (by omega)) hh
      have hk21o : OB T h 1 := ⟨by omega, by rw [hk21]; rfl, by omega⟩
      refine tn_getR (ci := 4) (i := 2) (n := 25) (x := h) dX4_addFrames_196 rfl lay_4 (by decide) fl4_19 h_a rfl rfl (rc_F hF (Or.inl (by decide)) (by decide) (hh)) ?_
      obtain ⟨hk25, hl26⟩ : AR T xh 1 144 144 := ar_of (wf_15 hw0 hk21o) hxh
      have hk25i : IA T xh := by unfold IA; omega
      refine tn_getR (ci := 1) (i := 10) (n := 15) (x := xh) dX4_addFrames_199 rfl lay_1 (by decide) fl4_141 hk21o rfl rfl (rc_F hF (Or.inl (by decide)) (by decide) (hxh)) ?_
      refine tn_iload dX4_addFrames_202 3 rfl ?_
      refine tn_bipush dX4_addFrames_204 (by decide) ?_
      refine tn_imul dX4_addFrames_206 ?_
      refine tn_iload dX4_addFrames_207 4 rfl ?_
      refine tn_iadd dX4_addFrames_209 ?_
      refine tn_aload_n dX4_addFrames_210 rfl 0 rfl ?_
      refine tn_getI (ci := 4) (i := 4) (n := 27) (t := σ0.2.1 27 a) dX4_addFrames_211 rfl lay_4 (by decide) fl4_57 h_a rfl rfl (rc_F hF (Or.inl (by decide)) (by decide) (rfl)) ?_
      have g27 : ((-2147483648 : Int) ≤ σ0.2.1 27 a ∧ σ0.2.1 27 a ≤ 2147483647) := wf_27 hw0 h_a
      refine tn_aload_n dX4_addFrames_214 rfl 0 rfl ?_
      refine tn_getR (ci := 4) (i := 3) (n := 26) (x := g) dX4_addFrames_215 rfl lay_4 (by decide) fl4_33 h_a rfl rfl (rc_F hF (Or.inl (by decide)) (by decide) (hg)) ?_
      refine tn_iload_n dX4_addFrames_218 rfl 2 rfl ?_
      refine tn_iload dX4_addFrames_219 4 rfl ?_
      obtain ⟨hk30, hl31⟩ : AR T yh 1 144 144 := ar_of (wf_15 hw0 hk3o) hyh
      have hk30i : IA T yh := by unfold IA; omega
      have cv32 : σ.2.1 (1000 + yh) = Gh := (CHX.r hC (by simp only [List.mem_cons, List.not_mem_nil, or_false, not_or]; exact (hds.ne (i := 10) (j := 5) rfl rfl (by decide)))).trans (hGh)
      refine tn_callV (M := m_X4_addFrames) (pc := 221) (ix := 122) (ci := 1) (M' := m_X1_homeOf) (As := [.int (iI c3), .int (iI i5)]) (rest := [.int (iI (σ0.2.1 27 a)), .int (iI ((c4 * 12) + i5)), .ref xh]) dX4_addFrames_221 ok_X1_homeOf im_X1_homeOf se_X1_homeOf ml4_122 np_X1_homeOf rfl rfl hk3o rfl (Nat.le_of_ble_eq_true rfl) (Nat.le_of_ble_eq_true rfl) rfl (k_X1_homeOf_x (d) (T := T) (σ := σ) (a := g) (f := c3) (m := i5) (xh := yh) (Rh := Gh) hk3o (by omega) (by omega) hw (rc_F hF (Or.inl (by decide)) (by decide) (hyh)) cv32 (by omega)) (fun r33 T35 σ34 gt36 hp => ?_)
      obtain ⟨v39, rfl, rfl, rfl, f37, f38⟩ := hp
      clear gt36
      show Tn _ _ 224 T σ [(0, .ref a), (2, .int (iI c2)), (3, .int (iI c3)), (4, .int (iI c4)), (5, .int (iI i5))] [.int (iI v39), .int (iI (σ0.2.1 27 a)), .int (iI ((c4 * 12) + i5)), .ref xh] _
      have hz9 : v39 = Gh (12 * c3 + i5) := by have z := f38; unfold ATQ at z; omega
      refine tn_iadd dX4_addFrames_224 ?_
      refine tn_callSN (M := m_X4_addFrames) (pc := 225) (ix := 81) (M' := m_X11_put) (As := [.ref xh, .int (iI ((c4 * 12) + i5)), .int (iI ((σ0.2.1 27 a) + v39))]) (rest := []) dX4_addFrames_225 ok_X11_put stt_X11_put nl4_81 np_X11_put rfl (Nat.le_of_ble_eq_true rfl) (Nat.le_of_ble_eq_true rfl) rfl (k_X11_put_x (d + 1) (T := T) (σ := σ) (x := xh) (i := (c4 * 12) + i5) (y := (σ0.2.1 27 a) + v39) hk25i (by omega) (by omega) (by omega) hw (nh_k hk25 (by unfold HT; omega)) (vok_1 (by have q9 := hk25; omega) (by omega))) (fun r40 T42 σ41 gt43 hp => ?_)
      obtain ⟨rfl, rfl, w47, F48, f44, f45⟩ := hp
      clear gt43
      show Tn _ _ 228 T σ41 [(0, .ref a), (2, .int (iI c2)), (3, .int (iI c3)), (4, .int (iI c4)), (5, .int (iI i5))] [] _
      refine tn_iinc (q0 := 4) (L' := [(5, .int (iI (i5 + 1))), (0, .ref a), (2, .int (iI c2)), (3, .int (iI c3)), (4, .int (iI c4))]) dX4_addFrames_228 rfl (by decide) rfl ?_
      refine tn_goto (tgt := 179) dX4_addFrames_231 (by decide) ?_
      exact tn_sub [1, 2, 3, 4, 0] rfl (ih _ (by omega) (i5 + 1) σ41 w47 ((FrC.rfl.trans (FrC.sub hF (by decide))).trans (FrC.sub F48 (by decide))) (by omega) (hC.trans (CHX.sub f44 (by simp) (by simp) (by simp))) (hH.step (fun f a b => (hgn f a (by omega)).2) (by have z := hgn c3 (by omega) (by omega); have z2 := f16; unfold ATQ at z2; omega) (ptf_row f45 ⟨by omega, by omega⟩) (by omega) (by have z := f38; unfold ATQ at z; omega)) (by omega) rfl)
set_option maxHeartbeats 1000000 in
set_option maxRecDepth 20000 in
theorem l_X4_addFrames_x_28 (d : Nat) {T : CT} {σ0 : MS} {a : Nat} {c2 : Int} {h : Nat} {x : Nat} {n : Int} {W : Int → It} {xR : Nat} {Hr : Int → Int} {xP : Nat} {Hp : Int → Int} {xL : Nat} {Hl : Int → Int} {xn : Nat} {Hn : Int → Int} {xh : Nat} {Hh : Int → Int} {g : Nat} {Fg : Int} {yR : Nat} {Gr : Int → Int} {yP : Nat} {Gp : Int → Int} {yL : Nat} {Gl : Int → Int} {yn : Nat} {Gn : Int → Int} {yh : Nat} {Gh : Int → Int} {base : Int} {fb : Int} {j0 : Int} {post : Option Value → CT → MS → Prop} (h_a : OB T a 4) (r_c2 : -1 ≤ c2 ∧ c2 ≤ 200) (hw0 : WT T σ0) (hc2 : c2 = j0) (hFr : 0 ≤ Fg) (hh : σ0.2.1 25 a = (h : Int)) (hx : σ0.2.1 5 h = (x : Int)) (hn : σ0.2.1 6 h = n) (hW : cW σ0 x n = W) (hxR : σ0.2.1 11 h = (xR : Int)) (hxP : σ0.2.1 12 h = (xP : Int)) (hxL : σ0.2.1 13 h = (xL : Int)) (hxn : σ0.2.1 14 h = (xn : Int)) (hxh : σ0.2.1 15 h = (xh : Int)) (hg : σ0.2.1 26 a = (g : Int)) (hFg : σ0.2.1 10 g = Fg) (hyR : σ0.2.1 11 g = (yR : Int)) (hGr : σ0.2.1 (1000 + yR) = Gr) (hyP : σ0.2.1 12 g = (yP : Int)) (hGp : σ0.2.1 (1000 + yP) = Gp) (hyL : σ0.2.1 13 g = (yL : Int)) (hGl : σ0.2.1 (1000 + yL) = Gl) (hyn : σ0.2.1 14 g = (yn : Int)) (hGn : σ0.2.1 (1000 + yn) = Gn) (hyh : σ0.2.1 15 g = (yh : Int)) (hGh : σ0.2.1 (1000 + yh) = Gh) (hbase : σ0.2.1 27 a = base) (hfb : σ0.2.1 29 a = fb) (hN : n ≤ 200) (hds : DS [x, xR, xP, xL, xn, xh, yR, yP, yL, yn, yh]) (haf : (0 ≤ base ∧ base ≤ 192) ∧ (0 ≤ fb ∧ fb + Fg ≤ 12 ∧ 0 ≤ Fg)) (hgn : ∀ f, 0 ≤ f → f < Fg → 0 ≤ Gn f ∧ Gn f ≤ 12) (hgh : ∀ f m, 0 ≤ f → f < Fg → 0 ≤ m → m < Gn f → 0 ≤ Gh (12 * f + m) ∧ Gh (12 * f + m) < 192) (hln : (0 ≤ j0 ∧ j0 < n) ∧ -2147483648 + 100 ≤ W j0 2 ∧ W j0 2 ≤ 100000) (hgp : ∀ f, 0 ≤ f → f < Fg → -1000 ≤ Gp f ∧ Gp f ≤ 100000) (hx_240 : ∀ (i3 : Int) (σ : MS) , (WT T σ) → (FrC T [] σ0 σ) → (0 ≤ i3 ∧ i3 ≤ 12) → (CHX [(10, h)] [xR, xP, xL, xn, xh] [] σ0 σ) → (True) → (True) → (True) → (True) → (True) → (True) → (SPR (σ.2.1 (1000 + xR)) Hr Gr fb Fg) → (SPR (σ.2.1 (1000 + xP)) Hp (fun f => if f = 0 then W j0 2 else fb + Gp f) fb Fg) → (SPR (σ.2.1 (1000 + xL)) Hl (fun f => if f = 0 then W j0 1 else Gl f) fb Fg) → (SPR (σ.2.1 (1000 + xn)) Hn Gn fb Fg) → (HMR (σ.2.1 (1000 + xh)) Hh Gn Gh base fb Fg 0) → Tn (d + 3) m_X4_addFrames 240 T σ [(0, .ref a), (2, .int (iI c2)), (3, .int (iI i3))] [] post) : ∀ (nq9 : Nat) (i3 : Int) (σ : MS) , (WT T σ) → (FrC T [] σ0 σ) → (0 ≤ i3 ∧ i3 ≤ 12) → (CHX [(10, h)] [xR, xP, xL, xn, xh] [] σ0 σ) → (SPR (σ.2.1 (1000 + xR)) Hr Gr fb i3) → (SPR (σ.2.1 (1000 + xP)) Hp (fun f => if f = 0 then W j0 2 else fb + Gp f) fb i3) → (SPR (σ.2.1 (1000 + xL)) Hl (fun f => if f = 0 then W j0 1 else Gl f) fb i3) → (SPR (σ.2.1 (1000 + xn)) Hn Gn fb i3) → (HMR (σ.2.1 (1000 + xh)) Hh Gn Gh base fb i3 0) → (i3 ≤ Fg) → (2147483700 - i3).toNat = nq9 → Tn (d + 3) m_X4_addFrames 28 T σ [(0, .ref a), (2, .int (iI c2)), (3, .int (iI i3))] [] post := by
  intro nq9
  induction nq9 using Nat.strongRecOn with
  | _ nq9 ih =>
    intro i3 σ hw hF r_i3 hC hA1 hA2 hA3 hA4 hA5 h3 hm
    refine tn_iload_n dX4_addFrames_28 rfl 2 rfl ?_
    refine tn_aload_n dX4_addFrames_29 rfl 0 rfl ?_
    have hk3 : (T g).1 = 50 := ob_of ((wf_26 hw0 h_a).resolve_left (by omega)) hg
    have hk3o : OB T g 1 := ⟨by omega, by rw [hk3]; rfl, by omega⟩
    refine tn_getR (ci := 4) (i := 3) (n := 26) (x := g) dX4_addFrames_30 rfl lay_4 (by decide) fl4_33 h_a rfl rfl (rc_F hF (Or.inl (by decide)) (by decide) (hg)) ?_
    refine tn_getI (ci := 1) (i := 5) (n := 10) (t := σ0.2.1 10 g) dX4_addFrames_33 rfl lay_1 (by decide) fl4_66 hk3o rfl rfl (rc_F hF (Or.inl (by decide)) (by decide) (rfl)) ?_
    have g5 : ((0 : Int) ≤ σ0.2.1 10 g ∧ σ0.2.1 10 g ≤ 12) := wf_10 hw0 hk3o
    refine tn_icmp_ge (tgt := 240) dX4_addFrames_36 (by decide) ⟨by omega, by omega⟩ ⟨by omega, by omega⟩ (fun h6 => ?_) (fun h6 => ?_)
    · exact tn_sub [0, 1, 2] rfl (hx_240 (i3) σ hw (FrC.rfl.trans (FrC.sub hF (by decide))) (by omega) hC True.intro True.intro True.intro True.intro True.intro True.intro (hA1.to (by omega)) (hA2.to (by omega)) (hA3.to (by omega)) (hA4.to (by omega)) (hA5.to (by omega) rfl))
    · refine tn_aload_n dX4_addFrames_39 rfl 0 rfl ?_
      refine tn_getI (ci := 4) (i := 6) (n := 29) (t := σ0.2.1 29 a) dX4_addFrames_40 rfl lay_4 (by decide) fl4_69 h_a rfl rfl (rc_F hF (Or.inl (by decide)) (by decide) (rfl)) ?_
      have g7 : ((-2147483648 : Int) ≤ σ0.2.1 29 a ∧ σ0.2.1 29 a ≤ 2147483647) := wf_29 hw0 h_a
      refine tn_iload_n dX4_addFrames_43 rfl 2 rfl ?_
      refine tn_iadd dX4_addFrames_44 ?_
      refine tn_istore (L' := [(4, .int (iI ((σ0.2.1 29 a) + i3))), (0, .ref a), (2, .int (iI c2)), (3, .int (iI i3))]) dX4_addFrames_45 (by decide) rfl ?_
      refine tn_aload_n dX4_addFrames_47 rfl 1 rfl ?_
      have hk10 : (T h).1 = 50 := ob_of ((wf_25 hw0 h_a).resolve_left (by omega)) hh
      have hk10o : OB T h 1 := ⟨by omega, by rw [hk10]; rfl, by omega⟩
      refine tn_getR (ci := 4) (i := 2) (n := 25) (x := h) dX4_addFrames_48 rfl lay_4 (by decide) fl4_19 h_a rfl rfl (rc_F hF (Or.inl (by decide)) (by decide) (hh)) ?_
      obtain ⟨hk14, hl15⟩ : AR T xR 1 12 12 := ar_of (wf_11 hw0 hk10o) hxR
      have hk14i : IA T xR := by unfold IA; omega
      refine tn_getR (ci := 1) (i := 6) (n := 11) (x := xR) dX4_addFrames_51 rfl lay_1 (by decide) fl4_125 hk10o rfl rfl (rc_F hF (Or.inl (by decide)) (by decide) (hxR)) ?_
      refine tn_iload dX4_addFrames_54 0 rfl ?_
      refine tn_aload_n dX4_addFrames_56 rfl 1 rfl ?_
      refine tn_getR (ci := 4) (i := 3) (n := 26) (x := g) dX4_addFrames_57 rfl lay_4 (by decide) fl4_33 h_a rfl rfl (rc_F hF (Or.inl (by decide)) (by decide) (hg)) ?_
      obtain ⟨hk18, hl19⟩ : AR T yR 1 12 12 := ar_of (wf_11 hw0 hk3o) hyR
      have hk18i : IA T yR := by unfold IA; omega
      refine tn_getR (ci := 1) (i := 6) (n := 11) (x := yR) dX4_addFrames_60 rfl lay_1 (by decide) fl4_125 hk3o rfl rfl (rc_F hF (Or.inl (by decide)) (by decide) (hyR)) ?_
      refine tn_iload_n dX4_addFrames_63 rfl 3 rfl ?_
      have cv20 : σ.2.1 (1000 + yR) = Gr := (CHX.r hC (by simp only [List.mem_cons, List.not_mem_nil, or_false, not_or]; exact ⟨(hds.ne (i := 6) (j := 1) rfl rfl (by decide)), (hds.ne (i := 6) (j := 2) rfl rfl (by decide)), (hds.ne (i := 6) (j := 3) rfl rfl (by decide)), (hds.ne (i := 6) (j := 4) rfl rfl (by decide)), (hds.ne (i := 6) (j := 5) rfl rfl (by decide))⟩)).trans (hGr)
      refine tn_callSN (M := m_X4_addFrames) (pc := 64) (ix := 128) (M' := m_X11_at) (As := [.ref yR, .int (iI i3)]) (rest := [.int (iI ((σ0.2.1 29 a) + i3)), .ref xR]) dX4_addFrames_64 ok_X11_at stt_X11_at nl4_128 np_X11_at rfl (Nat.le_of_ble_eq_true rfl) (Nat.le_of_ble_eq_true rfl) rfl (k_X11_at_x (d + 1) (T := T) (σ := σ) (x := yR) (i := i3) (R := Gr) hk18i (by omega) (by omega) hw cv20) (fun r21 T23 σ22 gt24 hp => ?_)
      obtain ⟨v28, rfl, rfl, rfl, f25, f26, f27⟩ := hp
      clear gt24
      clear f26
      have f27u := f27
      unfold ATQ at f27u
      show Tn _ _ 67 T σ [(4, .int (iI ((σ0.2.1 29 a) + i3))), (0, .ref a), (2, .int (iI c2)), (3, .int (iI i3))] [.int (iI v28), .int (iI ((σ0.2.1 29 a) + i3)), .ref xR] _
      refine tn_callSN (M := m_X4_addFrames) (pc := 67) (ix := 81) (M' := m_X11_put) (As := [.ref xR, .int (iI ((σ0.2.1 29 a) + i3)), .int (iI v28)]) (rest := []) dX4_addFrames_67 ok_X11_put stt_X11_put nl4_81 np_X11_put rfl (Nat.le_of_ble_eq_true rfl) (Nat.le_of_ble_eq_true rfl) rfl (k_X11_put_x (d + 1) (T := T) (σ := σ) (x := xR) (i := (σ0.2.1 29 a) + i3) (y := v28) hk14i (by omega) (by omega) (by omega) hw (nh_k hk14 (by unfold HT; omega)) (vok_1 (by have q9 := hk14; omega) (by omega))) (fun r29 T31 σ30 gt32 hp => ?_)
      obtain ⟨rfl, rfl, w36, F37, f33, f34⟩ := hp
      clear gt32
      show Tn _ _ 70 T σ30 [(4, .int (iI ((σ0.2.1 29 a) + i3))), (0, .ref a), (2, .int (iI c2)), (3, .int (iI i3))] [] _
      refine tn_aload_n dX4_addFrames_70 rfl 1 rfl ?_
      refine tn_getR (ci := 4) (i := 2) (n := 25) (x := h) dX4_addFrames_71 rfl lay_4 (by decide) fl4_19 h_a rfl rfl (rc_F F37 (Or.inl (by decide)) (by decide) (rc_F hF (Or.inl (by decide)) (by decide) (hh))) ?_
      obtain ⟨hk40, hl41⟩ : AR T xP 1 12 12 := ar_of (wf_12 hw0 hk10o) hxP
      have hk40i : IA T xP := by unfold IA; omega
      refine tn_getR (ci := 1) (i := 7) (n := 12) (x := xP) dX4_addFrames_74 rfl lay_1 (by decide) fl4_132 hk10o rfl rfl (rc_F F37 (Or.inl (by decide)) (by decide) (rc_F hF (Or.inl (by decide)) (by decide) (hxP))) ?_
      refine tn_iload dX4_addFrames_77 0 rfl ?_
      refine tn_iload_n dX4_addFrames_79 rfl 3 rfl ?_
      refine tn_if_ne (tgt := 95) dX4_addFrames_80 (by decide) ⟨by omega, by omega⟩ (fun h42 => ?_) (fun h42 => ?_)
      · refine tn_aload_n dX4_addFrames_95 rfl 1 rfl ?_
        refine tn_getI (ci := 4) (i := 6) (n := 29) (t := σ0.2.1 29 a) dX4_addFrames_96 rfl lay_4 (by decide) fl4_69 h_a rfl rfl (rc_F F37 (Or.inl (by decide)) (by decide) (rc_F hF (Or.inl (by decide)) (by decide) (rfl))) ?_
        refine tn_aload_n dX4_addFrames_99 rfl 1 rfl ?_
        refine tn_getR (ci := 4) (i := 3) (n := 26) (x := g) dX4_addFrames_100 rfl lay_4 (by decide) fl4_33 h_a rfl rfl (rc_F F37 (Or.inl (by decide)) (by decide) (rc_F hF (Or.inl (by decide)) (by decide) (hg))) ?_
        obtain ⟨hk45, hl46⟩ : AR T yP 1 12 12 := ar_of (wf_12 hw0 hk3o) hyP
        have hk45i : IA T yP := by unfold IA; omega
        refine tn_getR (ci := 1) (i := 7) (n := 12) (x := yP) dX4_addFrames_103 rfl lay_1 (by decide) fl4_132 hk3o rfl rfl (rc_F F37 (Or.inl (by decide)) (by decide) (rc_F hF (Or.inl (by decide)) (by decide) (hyP))) ?_
        refine tn_iload_n dX4_addFrames_106 rfl 3 rfl ?_
        have cv47 : σ30.2.1 (1000 + yP) = Gp := (CHX.r f33 (by simp only [List.mem_cons, List.not_mem_nil, or_false, not_or]; exact (hds.ne (i := 7) (j := 1) rfl rfl (by decide)))).trans ((CHX.r hC (by simp only [List.mem_cons, List.not_mem_nil, or_false, not_or]; exact ⟨(hds.ne (i := 7) (j := 1) rfl rfl (by decide)), (hds.ne (i := 7) (j := 2) rfl rfl (by decide)), (hds.ne (i := 7) (j := 3) rfl rfl (by decide)), (hds.ne (i := 7) (j := 4) rfl rfl (by decide)), (hds.ne (i := 7) (j := 5) rfl rfl (by decide))⟩)).trans (hGp))
        refine tn_callSN (M := m_X4_addFrames) (pc := 107) (ix := 128) (M' := m_X11_at) (As := [.ref yP, .int (iI i3)]) (rest := [.int (iI (σ0.2.1 29 a)), .int (iI ((σ0.2.1 29 a) + i3)), .ref xP]) dX4_addFrames_107 ok_X11_at stt_X11_at nl4_128 np_X11_at rfl (Nat.le_of_ble_eq_true rfl) (Nat.le_of_ble_eq_true rfl) rfl (k_X11_at_x (d + 1) (T := T) (σ := σ30) (x := yP) (i := i3) (R := Gp) hk45i (by omega) (by omega) w36 cv47) (fun r48 T50 σ49 gt51 hp => ?_)
        obtain ⟨v55, rfl, rfl, rfl, f52, f53, f54⟩ := hp
        clear gt51
        clear f53
        have f54u := f54
        unfold ATQ at f54u
        show Tn _ _ 110 T σ30 [(4, .int (iI ((σ0.2.1 29 a) + i3))), (0, .ref a), (2, .int (iI c2)), (3, .int (iI i3))] [.int (iI v55), .int (iI (σ0.2.1 29 a)), .int (iI ((σ0.2.1 29 a) + i3)), .ref xP] _
        have hz8 : v55 = Gp i3 := atq_in f54 ⟨by omega, by omega⟩
        have hz7 := hgp i3 (by omega) (by omega)
        refine tn_iadd dX4_addFrames_110 ?_
        have cv56 : σ30.2.1 (1000 + xP) = σ.2.1 (1000 + xP) := (CHX.r f33 (by simp only [List.mem_cons, List.not_mem_nil, or_false, not_or]; exact (hds.ne (i := 2) (j := 1) rfl rfl (by decide)))).trans (rfl)
        refine tn_callSN (M := m_X4_addFrames) (pc := 111) (ix := 81) (M' := m_X11_put) (As := [.ref xP, .int (iI ((σ0.2.1 29 a) + i3)), .int (iI ((σ0.2.1 29 a) + v55))]) (rest := []) dX4_addFrames_111 ok_X11_put stt_X11_put nl4_81 np_X11_put rfl (Nat.le_of_ble_eq_true rfl) (Nat.le_of_ble_eq_true rfl) rfl (k_X11_put_x (d + 1) (T := T) (σ := σ30) (x := xP) (i := (σ0.2.1 29 a) + i3) (y := (σ0.2.1 29 a) + v55) hk40i (by omega) (by omega) (by omega) w36 (nh_k hk40 (by unfold HT; omega)) (vok_1 (by have q9 := hk40; omega) (by omega))) (fun r57 T59 σ58 gt60 hp => ?_)
        obtain ⟨rfl, rfl, w64, F65, f61, f62⟩ := hp
        clear gt60
        show Tn _ _ 114 T σ58 [(4, .int (iI ((σ0.2.1 29 a) + i3))), (0, .ref a), (2, .int (iI c2)), (3, .int (iI i3))] [] _
        refine tn_aload_n dX4_addFrames_114 rfl 1 rfl ?_
        refine tn_getR (ci := 4) (i := 2) (n := 25) (x := h) dX4_addFrames_115 rfl lay_4 (by decide) fl4_19 h_a rfl rfl (rc_F F65 (Or.inl (by decide)) (by decide) (rc_F F37 (Or.inl (by decide)) (by decide) (rc_F hF (Or.inl (by decide)) (by decide) (hh)))) ?_
        obtain ⟨hk68, hl69⟩ : AR T xL 1 12 12 := ar_of (wf_13 hw0 hk10o) hxL
        have hk68i : IA T xL := by unfold IA; omega
        refine tn_getR (ci := 1) (i := 8) (n := 13) (x := xL) dX4_addFrames_118 rfl lay_1 (by decide) fl4_135 hk10o rfl rfl (rc_F F65 (Or.inl (by decide)) (by decide) (rc_F F37 (Or.inl (by decide)) (by decide) (rc_F hF (Or.inl (by decide)) (by decide) (hxL)))) ?_
        refine tn_iload dX4_addFrames_121 0 rfl ?_
        refine tn_iload_n dX4_addFrames_123 rfl 3 rfl ?_
        refine tn_if_ne (tgt := 139) dX4_addFrames_124 (by decide) ⟨by omega, by omega⟩ (fun h70 => ?_) (fun h70 => absurd h70 (by omega))
        refine tn_aload_n dX4_addFrames_139 rfl 1 rfl ?_
        refine tn_getR (ci := 4) (i := 3) (n := 26) (x := g) dX4_addFrames_140 rfl lay_4 (by decide) fl4_33 h_a rfl rfl (rc_F F65 (Or.inl (by decide)) (by decide) (rc_F F37 (Or.inl (by decide)) (by decide) (rc_F hF (Or.inl (by decide)) (by decide) (hg)))) ?_
        obtain ⟨hk73, hl74⟩ : AR T yL 1 12 12 := ar_of (wf_13 hw0 hk3o) hyL
        have hk73i : IA T yL := by unfold IA; omega
        refine tn_getR (ci := 1) (i := 8) (n := 13) (x := yL) dX4_addFrames_143 rfl lay_1 (by decide) fl4_135 hk3o rfl rfl (rc_F F65 (Or.inl (by decide)) (by decide) (rc_F F37 (Or.inl (by decide)) (by decide) (rc_F hF (Or.inl (by decide)) (by decide) (hyL)))) ?_
        refine tn_iload_n dX4_addFrames_146 rfl 3 rfl ?_
        have cv75 : σ58.2.1 (1000 + yL) = Gl := (CHX.r f61 (by simp only [List.mem_cons, List.not_mem_nil, or_false, not_or]; exact (hds.ne (i := 8) (j := 2) rfl rfl (by decide)))).trans ((CHX.r f33 (by simp only [List.mem_cons, List.not_mem_nil, or_false, not_or]; exact (hds.ne (i := 8) (j := 1) rfl rfl (by decide)))).trans ((CHX.r hC (by simp only [List.mem_cons, List.not_mem_nil, or_false, not_or]; exact ⟨(hds.ne (i := 8) (j := 1) rfl rfl (by decide)), (hds.ne (i := 8) (j := 2) rfl rfl (by decide)), (hds.ne (i := 8) (j := 3) rfl rfl (by decide)), (hds.ne (i := 8) (j := 4) rfl rfl (by decide)), (hds.ne (i := 8) (j := 5) rfl rfl (by decide))⟩)).trans (hGl)))
        refine tn_callSN (M := m_X4_addFrames) (pc := 147) (ix := 128) (M' := m_X11_at) (As := [.ref yL, .int (iI i3)]) (rest := [.int (iI ((σ0.2.1 29 a) + i3)), .ref xL]) dX4_addFrames_147 ok_X11_at stt_X11_at nl4_128 np_X11_at rfl (Nat.le_of_ble_eq_true rfl) (Nat.le_of_ble_eq_true rfl) rfl (k_X11_at_x (d + 1) (T := T) (σ := σ58) (x := yL) (i := i3) (R := Gl) hk73i (by omega) (by omega) w64 cv75) (fun r76 T78 σ77 gt79 hp => ?_)
        obtain ⟨v83, rfl, rfl, rfl, f80, f81, f82⟩ := hp
        clear gt79
        clear f81
        have f82u := f82
        unfold ATQ at f82u
        show Tn _ _ 150 T σ58 [(4, .int (iI ((σ0.2.1 29 a) + i3))), (0, .ref a), (2, .int (iI c2)), (3, .int (iI i3))] [.int (iI v83), .int (iI ((σ0.2.1 29 a) + i3)), .ref xL] _
        have cv84 : σ58.2.1 (1000 + xL) = σ.2.1 (1000 + xL) := (CHX.r f61 (by simp only [List.mem_cons, List.not_mem_nil, or_false, not_or]; exact (hds.ne (i := 3) (j := 2) rfl rfl (by decide)))).trans ((CHX.r f33 (by simp only [List.mem_cons, List.not_mem_nil, or_false, not_or]; exact (hds.ne (i := 3) (j := 1) rfl rfl (by decide)))).trans (rfl))
        refine tn_callSN (M := m_X4_addFrames) (pc := 150) (ix := 81) (M' := m_X11_put) (As := [.ref xL, .int (iI ((σ0.2.1 29 a) + i3)), .int (iI v83)]) (rest := []) dX4_addFrames_150 ok_X11_put stt_X11_put nl4_81 np_X11_put rfl (Nat.le_of_ble_eq_true rfl) (Nat.le_of_ble_eq_true rfl) rfl (k_X11_put_x (d + 1) (T := T) (σ := σ58) (x := xL) (i := (σ0.2.1 29 a) + i3) (y := v83) hk68i (by omega) (by omega) (by omega) w64 (nh_k hk68 (by unfold HT; omega)) (vok_1 (by have q9 := hk68; omega) (by omega))) (fun r85 T87 σ86 gt88 hp => ?_)
        obtain ⟨rfl, rfl, w92, F93, f89, f90⟩ := hp
        clear gt88
        show Tn _ _ 153 T σ86 [(4, .int (iI ((σ0.2.1 29 a) + i3))), (0, .ref a), (2, .int (iI c2)), (3, .int (iI i3))] [] _
        refine tn_aload_n dX4_addFrames_153 rfl 1 rfl ?_
        refine tn_getR (ci := 4) (i := 2) (n := 25) (x := h) dX4_addFrames_154 rfl lay_4 (by decide) fl4_19 h_a rfl rfl (rc_F F93 (Or.inl (by decide)) (by decide) (rc_F F65 (Or.inl (by decide)) (by decide) (rc_F F37 (Or.inl (by decide)) (by decide) (rc_F hF (Or.inl (by decide)) (by decide) (hh))))) ?_
        obtain ⟨hk96, hl97⟩ : AR T xn 11 12 12 := ar_of (wf_14 hw0 hk10o) hxn
        have hk96i : IA T xn := by unfold IA; omega
        refine tn_getR (ci := 1) (i := 9) (n := 14) (x := xn) dX4_addFrames_157 rfl lay_1 (by decide) fl4_138 hk10o rfl rfl (rc_F F93 (Or.inl (by decide)) (by decide) (rc_F F65 (Or.inl (by decide)) (by decide) (rc_F F37 (Or.inl (by decide)) (by decide) (rc_F hF (Or.inl (by decide)) (by decide) (hxn))))) ?_
        refine tn_iload dX4_addFrames_160 0 rfl ?_
        refine tn_aload_n dX4_addFrames_162 rfl 1 rfl ?_
        refine tn_getR (ci := 4) (i := 3) (n := 26) (x := g) dX4_addFrames_163 rfl lay_4 (by decide) fl4_33 h_a rfl rfl (rc_F F93 (Or.inl (by decide)) (by decide) (rc_F F65 (Or.inl (by decide)) (by decide) (rc_F F37 (Or.inl (by decide)) (by decide) (rc_F hF (Or.inl (by decide)) (by decide) (hg))))) ?_
        obtain ⟨hk100, hl101⟩ : AR T yn 11 12 12 := ar_of (wf_14 hw0 hk3o) hyn
        have hk100i : IA T yn := by unfold IA; omega
        refine tn_getR (ci := 1) (i := 9) (n := 14) (x := yn) dX4_addFrames_166 rfl lay_1 (by decide) fl4_138 hk3o rfl rfl (rc_F F93 (Or.inl (by decide)) (by decide) (rc_F F65 (Or.inl (by decide)) (by decide) (rc_F F37 (Or.inl (by decide)) (by decide) (rc_F hF (Or.inl (by decide)) (by decide) (hyn))))) ?_
        refine tn_iload_n dX4_addFrames_169 rfl 3 rfl ?_
        have cv102 : σ86.2.1 (1000 + yn) = Gn := (CHX.r f89 (by simp only [List.mem_cons, List.not_mem_nil, or_false, not_or]; exact (hds.ne (i := 9) (j := 3) rfl rfl (by decide)))).trans ((CHX.r f61 (by simp only [List.mem_cons, List.not_mem_nil, or_false, not_or]; exact (hds.ne (i := 9) (j := 2) rfl rfl (by decide)))).trans ((CHX.r f33 (by simp only [List.mem_cons, List.not_mem_nil, or_false, not_or]; exact (hds.ne (i := 9) (j := 1) rfl rfl (by decide)))).trans ((CHX.r hC (by simp only [List.mem_cons, List.not_mem_nil, or_false, not_or]; exact ⟨(hds.ne (i := 9) (j := 1) rfl rfl (by decide)), (hds.ne (i := 9) (j := 2) rfl rfl (by decide)), (hds.ne (i := 9) (j := 3) rfl rfl (by decide)), (hds.ne (i := 9) (j := 4) rfl rfl (by decide)), (hds.ne (i := 9) (j := 5) rfl rfl (by decide))⟩)).trans (hGn))))
        refine tn_callSN (M := m_X4_addFrames) (pc := 170) (ix := 128) (M' := m_X11_at) (As := [.ref yn, .int (iI i3)]) (rest := [.int (iI ((σ0.2.1 29 a) + i3)), .ref xn]) dX4_addFrames_170 ok_X11_at stt_X11_at nl4_128 np_X11_at rfl (Nat.le_of_ble_eq_true rfl) (Nat.le_of_ble_eq_true rfl) rfl (k_X11_at_x (d + 1) (T := T) (σ := σ86) (x := yn) (i := i3) (R := Gn) hk100i (by omega) (by omega) w92 cv102) (fun r103 T105 σ104 gt106 hp => ?_)
        obtain ⟨v110, rfl, rfl, rfl, f107, f108, f109⟩ := hp
        clear gt106
        have f108n := f108.2.1 hk100
        clear f108
        have f109u := f109
        unfold ATQ at f109u
        show Tn _ _ 173 T σ86 [(4, .int (iI ((σ0.2.1 29 a) + i3))), (0, .ref a), (2, .int (iI c2)), (3, .int (iI i3))] [.int (iI v110), .int (iI ((σ0.2.1 29 a) + i3)), .ref xn] _
        have cv111 : σ86.2.1 (1000 + xn) = σ.2.1 (1000 + xn) := (CHX.r f89 (by simp only [List.mem_cons, List.not_mem_nil, or_false, not_or]; exact (hds.ne (i := 4) (j := 3) rfl rfl (by decide)))).trans ((CHX.r f61 (by simp only [List.mem_cons, List.not_mem_nil, or_false, not_or]; exact (hds.ne (i := 4) (j := 2) rfl rfl (by decide)))).trans ((CHX.r f33 (by simp only [List.mem_cons, List.not_mem_nil, or_false, not_or]; exact (hds.ne (i := 4) (j := 1) rfl rfl (by decide)))).trans (rfl)))
        refine tn_callSN (M := m_X4_addFrames) (pc := 173) (ix := 81) (M' := m_X11_put) (As := [.ref xn, .int (iI ((σ0.2.1 29 a) + i3)), .int (iI v110)]) (rest := []) dX4_addFrames_173 ok_X11_put stt_X11_put nl4_81 np_X11_put rfl (Nat.le_of_ble_eq_true rfl) (Nat.le_of_ble_eq_true rfl) rfl (k_X11_put_x (d + 1) (T := T) (σ := σ86) (x := xn) (i := (σ0.2.1 29 a) + i3) (y := v110) hk96i (by omega) (by omega) (by omega) w92 (nh_k hk96 (by unfold HT; omega)) (by rw [hk96]; exact vok_11 (by omega))) (fun r112 T114 σ113 gt115 hp => ?_)
        obtain ⟨rfl, rfl, w119, F120, f116, f117⟩ := hp
        clear gt115
        show Tn _ _ 176 T σ113 [(4, .int (iI ((σ0.2.1 29 a) + i3))), (0, .ref a), (2, .int (iI c2)), (3, .int (iI i3))] [] _
        refine tn_iconst dX4_addFrames_176 ?_
        refine tn_istore (L' := [(5, .int (iI 0)), (4, .int (iI ((σ0.2.1 29 a) + i3))), (0, .ref a), (2, .int (iI c2)), (3, .int (iI i3))]) dX4_addFrames_177 (by decide) rfl ?_
        have cv121 : σ113.2.1 (1000 + xh) = σ.2.1 (1000 + xh) := (CHX.r f116 (by simp only [List.mem_cons, List.not_mem_nil, or_false, not_or]; exact (hds.ne (i := 5) (j := 4) rfl rfl (by decide)))).trans ((CHX.r f89 (by simp only [List.mem_cons, List.not_mem_nil, or_false, not_or]; exact (hds.ne (i := 5) (j := 3) rfl rfl (by decide)))).trans ((CHX.r f61 (by simp only [List.mem_cons, List.not_mem_nil, or_false, not_or]; exact (hds.ne (i := 5) (j := 2) rfl rfl (by decide)))).trans ((CHX.r f33 (by simp only [List.mem_cons, List.not_mem_nil, or_false, not_or]; exact (hds.ne (i := 5) (j := 1) rfl rfl (by decide)))).trans (rfl))))
        have cv122 : cW σ113 x n = W := (cW_row (CHX.r f116 (by simp only [List.mem_cons, List.not_mem_nil, or_false, not_or]; exact (hds.ne (i := 0) (j := 4) rfl rfl (by decide))))).trans ((cW_row (CHX.r f89 (by simp only [List.mem_cons, List.not_mem_nil, or_false, not_or]; exact (hds.ne (i := 0) (j := 3) rfl rfl (by decide))))).trans ((cW_row (CHX.r f61 (by simp only [List.mem_cons, List.not_mem_nil, or_false, not_or]; exact (hds.ne (i := 0) (j := 2) rfl rfl (by decide))))).trans ((cW_row (CHX.r f33 (by simp only [List.mem_cons, List.not_mem_nil, or_false, not_or]; exact (hds.ne (i := 0) (j := 1) rfl rfl (by decide))))).trans ((cW_row (CHX.r hC (by simp only [List.mem_cons, List.not_mem_nil, or_false, not_or]; exact ⟨(hds.ne (i := 0) (j := 1) rfl rfl (by decide)), (hds.ne (i := 0) (j := 2) rfl rfl (by decide)), (hds.ne (i := 0) (j := 3) rfl rfl (by decide)), (hds.ne (i := 0) (j := 4) rfl rfl (by decide)), (hds.ne (i := 0) (j := 5) rfl rfl (by decide))⟩))).trans (hW)))))
        have cv123 : σ113.2.1 (1000 + xR) = σ30.2.1 (1000 + xR) := (CHX.r f116 (by simp only [List.mem_cons, List.not_mem_nil, or_false, not_or]; exact (hds.ne (i := 1) (j := 4) rfl rfl (by decide)))).trans ((CHX.r f89 (by simp only [List.mem_cons, List.not_mem_nil, or_false, not_or]; exact (hds.ne (i := 1) (j := 3) rfl rfl (by decide)))).trans ((CHX.r f61 (by simp only [List.mem_cons, List.not_mem_nil, or_false, not_or]; exact (hds.ne (i := 1) (j := 2) rfl rfl (by decide)))).trans (rfl)))
        have cv124 : σ113.2.1 (1000 + xP) = σ58.2.1 (1000 + xP) := (CHX.r f116 (by simp only [List.mem_cons, List.not_mem_nil, or_false, not_or]; exact (hds.ne (i := 2) (j := 4) rfl rfl (by decide)))).trans ((CHX.r f89 (by simp only [List.mem_cons, List.not_mem_nil, or_false, not_or]; exact (hds.ne (i := 2) (j := 3) rfl rfl (by decide)))).trans (rfl))
        have cv125 : σ113.2.1 (1000 + xL) = σ86.2.1 (1000 + xL) := (CHX.r f116 (by simp only [List.mem_cons, List.not_mem_nil, or_false, not_or]; exact (hds.ne (i := 3) (j := 4) rfl rfl (by decide)))).trans (rfl)
        have cv126 : σ113.2.1 (1000 + yR) = Gr := (CHX.r f116 (by simp only [List.mem_cons, List.not_mem_nil, or_false, not_or]; exact (hds.ne (i := 6) (j := 4) rfl rfl (by decide)))).trans ((CHX.r f89 (by simp only [List.mem_cons, List.not_mem_nil, or_false, not_or]; exact (hds.ne (i := 6) (j := 3) rfl rfl (by decide)))).trans ((CHX.r f61 (by simp only [List.mem_cons, List.not_mem_nil, or_false, not_or]; exact (hds.ne (i := 6) (j := 2) rfl rfl (by decide)))).trans ((CHX.r f33 (by simp only [List.mem_cons, List.not_mem_nil, or_false, not_or]; exact (hds.ne (i := 6) (j := 1) rfl rfl (by decide)))).trans (cv20))))
        have cv127 : σ113.2.1 (1000 + yP) = Gp := (CHX.r f116 (by simp only [List.mem_cons, List.not_mem_nil, or_false, not_or]; exact (hds.ne (i := 7) (j := 4) rfl rfl (by decide)))).trans ((CHX.r f89 (by simp only [List.mem_cons, List.not_mem_nil, or_false, not_or]; exact (hds.ne (i := 7) (j := 3) rfl rfl (by decide)))).trans ((CHX.r f61 (by simp only [List.mem_cons, List.not_mem_nil, or_false, not_or]; exact (hds.ne (i := 7) (j := 2) rfl rfl (by decide)))).trans (cv47)))
        have cv128 : σ113.2.1 (1000 + yL) = Gl := (CHX.r f116 (by simp only [List.mem_cons, List.not_mem_nil, or_false, not_or]; exact (hds.ne (i := 8) (j := 4) rfl rfl (by decide)))).trans ((CHX.r f89 (by simp only [List.mem_cons, List.not_mem_nil, or_false, not_or]; exact (hds.ne (i := 8) (j := 3) rfl rfl (by decide)))).trans (cv75))
        have cv129 : σ113.2.1 (1000 + yn) = Gn := (CHX.r f116 (by simp only [List.mem_cons, List.not_mem_nil, or_false, not_or]; exact (hds.ne (i := 9) (j := 4) rfl rfl (by decide)))).trans (cv102)
        have cv130 : σ113.2.1 (1000 + yh) = Gh := (CHX.r f116 (by simp only [List.mem_cons, List.not_mem_nil, or_false, not_or]; exact (hds.ne (i := 10) (j := 4) rfl rfl (by decide)))).trans ((CHX.r f89 (by simp only [List.mem_cons, List.not_mem_nil, or_false, not_or]; exact (hds.ne (i := 10) (j := 3) rfl rfl (by decide)))).trans ((CHX.r f61 (by simp only [List.mem_cons, List.not_mem_nil, or_false, not_or]; exact (hds.ne (i := 10) (j := 2) rfl rfl (by decide)))).trans ((CHX.r f33 (by simp only [List.mem_cons, List.not_mem_nil, or_false, not_or]; exact (hds.ne (i := 10) (j := 1) rfl rfl (by decide)))).trans ((CHX.r hC (by simp only [List.mem_cons, List.not_mem_nil, or_false, not_or]; exact ⟨(hds.ne (i := 10) (j := 1) rfl rfl (by decide)), (hds.ne (i := 10) (j := 2) rfl rfl (by decide)), (hds.ne (i := 10) (j := 3) rfl rfl (by decide)), (hds.ne (i := 10) (j := 4) rfl rfl (by decide)), (hds.ne (i := 10) (j := 5) rfl rfl (by decide))⟩)).trans (hGh)))))
        refine tn_sub [2, 3, 4, 1, 0] rfl (l_X4_addFrames_x_179 (d) (T := T) (σ0 := σ113) (a := a) (c2 := c2) (c3 := i3) (c4 := (σ0.2.1 29 a) + i3) (h := h) (x := x) (n := n) (W := (W)) (xR := xR) (Hr := (σ30.2.1 (1000 + xR))) (xP := xP) (Hp := (σ58.2.1 (1000 + xP))) (xL := xL) (Hl := (σ86.2.1 (1000 + xL))) (xn := xn) (Hn := (σ113.2.1 (1000 + xn))) (xh := xh) (Hh := Hh) (g := g) (Fg := Fg) (yR := yR) (Gr := (Gr)) (yP := yP) (Gp := (Gp)) (yL := yL) (Gl := (Gl)) (yn := yn) (Gn := (Gn)) (yh := yh) (Gh := (Gh)) (base := base) (fb := fb) (j0 := j0) (Hh0 := Hh) h_a (by omega) (by omega) (by omega) w119 (by omega) (rc_F F120 (Or.inl (by decide)) (by decide) (rc_F F93 (Or.inl (by decide)) (by decide) (rc_F F65 (Or.inl (by decide)) (by decide) (rc_F F37 (Or.inl (by decide)) (by decide) (rc_F hF (Or.inl (by decide)) (by decide) (hh)))))) (rc_F F120 (Or.inl (by decide)) (by decide) (rc_F F93 (Or.inl (by decide)) (by decide) (rc_F F65 (Or.inl (by decide)) (by decide) (rc_F F37 (Or.inl (by decide)) (by decide) (rc_F hF (Or.inl (by decide)) (by decide) (hx)))))) (rc_F F120 (Or.inl (by decide)) (by decide) (rc_F F93 (Or.inl (by decide)) (by decide) (rc_F F65 (Or.inl (by decide)) (by decide) (rc_F F37 (Or.inl (by decide)) (by decide) (rc_F hF (Or.inl (by decide)) (by decide) (hn)))))) cv122 (rc_F F120 (Or.inl (by decide)) (by decide) (rc_F F93 (Or.inl (by decide)) (by decide) (rc_F F65 (Or.inl (by decide)) (by decide) (rc_F F37 (Or.inl (by decide)) (by decide) (rc_F hF (Or.inl (by decide)) (by decide) (hxR)))))) cv123 (rc_F F120 (Or.inl (by decide)) (by decide) (rc_F F93 (Or.inl (by decide)) (by decide) (rc_F F65 (Or.inl (by decide)) (by decide) (rc_F F37 (Or.inl (by decide)) (by decide) (rc_F hF (Or.inl (by decide)) (by decide) (hxP)))))) cv124 (rc_F F120 (Or.inl (by decide)) (by decide) (rc_F F93 (Or.inl (by decide)) (by decide) (rc_F F65 (Or.inl (by decide)) (by decide) (rc_F F37 (Or.inl (by decide)) (by decide) (rc_F hF (Or.inl (by decide)) (by decide) (hxL)))))) cv125 (rc_F F120 (Or.inl (by decide)) (by decide) (rc_F F93 (Or.inl (by decide)) (by decide) (rc_F F65 (Or.inl (by decide)) (by decide) (rc_F F37 (Or.inl (by decide)) (by decide) (rc_F hF (Or.inl (by decide)) (by decide) (hxn)))))) rfl (rc_F F120 (Or.inl (by decide)) (by decide) (rc_F F93 (Or.inl (by decide)) (by decide) (rc_F F65 (Or.inl (by decide)) (by decide) (rc_F F37 (Or.inl (by decide)) (by decide) (rc_F hF (Or.inl (by decide)) (by decide) (hxh)))))) (rc_F F120 (Or.inl (by decide)) (by decide) (rc_F F93 (Or.inl (by decide)) (by decide) (rc_F F65 (Or.inl (by decide)) (by decide) (rc_F F37 (Or.inl (by decide)) (by decide) (rc_F hF (Or.inl (by decide)) (by decide) (hg)))))) (rc_F F120 (Or.inl (by decide)) (by decide) (rc_F F93 (Or.inl (by decide)) (by decide) (rc_F F65 (Or.inl (by decide)) (by decide) (rc_F F37 (Or.inl (by decide)) (by decide) (rc_F hF (Or.inl (by decide)) (by decide) (hFg)))))) (rc_F F120 (Or.inl (by decide)) (by decide) (rc_F F93 (Or.inl (by decide)) (by decide) (rc_F F65 (Or.inl (by decide)) (by decide) (rc_F F37 (Or.inl (by decide)) (by decide) (rc_F hF (Or.inl (by decide)) (by decide) (hyR)))))) cv126 (rc_F F120 (Or.inl (by decide)) (by decide) (rc_F F93 (Or.inl (by decide)) (by decide) (rc_F F65 (Or.inl (by decide)) (by decide) (rc_F F37 (Or.inl (by decide)) (by decide) (rc_F hF (Or.inl (by decide)) (by decide) (hyP)))))) cv127 (rc_F F120 (Or.inl (by decide)) (by decide) (rc_F F93 (Or.inl (by decide)) (by decide) (rc_F F65 (Or.inl (by decide)) (by decide) (rc_F F37 (Or.inl (by decide)) (by decide) (rc_F hF (Or.inl (by decide)) (by decide) (hyL)))))) cv128 (rc_F F120 (Or.inl (by decide)) (by decide) (rc_F F93 (Or.inl (by decide)) (by decide) (rc_F F65 (Or.inl (by decide)) (by decide) (rc_F F37 (Or.inl (by decide)) (by decide) (rc_F hF (Or.inl (by decide)) (by decide) (hyn)))))) cv129 (rc_F F120 (Or.inl (by decide)) (by decide) (rc_F F93 (Or.inl (by decide)) (by decide) (rc_F F65 (Or.inl (by decide)) (by decide) (rc_F F37 (Or.inl (by decide)) (by decide) (rc_F hF (Or.inl (by decide)) (by decide) (hyh)))))) cv130 (rc_F F120 (Or.inl (by decide)) (by decide) (rc_F F93 (Or.inl (by decide)) (by decide) (rc_F F65 (Or.inl (by decide)) (by decide) (rc_F F37 (Or.inl (by decide)) (by decide) (rc_F hF (Or.inl (by decide)) (by decide) (hbase)))))) (rc_F F120 (Or.inl (by decide)) (by decide) (rc_F F93 (Or.inl (by decide)) (by decide) (rc_F F65 (Or.inl (by decide)) (by decide) (rc_F F37 (Or.inl (by decide)) (by decide) (rc_F hF (Or.inl (by decide)) (by decide) (hfb)))))) hN hds haf hgn hgh hln hgp (fun i5131 σ132 w135 F136 r137 f138 f139 f140 f141 => ?_) _ (0) σ113 w119 FrC.rfl (by omega) CHX.rfl (by rw [cv121]; exact hA5) (by omega) rfl)
        show Tn _ _ 234 T σ132 [(0, .ref a), (2, .int (iI c2)), (3, .int (iI i3)), (4, .int (iI ((σ0.2.1 29 a) + i3))), (5, .int (iI i5131))] [] _
        refine tn_iinc (q0 := 2) (L' := [(3, .int (iI (i3 + 1))), (0, .ref a), (2, .int (iI c2)), (4, .int (iI ((σ0.2.1 29 a) + i3))), (5, .int (iI i5131))]) dX4_addFrames_234 rfl (by decide) rfl ?_
        refine tn_goto (tgt := 28) dX4_addFrames_237 (by decide) ?_
        have cv142 : σ132.2.1 (1000 + xR) = σ30.2.1 (1000 + xR) := (CHX.r f138 (by simp only [List.mem_cons, List.not_mem_nil, or_false, not_or]; exact (hds.ne (i := 1) (j := 5) rfl rfl (by decide)))).trans (cv123)
        have cv143 : σ132.2.1 (1000 + xP) = σ58.2.1 (1000 + xP) := (CHX.r f138 (by simp only [List.mem_cons, List.not_mem_nil, or_false, not_or]; exact (hds.ne (i := 2) (j := 5) rfl rfl (by decide)))).trans (cv124)
        have cv144 : σ132.2.1 (1000 + xL) = σ86.2.1 (1000 + xL) := (CHX.r f138 (by simp only [List.mem_cons, List.not_mem_nil, or_false, not_or]; exact (hds.ne (i := 3) (j := 5) rfl rfl (by decide)))).trans (cv125)
        have cv145 : σ132.2.1 (1000 + xn) = σ113.2.1 (1000 + xn) := (CHX.r f138 (by simp only [List.mem_cons, List.not_mem_nil, or_false, not_or]; exact (hds.ne (i := 4) (j := 5) rfl rfl (by decide)))).trans (rfl)
        exact tn_sub [1, 2, 0] rfl (ih _ (by omega) (i3 + 1) σ132 w135 ((((((FrC.rfl.trans (FrC.sub hF (by decide))).trans (FrC.sub F37 (by decide))).trans (FrC.sub F65 (by decide))).trans (FrC.sub F93 (by decide))).trans (FrC.sub F120 (by decide))).trans (FrC.sub F136 (by decide))) (by omega) (((((hC.trans (CHX.sub f33 (by simp) (by simp) (by simp))).trans (CHX.sub f61 (by simp) (by simp) (by simp))).trans (CHX.sub f89 (by simp) (by simp) (by simp))).trans (CHX.sub f116 (by simp) (by simp) (by simp))).trans (CHX.sub f138 (by simp) (by simp) (by simp))) (hA1.step (by omega) (cv142.trans (ptf_row f34 ⟨by omega, by omega⟩)) (by omega) (atq_in f27 ⟨by omega, by omega⟩)) (hA2.step (by omega) (cv143.trans ((ptf_row f62 ⟨by omega, by omega⟩).trans (by rw [cv56]))) (by omega) (by show _ = (if i3 = 0 then W j0 2 else fb + Gp i3); rw [if_neg (by omega), ← atq_in f54 ⟨by omega, by omega⟩]; omega)) (hA3.step (by omega) (cv144.trans ((ptf_row f90 ⟨by omega, by omega⟩).trans (by rw [cv84]))) (by omega) (by show _ = (if i3 = 0 then W j0 1 else Gl i3); rw [if_neg (by omega)]; exact atq_in f82 ⟨by omega, by omega⟩)) (hA4.step (by omega) (cv145.trans ((ptf_row f117 ⟨by omega, by omega⟩).trans (by rw [cv111]))) (by omega) (atq_in f109 ⟨by omega, by omega⟩)) f141 (by omega) rfl)
      · refine tn_aload_n dX4_addFrames_83 rfl 1 rfl ?_
        refine tn_getR (ci := 4) (i := 2) (n := 25) (x := h) dX4_addFrames_84 rfl lay_4 (by decide) fl4_19 h_a rfl rfl (rc_F F37 (Or.inl (by decide)) (by decide) (rc_F hF (Or.inl (by decide)) (by decide) (hh))) ?_
        refine tn_iload_n dX4_addFrames_87 rfl 2 rfl ?_
        refine tn_iconst dX4_addFrames_88 ?_
        obtain ⟨hl149, hk148a, hk148b⟩ := cel_of (wf_5 hw0 hk10o) hx
        have hk148 : (T x).1 = 1 := hk148a (by omega)
        clear hk148a hk148b
        have hk148i : IA T x := by unfold IA; omega
        have cv150 : cW σ30 x n = W := (cW_row (CHX.r f33 (by simp only [List.mem_cons, List.not_mem_nil, or_false, not_or]; exact (hds.ne (i := 0) (j := 1) rfl rfl (by decide))))).trans ((cW_row (CHX.r hC (by simp only [List.mem_cons, List.not_mem_nil, or_false, not_or]; exact ⟨(hds.ne (i := 0) (j := 1) rfl rfl (by decide)), (hds.ne (i := 0) (j := 2) rfl rfl (by decide)), (hds.ne (i := 0) (j := 3) rfl rfl (by decide)), (hds.ne (i := 0) (j := 4) rfl rfl (by decide)), (hds.ne (i := 0) (j := 5) rfl rfl (by decide))⟩))).trans (hW))
        refine tn_callV (M := m_X4_addFrames) (pc := 89) (ix := 29) (ci := 1) (M' := m_X1_get) (As := [.int (iI c2), .int (iI 2)]) (rest := [.int (iI ((σ0.2.1 29 a) + i3)), .ref xP]) dX4_addFrames_89 ok_X1_get im_X1_get se_X1_get ml4_29 np_X1_get rfl rfl hk10o rfl (Nat.le_of_ble_eq_true rfl) (Nat.le_of_ble_eq_true rfl) rfl (k_X1_get_x (d + 1) (T := T) (σ := σ30) (a := h) (k := c2) (c := 2) (x := x) (n := n) (W := W) hk10o (by omega) (by decide) w36 (rc_F F37 (Or.inl (by decide)) (by decide) (rc_F hF (Or.inl (by decide)) (by decide) (hx))) (rc_F F37 (Or.inl (by decide)) (by decide) (rc_F hF (Or.inl (by decide)) (by decide) (hn))) cv150 (by omega) (by omega)) (fun r151 T153 σ152 gt154 hp => ?_)
        obtain ⟨v157, rfl, rfl, rfl, f155, f156⟩ := hp
        clear gt154
        show Tn _ _ 92 T σ30 [(4, .int (iI ((σ0.2.1 29 a) + i3))), (0, .ref a), (2, .int (iI c2)), (3, .int (iI i3))] [.int (iI v157), .int (iI ((σ0.2.1 29 a) + i3)), .ref xP] _
        have hz9 : i3 = 0 := by omega
        refine tn_goto (tgt := 111) dX4_addFrames_92 (by decide) ?_
        have cv158 : σ30.2.1 (1000 + xP) = σ.2.1 (1000 + xP) := (CHX.r f33 (by simp only [List.mem_cons, List.not_mem_nil, or_false, not_or]; exact (hds.ne (i := 2) (j := 1) rfl rfl (by decide)))).trans (rfl)
        refine tn_callSN (M := m_X4_addFrames) (pc := 111) (ix := 81) (M' := m_X11_put) (As := [.ref xP, .int (iI ((σ0.2.1 29 a) + i3)), .int (iI v157)]) (rest := []) dX4_addFrames_111 ok_X11_put stt_X11_put nl4_81 np_X11_put rfl (Nat.le_of_ble_eq_true rfl) (Nat.le_of_ble_eq_true rfl) rfl (k_X11_put_x (d + 1) (T := T) (σ := σ30) (x := xP) (i := (σ0.2.1 29 a) + i3) (y := v157) hk40i (by omega) (by omega) (by omega) w36 (nh_k hk40 (by unfold HT; omega)) (vok_1 (by have q9 := hk40; omega) (by omega))) (fun r159 T161 σ160 gt162 hp => ?_)
        obtain ⟨rfl, rfl, w166, F167, f163, f164⟩ := hp
        clear gt162
        show Tn _ _ 114 T σ160 [(4, .int (iI ((σ0.2.1 29 a) + i3))), (0, .ref a), (2, .int (iI c2)), (3, .int (iI i3))] [] _
        refine tn_aload_n dX4_addFrames_114 rfl 1 rfl ?_
        refine tn_getR (ci := 4) (i := 2) (n := 25) (x := h) dX4_addFrames_115 rfl lay_4 (by decide) fl4_19 h_a rfl rfl (rc_F F167 (Or.inl (by decide)) (by decide) (rc_F F37 (Or.inl (by decide)) (by decide) (rc_F hF (Or.inl (by decide)) (by decide) (hh)))) ?_
        obtain ⟨hk170, hl171⟩ : AR T xL 1 12 12 := ar_of (wf_13 hw0 hk10o) hxL
        have hk170i : IA T xL := by unfold IA; omega
        refine tn_getR (ci := 1) (i := 8) (n := 13) (x := xL) dX4_addFrames_118 rfl lay_1 (by decide) fl4_135 hk10o rfl rfl (rc_F F167 (Or.inl (by decide)) (by decide) (rc_F F37 (Or.inl (by decide)) (by decide) (rc_F hF (Or.inl (by decide)) (by decide) (hxL)))) ?_
        refine tn_iload dX4_addFrames_121 0 rfl ?_
        refine tn_iload_n dX4_addFrames_123 rfl 3 rfl ?_
        refine tn_if_ne (tgt := 139) dX4_addFrames_124 (by decide) ⟨by omega, by omega⟩ (fun h172 => absurd h172 (by omega)) (fun h172 => ?_)
        refine tn_aload_n dX4_addFrames_127 rfl 1 rfl ?_
        refine tn_getR (ci := 4) (i := 2) (n := 25) (x := h) dX4_addFrames_128 rfl lay_4 (by decide) fl4_19 h_a rfl rfl (rc_F F167 (Or.inl (by decide)) (by decide) (rc_F F37 (Or.inl (by decide)) (by decide) (rc_F hF (Or.inl (by decide)) (by decide) (hh)))) ?_
        refine tn_iload_n dX4_addFrames_131 rfl 2 rfl ?_
        refine tn_iconst dX4_addFrames_132 ?_
        have cv173 : cW σ160 x n = W := (cW_row (CHX.r f163 (by simp only [List.mem_cons, List.not_mem_nil, or_false, not_or]; exact (hds.ne (i := 0) (j := 2) rfl rfl (by decide))))).trans (cv150)
        refine tn_callV (M := m_X4_addFrames) (pc := 133) (ix := 29) (ci := 1) (M' := m_X1_get) (As := [.int (iI c2), .int (iI 1)]) (rest := [.int (iI ((σ0.2.1 29 a) + i3)), .ref xL]) dX4_addFrames_133 ok_X1_get im_X1_get se_X1_get ml4_29 np_X1_get rfl rfl hk10o rfl (Nat.le_of_ble_eq_true rfl) (Nat.le_of_ble_eq_true rfl) rfl (k_X1_get_x (d + 1) (T := T) (σ := σ160) (a := h) (k := c2) (c := 1) (x := x) (n := n) (W := W) hk10o (by omega) (by decide) w166 (rc_F F167 (Or.inl (by decide)) (by decide) (rc_F F37 (Or.inl (by decide)) (by decide) (rc_F hF (Or.inl (by decide)) (by decide) (hx)))) (rc_F F167 (Or.inl (by decide)) (by decide) (rc_F F37 (Or.inl (by decide)) (by decide) (rc_F hF (Or.inl (by decide)) (by decide) (hn)))) cv173 (by omega) (by omega)) (fun r174 T176 σ175 gt177 hp => ?_)
        obtain ⟨v180, rfl, rfl, rfl, f178, f179⟩ := hp
        clear gt177
        show Tn _ _ 136 T σ160 [(4, .int (iI ((σ0.2.1 29 a) + i3))), (0, .ref a), (2, .int (iI c2)), (3, .int (iI i3))] [.int (iI v180), .int (iI ((σ0.2.1 29 a) + i3)), .ref xL] _
        refine tn_goto (tgt := 150) dX4_addFrames_136 (by decide) ?_
        have cv181 : σ160.2.1 (1000 + xL) = σ.2.1 (1000 + xL) := (CHX.r f163 (by simp only [List.mem_cons, List.not_mem_nil, or_false, not_or]; exact (hds.ne (i := 3) (j := 2) rfl rfl (by decide)))).trans ((CHX.r f33 (by simp only [List.mem_cons, List.not_mem_nil, or_false, not_or]; exact (hds.ne (i := 3) (j := 1) rfl rfl (by decide)))).trans (rfl))
        refine tn_callSN (M := m_X4_addFrames) (pc := 150) (ix := 81) (M' := m_X11_put) (As := [.ref xL, .int (iI ((σ0.2.1 29 a) + i3)), .int (iI v180)]) (rest := []) dX4_addFrames_150 ok_X11_put stt_X11_put nl4_81 np_X11_put rfl (Nat.le_of_ble_eq_true rfl) (Nat.le_of_ble_eq_true rfl) rfl (k_X11_put_x (d + 1) (T := T) (σ := σ160) (x := xL) (i := (σ0.2.1 29 a) + i3) (y := v180) hk170i (by omega) (by omega) (by omega) w166 (nh_k hk170 (by unfold HT; omega)) (vok_1 (by have q9 := hk170; omega) (by omega))) (fun r182 T184 σ183 gt185 hp => ?_)
        obtain ⟨rfl, rfl, w189, F190, f186, f187⟩ := hp
        clear gt185
        show Tn _ _ 153 T σ183 [(4, .int (iI ((σ0.2.1 29 a) + i3))), (0, .ref a), (2, .int (iI c2)), (3, .int (iI i3))] [] _
        refine tn_aload_n dX4_addFrames_153 rfl 1 rfl ?_
        refine tn_getR (ci := 4) (i := 2) (n := 25) (x := h) dX4_addFrames_154 rfl lay_4 (by decide) fl4_19 h_a rfl rfl (rc_F F190 (Or.inl (by decide)) (by decide) (rc_F F167 (Or.inl (by decide)) (by decide) (rc_F F37 (Or.inl (by decide)) (by decide) (rc_F hF (Or.inl (by decide)) (by decide) (hh))))) ?_
        obtain ⟨hk193, hl194⟩ : AR T xn 11 12 12 := ar_of (wf_14 hw0 hk10o) hxn
        have hk193i : IA T xn := by unfold IA; omega
        refine tn_getR (ci := 1) (i := 9) (n := 14) (x := xn) dX4_addFrames_157 rfl lay_1 (by decide) fl4_138 hk10o rfl rfl (rc_F F190 (Or.inl (by decide)) (by decide) (rc_F F167 (Or.inl (by decide)) (by decide) (rc_F F37 (Or.inl (by decide)) (by decide) (rc_F hF (Or.inl (by decide)) (by decide) (hxn))))) ?_
        refine tn_iload dX4_addFrames_160 0 rfl ?_
        refine tn_aload_n dX4_addFrames_162 rfl 1 rfl ?_
        refine tn_getR (ci := 4) (i := 3) (n := 26) (x := g) dX4_addFrames_163 rfl lay_4 (by decide) fl4_33 h_a rfl rfl (rc_F F190 (Or.inl (by decide)) (by decide) (rc_F F167 (Or.inl (by decide)) (by decide) (rc_F F37 (Or.inl (by decide)) (by decide) (rc_F hF (Or.inl (by decide)) (by decide) (hg))))) ?_
        obtain ⟨hk197, hl198⟩ : AR T yn 11 12 12 := ar_of (wf_14 hw0 hk3o) hyn
        have hk197i : IA T yn := by unfold IA; omega
        refine tn_getR (ci := 1) (i := 9) (n := 14) (x := yn) dX4_addFrames_166 rfl lay_1 (by decide) fl4_138 hk3o rfl rfl (rc_F F190 (Or.inl (by decide)) (by decide) (rc_F F167 (Or.inl (by decide)) (by decide) (rc_F F37 (Or.inl (by decide)) (by decide) (rc_F hF (Or.inl (by decide)) (by decide) (hyn))))) ?_
        refine tn_iload_n dX4_addFrames_169 rfl 3 rfl ?_
        have cv199 : σ183.2.1 (1000 + yn) = Gn := (CHX.r f186 (by simp only [List.mem_cons, List.not_mem_nil, or_false, not_or]; exact (hds.ne (i := 9) (j := 3) rfl rfl (by decide)))).trans ((CHX.r f163 (by simp only [List.mem_cons, List.not_mem_nil, or_false, not_or]; exact (hds.ne (i := 9) (j := 2) rfl rfl (by decide)))).trans ((CHX.r f33 (by simp only [List.mem_cons, List.not_mem_nil, or_false, not_or]; exact (hds.ne (i := 9) (j := 1) rfl rfl (by decide)))).trans ((CHX.r hC (by simp only [List.mem_cons, List.not_mem_nil, or_false, not_or]; exact ⟨(hds.ne (i := 9) (j := 1) rfl rfl (by decide)), (hds.ne (i := 9) (j := 2) rfl rfl (by decide)), (hds.ne (i := 9) (j := 3) rfl rfl (by decide)), (hds.ne (i := 9) (j := 4) rfl rfl (by decide)), (hds.ne (i := 9) (j := 5) rfl rfl (by decide))⟩)).trans (hGn))))
        refine tn_callSN (M := m_X4_addFrames) (pc := 170) (ix := 128) (M' := m_X11_at) (As := [.ref yn, .int (iI i3)]) (rest := [.int (iI ((σ0.2.1 29 a) + i3)), .ref xn]) dX4_addFrames_170 ok_X11_at stt_X11_at nl4_128 np_X11_at rfl (Nat.le_of_ble_eq_true rfl) (Nat.le_of_ble_eq_true rfl) rfl (k_X11_at_x (d + 1) (T := T) (σ := σ183) (x := yn) (i := i3) (R := Gn) hk197i (by omega) (by omega) w189 cv199) (fun r200 T202 σ201 gt203 hp => ?_)
        obtain ⟨v207, rfl, rfl, rfl, f204, f205, f206⟩ := hp
        clear gt203
        have f205n := f205.2.1 hk197
        clear f205
        have f206u := f206
        unfold ATQ at f206u
        show Tn _ _ 173 T σ183 [(4, .int (iI ((σ0.2.1 29 a) + i3))), (0, .ref a), (2, .int (iI c2)), (3, .int (iI i3))] [.int (iI v207), .int (iI ((σ0.2.1 29 a) + i3)), .ref xn] _
        have cv208 : σ183.2.1 (1000 + xn) = σ.2.1 (1000 + xn) := (CHX.r f186 (by simp only [List.mem_cons, List.not_mem_nil, or_false, not_or]; exact (hds.ne (i := 4) (j := 3) rfl rfl (by decide)))).trans ((CHX.r f163 (by simp only [List.mem_cons, List.not_mem_nil, or_false, not_or]; exact (hds.ne (i := 4) (j := 2) rfl rfl (by decide)))).trans ((CHX.r f33 (by simp only [List.mem_cons, List.not_mem_nil, or_false, not_or]; exact (hds.ne (i := 4) (j := 1) rfl rfl (by decide)))).trans (rfl)))
        refine tn_callSN (M := m_X4_addFrames) (pc := 173) (ix := 81) (M' := m_X11_put) (As := [.ref xn, .int (iI ((σ0.2.1 29 a) + i3)), .int (iI v207)]) (rest := []) dX4_addFrames_173 ok_X11_put stt_X11_put nl4_81 np_X11_put rfl (Nat.le_of_ble_eq_true rfl) (Nat.le_of_ble_eq_true rfl) rfl (k_X11_put_x (d + 1) (T := T) (σ := σ183) (x := xn) (i := (σ0.2.1 29 a) + i3) (y := v207) hk193i (by omega) (by omega) (by omega) w189 (nh_k hk193 (by unfold HT; omega)) (by rw [hk193]; exact vok_11 (by omega))) (fun r209 T211 σ210 gt212 hp => ?_)
        obtain ⟨rfl, rfl, w216, F217, f213, f214⟩ := hp
        clear gt212
        show Tn _ _ 176 T σ210 [(4, .int (iI ((σ0.2.1 29 a) + i3))), (0, .ref a), (2, .int (iI c2)), (3, .int (iI i3))] [] _
        refine tn_iconst dX4_addFrames_176 ?_
        refine tn_istore (L' := [(5, .int (iI 0)), (4, .int (iI ((σ0.2.1 29 a) + i3))), (0, .ref a), (2, .int (iI c2)), (3, .int (iI i3))]) dX4_addFrames_177 (by decide) rfl ?_
        have cv218 : σ210.2.1 (1000 + xh) = σ.2.1 (1000 + xh) := (CHX.r f213 (by simp only [List.mem_cons, List.not_mem_nil, or_false, not_or]; exact (hds.ne (i := 5) (j := 4) rfl rfl (by decide)))).trans ((CHX.r f186 (by simp only [List.mem_cons, List.not_mem_nil, or_false, not_or]; exact (hds.ne (i := 5) (j := 3) rfl rfl (by decide)))).trans ((CHX.r f163 (by simp only [List.mem_cons, List.not_mem_nil, or_false, not_or]; exact (hds.ne (i := 5) (j := 2) rfl rfl (by decide)))).trans ((CHX.r f33 (by simp only [List.mem_cons, List.not_mem_nil, or_false, not_or]; exact (hds.ne (i := 5) (j := 1) rfl rfl (by decide)))).trans (rfl))))
        have cv219 : cW σ210 x n = W := (cW_row (CHX.r f213 (by simp only [List.mem_cons, List.not_mem_nil, or_false, not_or]; exact (hds.ne (i := 0) (j := 4) rfl rfl (by decide))))).trans ((cW_row (CHX.r f186 (by simp only [List.mem_cons, List.not_mem_nil, or_false, not_or]; exact (hds.ne (i := 0) (j := 3) rfl rfl (by decide))))).trans (cv173))
        have cv220 : σ210.2.1 (1000 + xR) = σ30.2.1 (1000 + xR) := (CHX.r f213 (by simp only [List.mem_cons, List.not_mem_nil, or_false, not_or]; exact (hds.ne (i := 1) (j := 4) rfl rfl (by decide)))).trans ((CHX.r f186 (by simp only [List.mem_cons, List.not_mem_nil, or_false, not_or]; exact (hds.ne (i := 1) (j := 3) rfl rfl (by decide)))).trans ((CHX.r f163 (by simp only [List.mem_cons, List.not_mem_nil, or_false, not_or]; exact (hds.ne (i := 1) (j := 2) rfl rfl (by decide)))).trans (rfl)))
        have cv221 : σ210.2.1 (1000 + xP) = σ160.2.1 (1000 + xP) := (CHX.r f213 (by simp only [List.mem_cons, List.not_mem_nil, or_false, not_or]; exact (hds.ne (i := 2) (j := 4) rfl rfl (by decide)))).trans ((CHX.r f186 (by simp only [List.mem_cons, List.not_mem_nil, or_false, not_or]; exact (hds.ne (i := 2) (j := 3) rfl rfl (by decide)))).trans (rfl))
        have cv222 : σ210.2.1 (1000 + xL) = σ183.2.1 (1000 + xL) := (CHX.r f213 (by simp only [List.mem_cons, List.not_mem_nil, or_false, not_or]; exact (hds.ne (i := 3) (j := 4) rfl rfl (by decide)))).trans (rfl)
        have cv223 : σ210.2.1 (1000 + yR) = Gr := (CHX.r f213 (by simp only [List.mem_cons, List.not_mem_nil, or_false, not_or]; exact (hds.ne (i := 6) (j := 4) rfl rfl (by decide)))).trans ((CHX.r f186 (by simp only [List.mem_cons, List.not_mem_nil, or_false, not_or]; exact (hds.ne (i := 6) (j := 3) rfl rfl (by decide)))).trans ((CHX.r f163 (by simp only [List.mem_cons, List.not_mem_nil, or_false, not_or]; exact (hds.ne (i := 6) (j := 2) rfl rfl (by decide)))).trans ((CHX.r f33 (by simp only [List.mem_cons, List.not_mem_nil, or_false, not_or]; exact (hds.ne (i := 6) (j := 1) rfl rfl (by decide)))).trans (cv20))))
        have cv224 : σ210.2.1 (1000 + yP) = Gp := (CHX.r f213 (by simp only [List.mem_cons, List.not_mem_nil, or_false, not_or]; exact (hds.ne (i := 7) (j := 4) rfl rfl (by decide)))).trans ((CHX.r f186 (by simp only [List.mem_cons, List.not_mem_nil, or_false, not_or]; exact (hds.ne (i := 7) (j := 3) rfl rfl (by decide)))).trans ((CHX.r f163 (by simp only [List.mem_cons, List.not_mem_nil, or_false, not_or]; exact (hds.ne (i := 7) (j := 2) rfl rfl (by decide)))).trans ((CHX.r f33 (by simp only [List.mem_cons, List.not_mem_nil, or_false, not_or]; exact (hds.ne (i := 7) (j := 1) rfl rfl (by decide)))).trans ((CHX.r hC (by simp only [List.mem_cons, List.not_mem_nil, or_false, not_or]; exact ⟨(hds.ne (i := 7) (j := 1) rfl rfl (by decide)), (hds.ne (i := 7) (j := 2) rfl rfl (by decide)), (hds.ne (i := 7) (j := 3) rfl rfl (by decide)), (hds.ne (i := 7) (j := 4) rfl rfl (by decide)), (hds.ne (i := 7) (j := 5) rfl rfl (by decide))⟩)).trans (hGp)))))
        have cv225 : σ210.2.1 (1000 + yL) = Gl := (CHX.r f213 (by simp only [List.mem_cons, List.not_mem_nil, or_false, not_or]; exact (hds.ne (i := 8) (j := 4) rfl rfl (by decide)))).trans ((CHX.r f186 (by simp only [List.mem_cons, List.not_mem_nil, or_false, not_or]; exact (hds.ne (i := 8) (j := 3) rfl rfl (by decide)))).trans ((CHX.r f163 (by simp only [List.mem_cons, List.not_mem_nil, or_false, not_or]; exact (hds.ne (i := 8) (j := 2) rfl rfl (by decide)))).trans ((CHX.r f33 (by simp only [List.mem_cons, List.not_mem_nil, or_false, not_or]; exact (hds.ne (i := 8) (j := 1) rfl rfl (by decide)))).trans ((CHX.r hC (by simp only [List.mem_cons, List.not_mem_nil, or_false, not_or]; exact ⟨(hds.ne (i := 8) (j := 1) rfl rfl (by decide)), (hds.ne (i := 8) (j := 2) rfl rfl (by decide)), (hds.ne (i := 8) (j := 3) rfl rfl (by decide)), (hds.ne (i := 8) (j := 4) rfl rfl (by decide)), (hds.ne (i := 8) (j := 5) rfl rfl (by decide))⟩)).trans (hGl)))))
        have cv226 : σ210.2.1 (1000 + yn) = Gn := (CHX.r f213 (by simp only [List.mem_cons, List.not_mem_nil, or_false, not_or]; exact (hds.ne (i := 9) (j := 4) rfl rfl (by decide)))).trans (cv199)
        have cv227 : σ210.2.1 (1000 + yh) = Gh := (CHX.r f213 (by simp only [List.mem_cons, List.not_mem_nil, or_false, not_or]; exact (hds.ne (i := 10) (j := 4) rfl rfl (by decide)))).trans ((CHX.r f186 (by simp only [List.mem_cons, List.not_mem_nil, or_false, not_or]; exact (hds.ne (i := 10) (j := 3) rfl rfl (by decide)))).trans ((CHX.r f163 (by simp only [List.mem_cons, List.not_mem_nil, or_false, not_or]; exact (hds.ne (i := 10) (j := 2) rfl rfl (by decide)))).trans ((CHX.r f33 (by simp only [List.mem_cons, List.not_mem_nil, or_false, not_or]; exact (hds.ne (i := 10) (j := 1) rfl rfl (by decide)))).trans ((CHX.r hC (by simp only [List.mem_cons, List.not_mem_nil, or_false, not_or]; exact ⟨(hds.ne (i := 10) (j := 1) rfl rfl (by decide)), (hds.ne (i := 10) (j := 2) rfl rfl (by decide)), (hds.ne (i := 10) (j := 3) rfl rfl (by decide)), (hds.ne (i := 10) (j := 4) rfl rfl (by decide)), (hds.ne (i := 10) (j := 5) rfl rfl (by decide))⟩)).trans (hGh)))))
        refine tn_sub [2, 3, 4, 1, 0] rfl (l_X4_addFrames_x_179 (d) (T := T) (σ0 := σ210) (a := a) (c2 := c2) (c3 := i3) (c4 := (σ0.2.1 29 a) + i3) (h := h) (x := x) (n := n) (W := (W)) (xR := xR) (Hr := (σ30.2.1 (1000 + xR))) (xP := xP) (Hp := (σ160.2.1 (1000 + xP))) (xL := xL) (Hl := (σ183.2.1 (1000 + xL))) (xn := xn) (Hn := (σ210.2.1 (1000 + xn))) (xh := xh) (Hh := Hh) (g := g) (Fg := Fg) (yR := yR) (Gr := (Gr)) (yP := yP) (Gp := (Gp)) (yL := yL) (Gl := (Gl)) (yn := yn) (Gn := (Gn)) (yh := yh) (Gh := (Gh)) (base := base) (fb := fb) (j0 := j0) (Hh0 := Hh) h_a (by omega) (by omega) (by omega) w216 (by omega) (rc_F F217 (Or.inl (by decide)) (by decide) (rc_F F190 (Or.inl (by decide)) (by decide) (rc_F F167 (Or.inl (by decide)) (by decide) (rc_F F37 (Or.inl (by decide)) (by decide) (rc_F hF (Or.inl (by decide)) (by decide) (hh)))))) (rc_F F217 (Or.inl (by decide)) (by decide) (rc_F F190 (Or.inl (by decide)) (by decide) (rc_F F167 (Or.inl (by decide)) (by decide) (rc_F F37 (Or.inl (by decide)) (by decide) (rc_F hF (Or.inl (by decide)) (by decide) (hx)))))) (rc_F F217 (Or.inl (by decide)) (by decide) (rc_F F190 (Or.inl (by decide)) (by decide) (rc_F F167 (Or.inl (by decide)) (by decide) (rc_F F37 (Or.inl (by decide)) (by decide) (rc_F hF (Or.inl (by decide)) (by decide) (hn)))))) cv219 (rc_F F217 (Or.inl (by decide)) (by decide) (rc_F F190 (Or.inl (by decide)) (by decide) (rc_F F167 (Or.inl (by decide)) (by decide) (rc_F F37 (Or.inl (by decide)) (by decide) (rc_F hF (Or.inl (by decide)) (by decide) (hxR)))))) cv220 (rc_F F217 (Or.inl (by decide)) (by decide) (rc_F F190 (Or.inl (by decide)) (by decide) (rc_F F167 (Or.inl (by decide)) (by decide) (rc_F F37 (Or.inl (by decide)) (by decide) (rc_F hF (Or.inl (by decide)) (by decide) (hxP)))))) cv221 (rc_F F217 (Or.inl (by decide)) (by decide) (rc_F F190 (Or.inl (by decide)) (by decide) (rc_F F167 (Or.inl (by decide)) (by decide) (rc_F F37 (Or.inl (by decide)) (by decide) (rc_F hF (Or.inl (by decide)) (by decide) (hxL)))))) cv222 (rc_F F217 (Or.inl (by decide)) (by decide) (rc_F F190 (Or.inl (by decide)) (by decide) (rc_F F167 (Or.inl (by decide)) (by decide) (rc_F F37 (Or.inl (by decide)) (by decide) (rc_F hF (Or.inl (by decide)) (by decide) (hxn)))))) rfl (rc_F F217 (Or.inl (by decide)) (by decide) (rc_F F190 (Or.inl (by decide)) (by decide) (rc_F F167 (Or.inl (by decide)) (by decide) (rc_F F37 (Or.inl (by decide)) (by decide) (rc_F hF (Or.inl (by decide)) (by decide) (hxh)))))) (rc_F F217 (Or.inl (by decide)) (by decide) (rc_F F190 (Or.inl (by decide)) (by decide) (rc_F F167 (Or.inl (by decide)) (by decide) (rc_F F37 (Or.inl (by decide)) (by decide) (rc_F hF (Or.inl (by decide)) (by decide) (hg)))))) (rc_F F217 (Or.inl (by decide)) (by decide) (rc_F F190 (Or.inl (by decide)) (by decide) (rc_F F167 (Or.inl (by decide)) (by decide) (rc_F F37 (Or.inl (by decide)) (by decide) (rc_F hF (Or.inl (by decide)) (by decide) (hFg)))))) (rc_F F217 (Or.inl (by decide)) (by decide) (rc_F F190 (Or.inl (by decide)) (by decide) (rc_F F167 (Or.inl (by decide)) (by decide) (rc_F F37 (Or.inl (by decide)) (by decide) (rc_F hF (Or.inl (by decide)) (by decide) (hyR)))))) cv223 (rc_F F217 (Or.inl (by decide)) (by decide) (rc_F F190 (Or.inl (by decide)) (by decide) (rc_F F167 (Or.inl (by decide)) (by decide) (rc_F F37 (Or.inl (by decide)) (by decide) (rc_F hF (Or.inl (by decide)) (by decide) (hyP)))))) cv224 (rc_F F217 (Or.inl (by decide)) (by decide) (rc_F F190 (Or.inl (by decide)) (by decide) (rc_F F167 (Or.inl (by decide)) (by decide) (rc_F F37 (Or.inl (by decide)) (by decide) (rc_F hF (Or.inl (by decide)) (by decide) (hyL)))))) cv225 (rc_F F217 (Or.inl (by decide)) (by decide) (rc_F F190 (Or.inl (by decide)) (by decide) (rc_F F167 (Or.inl (by decide)) (by decide) (rc_F F37 (Or.inl (by decide)) (by decide) (rc_F hF (Or.inl (by decide)) (by decide) (hyn)))))) cv226 (rc_F F217 (Or.inl (by decide)) (by decide) (rc_F F190 (Or.inl (by decide)) (by decide) (rc_F F167 (Or.inl (by decide)) (by decide) (rc_F F37 (Or.inl (by decide)) (by decide) (rc_F hF (Or.inl (by decide)) (by decide) (hyh)))))) cv227 (rc_F F217 (Or.inl (by decide)) (by decide) (rc_F F190 (Or.inl (by decide)) (by decide) (rc_F F167 (Or.inl (by decide)) (by decide) (rc_F F37 (Or.inl (by decide)) (by decide) (rc_F hF (Or.inl (by decide)) (by decide) (hbase)))))) (rc_F F217 (Or.inl (by decide)) (by decide) (rc_F F190 (Or.inl (by decide)) (by decide) (rc_F F167 (Or.inl (by decide)) (by decide) (rc_F F37 (Or.inl (by decide)) (by decide) (rc_F hF (Or.inl (by decide)) (by decide) (hfb)))))) hN hds haf hgn hgh hln hgp (fun i5228 σ229 w232 F233 r234 f235 f236 f237 f238 => ?_) _ (0) σ210 w216 FrC.rfl (by omega) CHX.rfl (by rw [cv218]; exact hA5) (by omega) rfl)
        show Tn _ _ 234 T σ229 [(0, .ref a), (2, .int (iI c2)), (3, .int (iI i3)), (4, .int (iI ((σ0.2.1 29 a) + i3))), (5, .int (iI i5228))] [] _
        refine tn_iinc (q0 := 2) (L' := [(3, .int (iI (i3 + 1))), (0, .ref a), (2, .int (iI c2)), (4, .int (iI ((σ0.2.1 29 a) + i3))), (5, .int (iI i5228))]) dX4_addFrames_234 rfl (by decide) rfl ?_
        refine tn_goto (tgt := 28) dX4_addFrames_237 (by decide) ?_
        have cv239 : σ229.2.1 (1000 + xR) = σ30.2.1 (1000 + xR) := (CHX.r f235 (by simp only [List.mem_cons, List.not_mem_nil, or_false, not_or]; exact (hds.ne (i := 1) (j := 5) rfl rfl (by decide)))).trans (cv220)
        have cv240 : σ229.2.1 (1000 + xP) = σ160.2.1 (1000 + xP) := (CHX.r f235 (by simp only [List.mem_cons, List.not_mem_nil, or_false, not_or]; exact (hds.ne (i := 2) (j := 5) rfl rfl (by decide)))).trans (cv221)
        have cv241 : σ229.2.1 (1000 + xL) = σ183.2.1 (1000 + xL) := (CHX.r f235 (by simp only [List.mem_cons, List.not_mem_nil, or_false, not_or]; exact (hds.ne (i := 3) (j := 5) rfl rfl (by decide)))).trans (cv222)
        have cv242 : σ229.2.1 (1000 + xn) = σ210.2.1 (1000 + xn) := (CHX.r f235 (by simp only [List.mem_cons, List.not_mem_nil, or_false, not_or]; exact (hds.ne (i := 4) (j := 5) rfl rfl (by decide)))).trans (rfl)
        exact tn_sub [1, 2, 0] rfl (ih _ (by omega) (i3 + 1) σ229 w232 ((((((FrC.rfl.trans (FrC.sub hF (by decide))).trans (FrC.sub F37 (by decide))).trans (FrC.sub F167 (by decide))).trans (FrC.sub F190 (by decide))).trans (FrC.sub F217 (by decide))).trans (FrC.sub F233 (by decide))) (by omega) (((((hC.trans (CHX.sub f33 (by simp) (by simp) (by simp))).trans (CHX.sub f163 (by simp) (by simp) (by simp))).trans (CHX.sub f186 (by simp) (by simp) (by simp))).trans (CHX.sub f213 (by simp) (by simp) (by simp))).trans (CHX.sub f235 (by simp) (by simp) (by simp))) (hA1.step (by omega) (cv239.trans (ptf_row f34 ⟨by omega, by omega⟩)) (by omega) (atq_in f27 ⟨by omega, by omega⟩)) (hA2.step (by omega) (cv240.trans ((ptf_row f164 ⟨by omega, by omega⟩).trans (by rw [cv158]))) (by omega) (by show _ = (if i3 = 0 then W j0 2 else fb + Gp i3); rw [if_pos (by omega)]; rw [f156]; congr 1 <;> omega)) (hA3.step (by omega) (cv241.trans ((ptf_row f187 ⟨by omega, by omega⟩).trans (by rw [cv181]))) (by omega) (by show _ = (if i3 = 0 then W j0 1 else Gl i3); rw [if_pos (by omega)]; rw [f179]; congr 1 <;> omega)) (hA4.step (by omega) (cv242.trans ((ptf_row f214 ⟨by omega, by omega⟩).trans (by rw [cv208]))) (by omega) (atq_in f206 ⟨by omega, by omega⟩)) f238 (by omega) rfl)
set_option maxHeartbeats 1000000 in
set_option maxRecDepth 20000 in
theorem k_X4_addFrames_x (d : Nat) {T : CT} {σ : MS} {a : Nat} {k : Int} {h : Nat} {x : Nat} {n : Int} {W : Int → It} {xR : Nat} {Hr : Int → Int} {xP : Nat} {Hp : Int → Int} {xL : Nat} {Hl : Int → Int} {xn : Nat} {Hn : Int → Int} {xh : Nat} {Hh : Int → Int} {g : Nat} {Fg : Int} {yR : Nat} {Gr : Int → Int} {yP : Nat} {Gp : Int → Int} {yL : Nat} {Gl : Int → Int} {yn : Nat} {Gn : Int → Int} {yh : Nat} {Gh : Int → Int} {base : Int} {fb : Int} {j0 : Int} (ha : OB T a 4) (h_k : -2147483648 ≤ k ∧ k ≤ 2147483647) (hw : WT T σ) (hh : σ.2.1 25 a = (h : Int)) (hx : σ.2.1 5 h = (x : Int)) (hn : σ.2.1 6 h = n) (hW : cW σ x n = W) (hxR : σ.2.1 11 h = (xR : Int)) (hHr : σ.2.1 (1000 + xR) = Hr) (hxP : σ.2.1 12 h = (xP : Int)) (hHp : σ.2.1 (1000 + xP) = Hp) (hxL : σ.2.1 13 h = (xL : Int)) (hHl : σ.2.1 (1000 + xL) = Hl) (hxn : σ.2.1 14 h = (xn : Int)) (hHn : σ.2.1 (1000 + xn) = Hn) (hxh : σ.2.1 15 h = (xh : Int)) (hHh : σ.2.1 (1000 + xh) = Hh) (hg : σ.2.1 26 a = (g : Int)) (hFg : σ.2.1 10 g = Fg) (hyR : σ.2.1 11 g = (yR : Int)) (hGr : σ.2.1 (1000 + yR) = Gr) (hyP : σ.2.1 12 g = (yP : Int)) (hGp : σ.2.1 (1000 + yP) = Gp) (hyL : σ.2.1 13 g = (yL : Int)) (hGl : σ.2.1 (1000 + yL) = Gl) (hyn : σ.2.1 14 g = (yn : Int)) (hGn : σ.2.1 (1000 + yn) = Gn) (hyh : σ.2.1 15 g = (yh : Int)) (hGh : σ.2.1 (1000 + yh) = Gh) (hbase : σ.2.1 27 a = base) (hfb : σ.2.1 29 a = fb) (hN : n ≤ 200) (hds : DS [x, xR, xP, xL, xn, xh, yR, yP, yL, yn, yh]) (haf : (0 ≤ base ∧ base ≤ 192) ∧ (0 ≤ fb ∧ fb + Fg ≤ 12 ∧ 0 ≤ Fg)) (hgn : ∀ f, 0 ≤ f → f < Fg → 0 ≤ Gn f ∧ Gn f ≤ 12) (hgh : ∀ f m, 0 ≤ f → f < Fg → 0 ≤ m → m < Gn f → 0 ≤ Gh (12 * f + m) ∧ Gh (12 * f + m) < 192) (hln : (0 ≤ j0 ∧ j0 < n) ∧ -2147483648 + 100 ≤ W j0 2 ∧ W j0 2 ≤ 100000) (hgp : ∀ f, 0 ≤ f → f < Fg → -1000 ≤ Gp f ∧ Gp f ≤ 100000) (hkn : 0 ≤ k ∧ k < n) (hk10 : W k 0 = 10) (hlA : lnA (vW W) k j0) : Tn (d + 3) m_X4_addFrames 0 T σ [(0, .ref a), (1, .int (iI k))] [] (fun ro T2 σ2 => ro = none ∧ T = T2 ∧ WT T2 σ2 ∧ FrC T [10] σ σ2 ∧ (CHX [(10, h)] [xR, xP, xL, xn, xh] [] σ σ2) ∧ (σ2.2.1 10 h = fb + Fg) ∧ (SPR (σ2.2.1 (1000 + xR)) Hr Gr fb Fg) ∧ (SPR (σ2.2.1 (1000 + xP)) Hp (fun f => if f = 0 then W j0 2 else fb + Gp f) fb Fg) ∧ (SPR (σ2.2.1 (1000 + xL)) Hl (fun f => if f = 0 then W j0 1 else Gl f) fb Fg) ∧ (SPR (σ2.2.1 (1000 + xn)) Hn Gn fb Fg) ∧ (HMR (σ2.2.1 (1000 + xh)) Hh Gn Gh base fb Fg 0)) := by
  refine tn_iload_n dX4_addFrames_0 rfl 1 rfl ?_
  refine tn_istore_n (L' := [(2, .int (iI k)), (0, .ref a), (1, .int (iI k))]) dX4_addFrames_1 rfl (by decide) rfl ?_
  refine tn_sub [1, 0] rfl (l_X4_addFrames_x_2 (d) (T := T) (σ := σ) (a := a) (h := h) (x := x) (n := n) (W := (W)) (xR := xR) (Hr := (Hr)) (xP := xP) (Hp := (Hp)) (xL := xL) (Hl := (Hl)) (xn := xn) (Hn := (Hn)) (xh := xh) (Hh := (Hh)) (g := g) (Fg := Fg) (yR := yR) (Gr := (Gr)) (yP := yP) (Gp := (Gp)) (yL := yL) (Gl := (Gl)) (yn := yn) (Gn := (Gn)) (yh := yh) (Gh := (Gh)) (base := base) (fb := fb) (j0 := j0) (kc := k) ha hw (by omega) hlA (hh) (hx) (hn) hW (hxR) hHr (hxP) hHp (hxL) hHl (hxn) hHn (hxh) hHh (hg) (hFg) (hyR) hGr (hyP) hGp (hyL) hGl (hyn) hGn (hyh) hGh (hbase) (hfb) hN hds haf hgn hgh hln hgp (fun i21 r7 f8 f9 => ?_) _ (k) (by omega) (by have z := hlA.2.1; omega) rfl)
  show Tn _ _ 26 T σ [(0, .ref a), (2, .int (iI i21))] [] _
  refine tn_iconst dX4_addFrames_26 ?_
  refine tn_istore_n (L' := [(3, .int (iI 0)), (0, .ref a), (2, .int (iI i21))]) dX4_addFrames_27 rfl (by decide) rfl ?_
  refine tn_sub [1, 2, 0] rfl (l_X4_addFrames_x_28 (d) (T := T) (σ0 := σ) (a := a) (c2 := i21) (h := h) (x := x) (n := n) (W := (W)) (xR := xR) (Hr := Hr) (xP := xP) (Hp := Hp) (xL := xL) (Hl := Hl) (xn := xn) (Hn := Hn) (xh := xh) (Hh := Hh) (g := g) (Fg := Fg) (yR := yR) (Gr := (Gr)) (yP := yP) (Gp := (Gp)) (yL := yL) (Gl := (Gl)) (yn := yn) (Gn := (Gn)) (yh := yh) (Gh := (Gh)) (base := base) (fb := fb) (j0 := j0) ha (by omega) hw f9 (by omega) (hh) (hx) (hn) hW (hxR) (hxP) (hxL) (hxn) (hxh) (hg) (hFg) (hyR) hGr (hyP) hGp (hyL) hGl (hyn) hGn (hyh) hGh (hbase) (hfb) hN hds haf hgn hgh hln hgp (fun i310 σ11 w14 F15 r16 f17 f18 f19 f20 f21 f22 f23 f24 f25 f26 f27 f28 => ?_) _ (0) σ hw FrC.rfl (by omega) CHX.rfl (by rw [hHr]; exact SPR.nil) (by rw [hHp]; exact SPR.nil) (by rw [hHl]; exact SPR.nil) (by rw [hHn]; exact SPR.nil) (by rw [hHh]; exact HMR.nil) (by omega) rfl)
  show Tn _ _ 240 T σ11 [(0, .ref a), (2, .int (iI i21)), (3, .int (iI i310))] [] _
  refine tn_aload_n dX4_addFrames_240 rfl 0 rfl ?_
  have hk31 : (T h).1 = 50 := ob_of ((wf_25 hw ha).resolve_left (by omega)) hh
  have hk31o : OB T h 1 := ⟨by omega, by rw [hk31]; rfl, by omega⟩
  refine tn_getR (ci := 4) (i := 2) (n := 25) (x := h) dX4_addFrames_241 rfl lay_4 (by decide) fl4_19 ha rfl rfl (rc_F F15 (Or.inl (by decide)) (by decide) (hh)) ?_
  refine tn_aload_n dX4_addFrames_244 rfl 0 rfl ?_
  refine tn_getI (ci := 4) (i := 6) (n := 29) (t := σ.2.1 29 a) dX4_addFrames_245 rfl lay_4 (by decide) fl4_69 ha rfl rfl (rc_F F15 (Or.inl (by decide)) (by decide) (rfl)) ?_
  have g33 : ((-2147483648 : Int) ≤ σ.2.1 29 a ∧ σ.2.1 29 a ≤ 2147483647) := wf_29 hw ha
  refine tn_aload_n dX4_addFrames_248 rfl 0 rfl ?_
  have hk36 : (T g).1 = 50 := ob_of ((wf_26 hw ha).resolve_left (by omega)) hg
  have hk36o : OB T g 1 := ⟨by omega, by rw [hk36]; rfl, by omega⟩
  refine tn_getR (ci := 4) (i := 3) (n := 26) (x := g) dX4_addFrames_249 rfl lay_4 (by decide) fl4_33 ha rfl rfl (rc_F F15 (Or.inl (by decide)) (by decide) (hg)) ?_
  refine tn_getI (ci := 1) (i := 5) (n := 10) (t := σ.2.1 10 g) dX4_addFrames_252 rfl lay_1 (by decide) fl4_66 hk36o rfl rfl (rc_F F15 (Or.inl (by decide)) (by decide) (rfl)) ?_
  have g38 : ((0 : Int) ≤ σ.2.1 10 g ∧ σ.2.1 10 g ≤ 12) := wf_10 hw hk36o
  refine tn_iadd dX4_addFrames_255 ?_
  refine tn_putV (ci := 1) (i := 5) (n := 10) (r := false) (v := (σ.2.1 29 a) + (σ.2.1 10 g)) tyX1 tyX1_ok nmX1 dX4_addFrames_256 rfl lay_1 (by decide) fl4_66 rfl (tyX1_ok 5 (by decide)) rfl rfl rfl hk31o rfl rfl ?_
  exact tn_vret rfl dX4_addFrames_259 ⟨rfl, rfl, (w14.put (by decide) (by decide) (fo_10 (by omega))), ((FrC.rfl.trans (FrC.sub F15 (by decide))).put (by decide) (by decide)), ((CHX.rfl.trans (CHX.sub f17 (by simp) (by simp) (by simp))).fld (by simp) (by decide)), ((show (sA 10 h ((σ.2.1 29 a) + (σ.2.1 10 g)) σ11).2.1 10 h = (σ.2.1 29 a) + (σ.2.1 10 g) from ra_eq).trans (by omega)), (by rw [rv_fld (by decide)]; exact f24), (by rw [rv_fld (by decide)]; exact f25), (by rw [rv_fld (by decide)]; exact f26), (by rw [rv_fld (by decide)]; exact f27), (by rw [rv_fld (by decide)]; exact f28)⟩
end
section
theorem qOK.mono {F F2 : Int} {i : It} (h : qOK F i) (hF : F ≤ F2) : qOK F2 i := ⟨h.1, fun q => by have := h.2.1 q; omega, fun q => by have := h.2.2.1 q; omega, fun q => by have := h.2.2.2.1 q; omega, h.2.2.2.2⟩
theorem ml_fin {F Fg k a n row : Int} {W W0 W2 : Int → It} {s : BB} (hW0 : W0 = opV (toV W k) k a) (hk : 0 ≤ k ∧ k < n) (hb : BLD (F + Fg) W0 W2 k a row s) (hs : s.1 = a) (hq : QOK F W n) (hF : 0 ≤ Fg) : vW W2 = spV (vW W) k a s.2 ∧ QOK (F + Fg) W2 (n + a - 1) ∧ ∀ j, k ≤ j → j < k + a → W2 j 0 ≠ 10 := by
  obtain ⟨h1, h2, h3, h4, h5⟩ := hb
  have lo : ∀ i, i < k → W2 i = W i := fun i c => by
    rw [h5 i (Or.inl c), hW0]
    unfold opV toV
    rw [if_pos c, if_pos c]
  have hi : ∀ i, k + a ≤ i → W2 i = W (i - a + 1) := fun i c => by
    rw [h5 i (Or.inr c), hW0]
    unfold opV toV
    rw [if_neg (by omega), if_neg (by omega), if_neg (by omega)]
  have mi : ∀ i, k ≤ i → i < k + a → nrm (W2 i) = s.2 (i - k) ∧ qOK (F + Fg) (W2 i) ∧ W2 i 0 ≠ 10 := fun i c d => by
    have z := h3 (i - k) (by omega) (by omega)
    rw [show k + (i - k) = i by omega] at z
    exact z
  refine ⟨?_, fun i c d => ?_, fun j c d => (mi j c d).2.2⟩
  · funext i
    show nrm (W2 i) = _
    unfold spV
    by_cases c : i < k
    · rw [if_pos c, lo i c]; rfl
    · rw [if_neg c]
      by_cases d : i < k + a
      · rw [if_pos d]; exact (mi i (by omega) d).1
      · rw [if_neg d, hi i (by omega)]; rfl
  · by_cases e : i < k
    · rw [lo i e]; exact (hq i c (by omega)).mono (by omega)
    · by_cases d2 : i < k + a
      · exact (mi i (by omega) d2).2.1
      · rw [hi i (by omega)]; exact (hq _ (by omega) (by omega)).mono (by omega)
theorem lb_le {W : Int → It} {n F lb : Int} (h : mxV (lbV (vW W) n) lb) (hq : QOK F W n) (hF : 1 ≤ F) : lb ≤ 122 * F - 1 := h.2.2 (122 * F - 1) (by omega) (fun k a b c => by
  rw [vW_0] at c
  rw [vW_1]
  have := (hq k a b).2.1 c
  omega)
def lvQ (V : Int → It) (n : Int) (Gh : Int → Int) (P g : Int) : Prop := LVV V n 0 g ∧ ¬ pmC Gh P g
section MLG
variable {Wg : Int → It} {ng P b Fg : Int} {Gh Gn : Int → Int} {La : Int → Int64}
theorem nn_lv (hL : LIVE (vW Wg) ng La) (h0 : 0 ≤ ng) (g : Int) : nnC La Gh P g ↔ lvQ (vW Wg) ng Gh P g := by
  unfold nnC lvQ
  rw [← hL 0 g]
  unfold bR
  exact ⟨fun z => ⟨⟨⟨Int.le_refl 0, h0⟩, z.1⟩, z.2⟩, fun z => ⟨z.1.2, z.2⟩⟩
theorem nn_cn (hL : LIVE (vW Wg) ng La) (h0 : 0 ≤ ng) : cN (nnC La Gh P) 0 192 = cN (lvQ (vW Wg) ng Gh P) 0 192 := cN_ext (fun i _ _ => nn_lv hL h0 i)
theorem nn_b (hL : LIVE (vW Wg) ng La) (h0 : 0 ≤ ng) (hb : rgV (vW Wg) ng (hmC Fg Gn Gh) b) {g : Int} (h : nnC La Gh P g) : 0 ≤ g ∧ g < b := by
  obtain ⟨i, a, c, d⟩ := ((nn_lv hL h0 g).mp h).1.rx
  exact ⟨h.1.1.1, hb.2 i a c g (Or.inr d)⟩
theorem rg_b (hq : QOK Fg Wg ng) (hb : rgV (vW Wg) ng (hmC Fg Gn Gh) b) {j g : Int} (h0 : 0 ≤ j) (h1 : j < ng) (h : wrT (Wg j) g ∨ rdI (nrm (Wg j)) g) : 0 ≤ g ∧ g < b := by
  refine ⟨?_, hb.2 j h0 h1 g (h.imp wrT_v.mpr id)⟩
  have w := (hq j h0 h1).1
  rcases h with z | z
  · have := w.2.1 z.1; have := z.2; omega
  · by_cases c : Wg j 0 = 12
    · have l := (lnW_iff (n := ng) w ⟨h0, h1⟩).mpr ⟨c, z⟩
      rcases l.2.2 with ⟨x1, x2⟩ | ⟨x1, x2⟩
      · have := (w.2.2.2.2 c (Or.inr x1)).2.2.2 x1; omega
      · rcases x2 with x2 | x2
        · have y := w.op (c := 3) (by omega) x2.1
          rw [show (3 : Int) + 1 = 4 by decide] at y; omega
        · have y := w.op (c := 5) (by omega) x2.1
          rw [show (5 : Int) + 1 = 6 by decide] at y; omega
    · rw [show nrm (Wg j) = vW Wg j from rfl, rdI_v c] at z
      obtain ⟨i, j0, j1, j2, j3⟩ := z
      have := (w.2.2.1 i j0 j1).2 j2
      omega
theorem c7_v {k : Nat} : cN (fun j => Wg j 0 = 7) 0 k = cN (fun j => vW Wg j 0 = 7) 0 k := cN_ext (fun i _ _ => by show Wg i 0 = 7 ↔ vW Wg i 0 = 7; rw [vW_0])
end MLG
theorem hit_of {W : Int → It} {k m : Int} (h : iOK (W k)) (h10 : W k 0 = 10) (m0 : 0 ≤ m) (m4 : m < 4) : (0 ≤ vW W k (3 + 2 * m) ∧ vW W k (3 + 2 * m) ≤ 2) ∧ (vW W k (3 + 2 * m) = 2 → 0 ≤ vW W k (4 + 2 * m) ∧ vW W k (4 + 2 * m) < 192) := by
  have e : ∀ c, c ≠ 12 → vW W k c = W k c := fun c q => by
    by_cases z : c = 3
    · rw [z]; exact vW_3 (by omega)
    · exact vW_ne z q
  rw [e _ (by omega), e _ (by omega)]
  exact h.2.2.1 m m0 m4
theorem vW_10 {W : Int → It} {k c : Int} (h10 : W k 0 = 10) (q : c ≠ 12) : vW W k c = W k c := by
  by_cases z : c = 3
  · rw [z]; exact vW_3 (by omega)
  · exact vW_ne z q
def MCD (V Vg : Int → It) (n ng Ng P Fh Fg : Int) (Hn Hh Gn Gh : Int → Int) : Prop := n + 2 + P + Ng + ng + cN (lvQ Vg ng Gh P) 0 192 + cN (fun j => Vg j 0 = 7) 0 ng.toNat ≤ 200 ∧ (∃ a b, mxV (rgV V n (hmC Fh Hn Hh)) a ∧ mxV (rgV Vg ng (hmC Fg Gn Gh)) b ∧ a + b ≤ 100) ∧ Fh + Fg ≤ 12
noncomputable def mkC (V Vg : Int → It) (k Fh base lb lq P Ng ng : Int) (Gh : Int → Int) : BB := mkB Fh base lb (lb + lq) (V k 1) P Ng ng Gh (V k) (lvQ Vg ng Gh P) Vg
theorem mc_eq {W Wg : Int → It} {k Fh fb base lb lq ll rs P Ng ng : Int} {Gh : Int → Int} {La : Int → Int64} (hL : LIVE (vW Wg) ng La) (h0 : 0 ≤ ng) (e1 : fb = Fh) (e2 : ll = lb + lq) (e3 : rs = vW W k 1) : bA (bA (mb3 fb base lb rs ll (vW Wg) (mb2 base (nnC La Gh P) (mb1 fb base P Gh (vW W k) (bA (0, fun _ => zI) (mkI 14 fb 0 0 0 0)) Ng.toNat) (192 : Int).toNat) ng.toNat) (mkI 13 ll 0 0 0 0)) (mkI 15 fb 0 0 0 0) = mkC (vW W) (vW Wg) k Fh base lb lq P Ng ng Gh := by
  subst e1 e2 e3
  exact mkB_c (fun _ _ _ => rfl) (fun g _ _ => nn_lv hL h0 g)
theorem mc_n {V Vg : Int → It} {k Fh base lb lq P Ng ng : Int} {Gh : Int → Int} (hP : 0 ≤ P) (hPN : P ≤ Ng) (hn : 0 ≤ ng) : (mkC V Vg k Fh base lb lq P Ng ng Gh).1 = 3 + ng + Ng + P + cN (fun j => Vg j 0 = 7) 0 ng.toNat + cN (lvQ Vg ng Gh P) 0 192 := mkB_n hP hPN hn
theorem op_z {W : Int → It} {k m j : Int} (h : 0 ≤ j) (h1 : j < m) : opV W k m (k + j) = zI := by
  unfold opV
  rw [if_neg (by omega), if_pos (by omega)]
end
