section
set_option maxHeartbeats 1000000 in
set_option maxRecDepth 20000 in
theorem k_X11_tear_x (d : Nat) {T : CT} {σ : MS} {a : Nat} {k : Int} {r : Int} {c : Nat} {S : Nat → Prop} {C : Int → Nat} {NM PM : Int → Int} (ha : OB T a 11) (h_k : -2147483648 ≤ k ∧ k ≤ 2147483647) (h_r : -2147483648 ≤ r ∧ r ≤ 2147483647) (h_c : OB T c 1) (t_c : (T c).1 = 50) (hw : WT T σ) (hK : KOK S T σ a C NM PM) (hk5 : 0 ≤ k ∧ k ≤ 5) (hr : 0 ≤ r ∧ r < σ.2.1 97 a) (hcr : c = C r) : Tn (d + 8) m_X11_tear 0 T σ [(0, .ref a), (1, .int (iI k)), (2, .int (iI r)), (3, .ref c)] [] (fun ro T2 σ2 => ∃ v : Int, ro = some (.int (iI v)) ∧ WT T2 σ2 ∧ FrC T [5, 6, 10, 22, 25, 26, 27, 28, 29, 30, 31, 32, 80] σ σ2 ∧ (-2147483648 ≤ v ∧ v ≤ 2147483647) ∧ (PSO T σ σ2 c k r (fun q => cdS σ (C q)) PM NM v) ∧ (PFR S T σ σ2 c) ∧ (TBR S T σ σ2)) := by
  have tc9 := t_c
  obtain ⟨hI9, hS9, hCo9, hG9⟩ := hK
  have hR9 := hCo9.1
  have g9 := hG9 r hr.1 hr.2
  have sc9 := (hCo9.2.1 r hr.1 (by omega)).2.1
  rw [← hcr] at g9 sc9
  refine tn_iload_n dX11_tear_0 rfl 1 rfl ?_
  by_cases h1 : k < 0 ∨ 4 < k
  · refine tn_tableOut (tgt := 90) dX11_tear_1 (x := k) ⟨by omega, by omega⟩ h1 (by decide) ?_
    refine tn_aload_n dX11_tear_90 rfl 0 rfl ?_
    obtain ⟨x2, hx3, hk4⟩ : ∃ x : Nat, σ.2.1 109 a = (x : Int) ∧ (T x).1 = 38 := wf_109 hw ha
    have hk4o : OB T x2 8 := ⟨by omega, by rw [hk4]; rfl, by omega⟩
    refine tn_getR (ci := 11) (i := 14) (n := 109) (x := x2) dX11_tear_91 rfl lay_11 (by decide) fl11_73 ha rfl rfl (hx3) ?_
    refine tn_aload_n dX11_tear_94 rfl 3 rfl ?_
    refine tn_callV (M := m_X11_tear) (pc := 95) (ix := 310) (ci := 8) (M' := m_X8_share) (As := [.ref c]) (rest := []) dX11_tear_95 ok_X8_share im_X8_share se_X8_share ml11_310 np_X8_share rfl rfl hk4o rfl (Nat.le_of_ble_eq_true rfl) (Nat.le_of_ble_eq_true rfl) rfl (k_share_c (d + 2) (T := T) (σ := σ) (a := x2) (c := c) (S := S) (Gs := fun q => cdS σ (C q)) (PM := PM) (NM := NM) (r := r) hk4o h_c t_c hw (by rw [← adN_of hx3]; exact hS9.2.2.2.1) sc9 hI9 g9.1.1.1.2 g9.1.1.2.2.1.w (by rw [← adN_of hx3]; exact hS9.2.2.2.2.2.2.1) g9.1.1.1.1 g9.1.2.2.1 g9.1.2.2.2.1 g9.1.2.2.2.2.1 g9.1.1.2.2.2.1 g9.2.1 ⟨by rw [g9.1.2.2.2.2.2.2]; exact g9.1.2.2.2.2.2.1.1.2.2, g9.1.1.2.1.1⟩ (fun f x y => (g9.1.1.2.2.2.2.1 f x y).1.2) (fun f x y => (g9.1.1.2.2.2.2.1 f x y).2) g9.2.2.1) (fun r6 T8 σ7 gt9 hp => ?_)
    obtain ⟨v13, rfl, rfl, w14, F15, f10, f11, f12⟩ := hp
    clear gt9
    show Tn _ _ 98 T σ7 [(0, .ref a), (1, .int (iI k)), (2, .int (iI r)), (3, .ref c)] [.int (iI v13)] _
    exact tn_iret rfl dX11_tear_98 ⟨_, rfl, w14, (FrC.rfl.trans (FrC.sub F15 (by decide))), by omega, (by rw [show k = 5 by omega]; exact f12), (pfr_share hI9 hw hk4o t_c (by rw [← adN_of hx3]; exact hS9.2.2.2.1) sc9 (by rw [← adN_of hx3]; exact hS9.2.2.2.2.2.2.1) f11), (tbr_share hI9 hw hk4o t_c (by rw [← adN_of hx3]; exact hS9.2.2.2.1) sc9 (by rw [← adN_of hx3]; exact hS9.2.2.2.2.2.2.1) f11)⟩
  · have h16 : k = 0 ∨ k = 1 ∨ k = 2 ∨ k = 3 ∨ k = 4 := by omega
    rcases h16 with h16 | h16 | h16 | h16 | h16
    · refine tn_tableIn (tgt := 36) (off := 35) dX11_tear_1 (x := k) ⟨by omega, by omega⟩ (by omega) (by omega) (by rw [h16]; rfl) (by decide) ?_
      refine tn_aload_n dX11_tear_36 rfl 0 rfl ?_
      obtain ⟨x17, hx18, hk19⟩ : ∃ x : Nat, σ.2.1 106 a = (x : Int) ∧ (T x).1 = 36 := wf_106 hw ha
      have hk19o : OB T x17 6 := ⟨by omega, by rw [hk19]; rfl, by omega⟩
      refine tn_getR (ci := 11) (i := 11) (n := 106) (x := x17) dX11_tear_37 rfl lay_11 (by decide) fl11_50 ha rfl rfl (hx18) ?_
      refine tn_aload_n dX11_tear_40 rfl 3 rfl ?_
      refine tn_callV (M := m_X11_tear) (pc := 41) (ix := 293) (ci := 6) (M' := m_X6_fold) (As := [.ref c]) (rest := []) dX11_tear_41 ok_X6_fold im_X6_fold se_X6_fold ml11_293 np_X6_fold rfl rfl hk19o rfl (Nat.le_of_ble_eq_true rfl) (Nat.le_of_ble_eq_true rfl) rfl (k_fold_c (d + 3) (T := T) (σ := σ) (a := x17) (c := c) (S := S) (Gs := fun q => cdS σ (C q)) (PM := PM) (NM := NM) (r := r) hk19o h_c t_c hw (by rw [← adN_of hx18]; exact hS9.1) sc9 hI9 g9.1.1.1.2 g9.1.1.2.2.1.w) (fun r21 T23 σ22 gt24 hp => ?_)
      obtain ⟨v28, rfl, rfl, w29, F30, f25, f26, f27⟩ := hp
      clear gt24
      show Tn _ _ 44 T σ22 [(0, .ref a), (1, .int (iI k)), (2, .int (iI r)), (3, .ref c)] [.int (iI v28)] _
      exact tn_iret rfl dX11_tear_44 ⟨_, rfl, w29, (FrC.rfl.trans (FrC.sub F30 (by decide))), by omega, (by rw [show k = 0 by omega]; exact f27), (pfr_fold hI9 hw hk19o t_c (by rw [← adN_of hx18]; exact hS9.1) sc9 f26), (tbr_fold hI9 hw hk19o t_c (by rw [← adN_of hx18]; exact hS9.1) sc9 f26)⟩
    · refine tn_tableIn (tgt := 45) (off := 44) dX11_tear_1 (x := k) ⟨by omega, by omega⟩ (by omega) (by omega) (by rw [h16]; rfl) (by decide) ?_
      refine tn_aload_n dX11_tear_45 rfl 0 rfl ?_
      obtain ⟨x31, hx32, hk33⟩ : ∃ x : Nat, σ.2.1 107 a = (x : Int) ∧ (T x).1 = 32 := wf_107 hw ha
      have hk33o : OB T x31 2 := ⟨by omega, by rw [hk33]; rfl, by omega⟩
      refine tn_getR (ci := 11) (i := 12) (n := 107) (x := x31) dX11_tear_46 rfl lay_11 (by decide) fl11_59 ha rfl rfl (hx32) ?_
      refine tn_aload_n dX11_tear_49 rfl 3 rfl ?_
      refine tn_callV (M := m_X11_tear) (pc := 50) (ix := 297) (ci := 2) (M' := m_X2_drop) (As := [.ref c]) (rest := []) dX11_tear_50 ok_X2_drop im_X2_drop se_X2_drop ml11_297 np_X2_drop rfl rfl hk33o rfl (Nat.le_of_ble_eq_true rfl) (Nat.le_of_ble_eq_true rfl) rfl (k_drop_c (d + 1) (T := T) (σ := σ) (a := x31) (c := c) (S := S) (Gs := fun q => cdS σ (C q)) (PM := PM) (NM := NM) (r := r) hk33o h_c t_c hw (by rw [← adN_of hx32]; exact hS9.2.1) sc9 hI9 g9.1.1.1.2 g9.1.1.2.2.1.w (by rw [← adN_of hx32]; exact hS9.2.2.2.2.1) g9.1.2.2.1 g9.1.2.2.2.1 g9.1.2.2.2.2.1) (fun r35 T37 σ36 gt38 hp => ?_)
      obtain ⟨v42, rfl, rfl, w43, F44, f39, f40, f41⟩ := hp
      clear gt38
      show Tn _ _ 53 T σ36 [(0, .ref a), (1, .int (iI k)), (2, .int (iI r)), (3, .ref c)] [.int (iI v42)] _
      exact tn_iret rfl dX11_tear_53 ⟨_, rfl, w43, (FrC.rfl.trans (FrC.sub F44 (by decide))), by omega, (by rw [show k = 1 by omega]; exact f41), (pfr_drop hI9 hw hk33o t_c (by rw [← adN_of hx32]; exact hS9.2.1) sc9 (by rw [← adN_of hx32]; exact hS9.2.2.2.2.1) f40), (tbr_drop hI9 hw hk33o t_c (by rw [← adN_of hx32]; exact hS9.2.1) sc9 (by rw [← adN_of hx32]; exact hS9.2.2.2.2.1) f40)⟩
    · refine tn_tableIn (tgt := 54) (off := 53) dX11_tear_1 (x := k) ⟨by omega, by omega⟩ (by omega) (by omega) (by rw [h16]; rfl) (by decide) ?_
      refine tn_aload_n dX11_tear_54 rfl 0 rfl ?_
      obtain ⟨x45, hx46, hk47⟩ : ∃ x : Nat, σ.2.1 106 a = (x : Int) ∧ (T x).1 = 36 := wf_106 hw ha
      have hk47o : OB T x45 6 := ⟨by omega, by rw [hk47]; rfl, by omega⟩
      refine tn_getR (ci := 11) (i := 11) (n := 106) (x := x45) dX11_tear_55 rfl lay_11 (by decide) fl11_50 ha rfl rfl (hx46) ?_
      refine tn_aload_n dX11_tear_58 rfl 3 rfl ?_
      refine tn_callV (M := m_X11_tear) (pc := 59) (ix := 300) (ci := 6) (M' := m_X6_move) (As := [.ref c]) (rest := []) dX11_tear_59 ok_X6_move im_X6_move se_X6_move ml11_300 np_X6_move rfl rfl hk47o rfl (Nat.le_of_ble_eq_true rfl) (Nat.le_of_ble_eq_true rfl) rfl (k_move_c (d) (T := T) (σ := σ) (a := x45) (c := c) (S := S) (Gs := fun q => cdS σ (C q)) (PM := PM) (NM := NM) (r := r) hk47o h_c t_c hw (by rw [← adN_of hx46]; exact hS9.1) sc9 hI9 g9.1.1.1.2 g9.1.1.2.2.1.w g9.1.1.1.1 (fun f x y => (g9.1.1.2.2.2.2.1 f x y).2)) (fun r49 T51 σ50 gt52 hp => ?_)
      obtain ⟨v56, rfl, rfl, w57, F58, f53, f54, f55⟩ := hp
      clear gt52
      show Tn _ _ 62 T σ50 [(0, .ref a), (1, .int (iI k)), (2, .int (iI r)), (3, .ref c)] [.int (iI v56)] _
      exact tn_iret rfl dX11_tear_62 ⟨_, rfl, w57, (FrC.rfl.trans (FrC.sub F58 (by decide))), by omega, (by rw [show k = 2 by omega]; exact f55), (pfr_move hI9 hw hk47o t_c (by rw [← adN_of hx46]; exact hS9.1) sc9 f54), (tbr_move hI9 hw hk47o t_c (by rw [← adN_of hx46]; exact hS9.1) sc9 f54)⟩
    · refine tn_tableIn (tgt := 63) (off := 62) dX11_tear_1 (x := k) ⟨by omega, by omega⟩ (by omega) (by omega) (by rw [h16]; rfl) (by decide) ?_
      refine tn_aload_n dX11_tear_63 rfl 0 rfl ?_
      obtain ⟨x59, hx60, hk61⟩ : ∃ x : Nat, σ.2.1 106 a = (x : Int) ∧ (T x).1 = 36 := wf_106 hw ha
      have hk61o : OB T x59 6 := ⟨by omega, by rw [hk61]; rfl, by omega⟩
      refine tn_getR (ci := 11) (i := 11) (n := 106) (x := x59) dX11_tear_64 rfl lay_11 (by decide) fl11_50 ha rfl rfl (hx60) ?_
      refine tn_aload_n dX11_tear_67 rfl 3 rfl ?_
      refine tn_callV (M := m_X11_tear) (pc := 68) (ix := 303) (ci := 6) (M' := m_X6_alike) (As := [.ref c]) (rest := []) dX11_tear_68 ok_X6_alike im_X6_alike se_X6_alike ml11_303 np_X6_alike rfl rfl hk61o rfl (Nat.le_of_ble_eq_true rfl) (Nat.le_of_ble_eq_true rfl) rfl (k_alike_c (d + 2) (T := T) (σ := σ) (a := x59) (c := c) (S := S) (Gs := fun q => cdS σ (C q)) (PM := PM) (NM := NM) (r := r) hk61o h_c t_c hw (by rw [← adN_of hx60]; exact hS9.1) sc9 hI9 g9.1.1.1.2 g9.1.1.2.2.1.w g9.1.1.1.1) (fun r63 T65 σ64 gt66 hp => ?_)
      obtain ⟨v70, rfl, rfl, w71, F72, f67, f68, f69⟩ := hp
      clear gt66
      show Tn _ _ 71 T σ64 [(0, .ref a), (1, .int (iI k)), (2, .int (iI r)), (3, .ref c)] [.int (iI v70)] _
      exact tn_iret rfl dX11_tear_71 ⟨_, rfl, w71, (FrC.rfl.trans (FrC.sub F72 (by decide))), by omega, (by rw [show k = 3 by omega]; exact f69), (pfr_alike hI9 hw hk61o t_c (by rw [← adN_of hx60]; exact hS9.1) sc9 f68), (tbr_alike hI9 hw hk61o t_c (by rw [← adN_of hx60]; exact hS9.1) sc9 f68)⟩
    · refine tn_tableIn (tgt := 72) (off := 71) dX11_tear_1 (x := k) ⟨by omega, by omega⟩ (by omega) (by omega) (by rw [h16]; rfl) (by decide) ?_
      refine tn_aload_n dX11_tear_72 rfl 0 rfl ?_
      obtain ⟨x73, hx74, hk75⟩ : ∃ x : Nat, σ.2.1 108 a = (x : Int) ∧ (T x).1 = 34 := wf_108 hw ha
      have hk75o : OB T x73 4 := ⟨by omega, by rw [hk75]; rfl, by omega⟩
      refine tn_getR (ci := 11) (i := 13) (n := 108) (x := x73) dX11_tear_73 rfl lay_11 (by decide) fl11_66 ha rfl rfl (hx74) ?_
      refine tn_aload_n dX11_tear_76 rfl 0 rfl ?_
      obtain ⟨x77, hx78, hk79, hl80⟩ : ∃ x : Nat, σ.2.1 99 a = (x : Int) ∧ AR T x 5 6 6 := wf_99 hw ha
      have hk79i : (T x77).1 = 4 ∨ (T x77).1 = 5 := by omega
      refine tn_getR (ci := 11) (i := 4) (n := 99) (x := x77) dX11_tear_77 rfl lay_11 (by decide) fl11_19 ha rfl rfl (hx78) ?_
      refine tn_aload_n dX11_tear_80 rfl 0 rfl ?_
      refine tn_getI (ci := 11) (i := 2) (n := 97) (t := σ.2.1 97 a) dX11_tear_81 rfl lay_11 (by decide) fl11_116 ha rfl rfl (rfl) ?_
      have g81 : ((0 : Int) ≤ σ.2.1 97 a ∧ σ.2.1 97 a ≤ 6) := wf_97 hw ha
      refine tn_iload_n dX11_tear_84 rfl 2 rfl ?_
      refine tn_aload_n dX11_tear_85 rfl 3 rfl ?_
      refine tn_callV (M := m_X11_tear) (pc := 86) (ix := 306) (ci := 4) (M' := m_X4_melt) (As := [.ref x77, .int (iI (σ.2.1 97 a)), .int (iI r), .ref c]) (rest := []) dX11_tear_86 ok_X4_melt im_X4_melt se_X4_melt ml11_306 np_X4_melt rfl rfl hk75o rfl (Nat.le_of_ble_eq_true rfl) (Nat.le_of_ble_eq_true rfl) rfl (k_X4_melt_x (d + 1) (T := T) (σ := σ) (a := x73) (cs := x77) (n := σ.2.1 97 a) (r := r) (c := c) (C := C) (NM := NM) (PM := PM) hk75o hk79i (by omega) hk79 (by omega) (by omega) h_c t_c hw (mlg_of hI9 hk75o (by rw [← adN_of hx74]; exact hS9.2.2.1) (by rw [← adN_of hx74]; exact hS9.2.2.2.2.2.1) hw ⟨by omega, by omega, by omega⟩ hcr.symm (fun q x y => (hCo9.2.1 q x (by omega)).2) (fun p q x y z w => hCo9.2.2 p q x (by omega) z (by omega)) (fun q x y => (hG9 q x y).1) (fun q x y => (hG9 q x y).2.2)) g9.1.1 (fun q x y => by rw [← adN_of hx78]; exact (hCo9.2.1 q x (by omega)).1) (by omega)) (fun r82 T84 σ83 gt85 hp => ?_)
      obtain ⟨v88, rfl, w89, F90, f86, f87⟩ := hp
      replace ha : OB T84 a 11 := gt85.ob ha
      replace t_c : (T84 c).1 = 50 := gt85.kk t_c (by decide) (by decide)
      replace h_c : OB T84 c 1 := gt85.ob h_c
      show Tn _ _ 89 T84 σ83 [(0, .ref a), (1, .int (iI k)), (2, .int (iI r)), (3, .ref c)] [.int (iI v88)] _
      exact tn_iret rfl dX11_tear_89 ⟨_, rfl, w89, (FrC.rfl.trans (FrC.sub F90 (by decide))), by omega, (by rw [show k = 4 by omega]; exact mle_pso f87), (mle_pfr hI9 hw hk75o (by rw [← adN_of hx74]; exact hS9.2.2.1) sc9 tc9 f87), (tbr_melt hI9 hw hk75o (by rw [← adN_of hx74]; exact hS9.2.2.1) sc9 tc9 f87)⟩
end
