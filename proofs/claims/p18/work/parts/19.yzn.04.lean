section
set_option maxHeartbeats 1000000 in
set_option maxRecDepth 20000 in
theorem k_X11_pass_x (d : Nat) {T : CT} {σ : MS} {a : Nat} {k : Int} {r : Int} {S : Nat → Prop} {C : Int → Nat} {NM PM : Int → Int} (ha : OB T a 11) (h_k : -2147483648 ≤ k ∧ k ≤ 2147483647) (h_r : -2147483648 ≤ r ∧ r ≤ 2147483647) (hw : WT T σ) (hK : KOK S T σ a C NM PM) : Tn (d + 9) m_X11_pass 0 T σ [(0, .ref a), (1, .int (iI k)), (2, .int (iI r))] [] (fun ro T2 σ2 => ∃ v : Int, ro = some (.int (iI v)) ∧ WT T2 σ2 ∧ FrC T [5, 6, 10, 22, 25, 26, 27, 28, 29, 30, 31, 32, 56, 80] σ σ2 ∧ (-2147483648 ≤ v ∧ v ≤ 2147483647) ∧ (PAC S T σ T2 σ2 a C NM PM k r v) ∧ (RP7 σ σ2 a k r)) := by
  refine tn_aload_n dX11_pass_0 rfl 0 rfl ?_
  refine tn_iload_n dX11_pass_1 rfl 2 rfl ?_
  refine tn_callV (M := m_X11_pass) (pc := 2) (ix := 123) (ci := 11) (M' := m_X11_codeOf) (As := [.int (iI r)]) (rest := []) dX11_pass_2 ok_X11_codeOf im_X11_codeOf se_X11_codeOf ml11_123 np_X11_codeOf rfl rfl ha rfl (Nat.le_of_ble_eq_true rfl) (Nat.le_of_ble_eq_true rfl) rfl (k_X11_codeOf_x (d + 7) (T := T) (σ := σ) (a := a) (r := r) ha (by omega) hw ) (fun r1 T3 σ2 gt4 hp => ?_)
  obtain ⟨v6, rfl, rfl, rfl, rv7, f5⟩ := hp
  clear gt4
  rcases rv7 with rv7 | ⟨x8, rfl, hk9⟩
  · show Tn _ _ 5 T σ [(0, .ref a), (1, .int (iI k)), (2, .int (iI r))] (vl true v6 :: []) _
    rw [vl_null rv7]
    refine tn_astore_nN (L' := [(3, .null), (0, .ref a), (1, .int (iI k)), (2, .int (iI r))]) dX11_pass_5 rfl (by decide) rfl ?_
    refine tn_aload_nN dX11_pass_6 rfl 0 rfl ?_
    refine tn_ifnullN (tgt := 19) dX11_pass_7 (by decide) ?_
    refine tn_iconst dX11_pass_19 ?_
    exact tn_iret rfl dX11_pass_20 ⟨_, rfl, hw, FrC.rfl, by omega, (Or.inl ⟨by intro hh; have q := (hK.2.2.1.2.1 r hh.2.1 (by have := hK.2.2.1.1; omega)).1; have z := f5; unfold CDF at z; omega, rfl, rfl, rfl⟩), (Or.inl ⟨by intro hh; have q := (hK.2.2.1.2.1 r hh.2.1 (by have := hK.2.2.1.1; omega)).1; have z := f5; unfold CDF at z; omega, rfl⟩)⟩
  · show Tn _ _ 5 T σ [(0, .ref a), (1, .int (iI k)), (2, .int (iI r))] (vl true (x8 : Int) :: []) _
    rw [vl_ref rfl]
    have hk9o : OB T x8 1 := ⟨by omega, by rw [hk9]; rfl, by omega⟩
    refine tn_astore_n (L' := [(3, .ref x8), (0, .ref a), (1, .int (iI k)), (2, .int (iI r))]) dX11_pass_5 rfl (by decide) rfl ?_
    refine tn_aload_n dX11_pass_6 rfl 0 rfl ?_
    refine tn_ifnull dX11_pass_7 ?_
    refine tn_iload_n dX11_pass_10 rfl 2 rfl ?_
    refine tn_if_lt (tgt := 19) dX11_pass_11 (by decide) ⟨by omega, by omega⟩ (fun h10 => ?_) (fun h10 => ?_)
    · refine tn_iconst dX11_pass_19 ?_
      exact tn_iret rfl dX11_pass_20 ⟨_, rfl, hw, FrC.rfl, by omega, (Or.inl ⟨by intro hh; have q := (hK.2.2.1.2.1 r hh.2.1 (by have := hK.2.2.1.1; omega)).1; have z := f5; unfold CDF at z; omega, rfl, rfl, rfl⟩), (Or.inl ⟨by intro hh; have q := (hK.2.2.1.2.1 r hh.2.1 (by have := hK.2.2.1.1; omega)).1; have z := f5; unfold CDF at z; omega, rfl⟩)⟩
    · refine tn_iload_n dX11_pass_14 rfl 2 rfl ?_
      refine tn_iconst dX11_pass_15 ?_
      refine tn_icmp_le (tgt := 21) dX11_pass_16 (by decide) ⟨by omega, by omega⟩ ⟨by decide, by decide⟩ (fun h11 => ?_) (fun h11 => ?_)
      · have et9 := ad_ex (Q := fun x => (T x).1 = 40) (wf_102 hw ha)
        have ot9 : OB T (adN σ 102 a) 10 := ⟨by have := et9.2; omega, by rw [et9.2]; rfl, by have := et9.2; omega⟩
        have kt9 : (T (adN σ 89 (adN σ 102 a))).1 = 1 := (ar_of (wf_89 hw ot9) ((ad_ex (Q := fun x => AR T x 1 6 6) (wf_89 hw ot9)).1)).1
        have e9 : σ.2.1 102 a = (adN σ 102 a : Int) := (ad_ex (Q := fun x => (T x).1 = 40) (wf_102 hw ha)).1
        have cd9 := f5
        unfold CDF at cd9
        have hR9 := hK.2.2.1.1
        have rr9 : 0 ≤ r ∧ r < σ.2.1 97 a := by omega
        have hcr9 : x8 = C r := by have z := (hK.2.2.1.2.1 r rr9.1 (by omega)).1; omega
        refine tn_aload_n dX11_pass_21 rfl 1 rfl ?_
        refine tn_iload_n dX11_pass_22 rfl 2 rfl ?_
        refine tn_iload_n dX11_pass_23 rfl 3 rfl ?_
        refine tn_aload_n dX11_pass_24 rfl 0 rfl ?_
        refine tn_callV (M := m_X11_pass) (pc := 25) (ix := 194) (ci := 11) (M' := m_X11_tear) (As := [.int (iI k), .int (iI r), .ref x8]) (rest := []) dX11_pass_25 ok_X11_tear im_X11_tear se_X11_tear ml11_194 np_X11_tear rfl rfl ha rfl (Nat.le_of_ble_eq_true rfl) (Nat.le_of_ble_eq_true rfl) rfl (k_X11_tear_x (d) (T := T) (σ := σ) (a := a) (k := k) (r := r) (c := x8) (S := S) (C := C) (NM := NM) (PM := PM) ha (by omega) (by omega) hk9o hk9 hw hK (by omega) (by omega) hcr9) (fun r12 T14 σ13 gt15 hp => ?_)
        obtain ⟨v20, rfl, w21, F22, f16, f17, f18, f19⟩ := hp
        replace ha : OB T14 a 11 := gt15.ob ha
        replace hk9o : OB T14 x8 1 := gt15.ob hk9o
        replace hk9 : (T14 x8).1 = 50 := gt15.kk hk9 (by decide) (by decide)
        show Tn _ _ 28 T14 σ13 [(3, .ref x8), (0, .ref a), (1, .int (iI k)), (2, .int (iI r))] [.int (iI v20)] _
        refine tn_istore (L' := [(4, .int (iI v20)), (3, .ref x8), (0, .ref a), (1, .int (iI k)), (2, .int (iI r))]) dX11_pass_28 (by decide) rfl ?_
        refine tn_aload_n dX11_pass_30 rfl 1 rfl ?_
        obtain ⟨x23, hx24, hl26, hk25a, hk25b⟩ := wf_5 w21 hk9o
        have hk25 : (T14 x23).1 = 1 := hk25a (by omega)
        clear hk25a hk25b
        have hk25i : IA T14 x23 := by unfold IA; omega
        refine tn_callV (M := m_X11_pass) (pc := 31) (ix := 198) (ci := 1) (M' := m_X1_link) (As := []) (rest := []) dX11_pass_31 ok_X1_link im_X1_link se_X1_link ml11_198 np_X1_link rfl rfl hk9o rfl (Nat.le_of_ble_eq_true rfl) (Nat.le_of_ble_eq_true rfl) rfl (k_X1_link_x (d + 5) (T := T14) (σ := σ13) (a := x8) (x := x23) (n := σ13.2.1 6 x8) (W := cW σ13 x23 (σ13.2.1 6 x8)) hk9o w21 (hx24) (rfl) rfl (by have z := f17.2.2.1; omega)) (fun r27 T29 σ28 gt30 hp => ?_)
        obtain ⟨rfl, rfl, w35, F36, f31, f32, f33⟩ := hp
        clear gt30
        show Tn _ _ 34 T14 σ28 [(4, .int (iI v20)), (3, .ref x8), (0, .ref a), (1, .int (iI k)), (2, .int (iI r))] [] _
        refine tn_aload_n dX11_pass_34 rfl 2 rfl ?_
        obtain ⟨x37, hx38, hk39⟩ : ∃ x : Nat, σ13.2.1 102 a = (x : Int) ∧ (T14 x).1 = 40 := wf_102 w21 ha
        have hk39o : OB T14 x37 10 := ⟨by omega, by rw [hk39]; rfl, by omega⟩
        refine tn_getR (ci := 11) (i := 7) (n := 102) (x := x37) dX11_pass_35 rfl lay_11 (by decide) fl11_39 ha rfl rfl (rc_F F36 (Or.inl (by decide)) (by decide) (hx38)) ?_
        refine tn_iload_n dX11_pass_38 rfl 4 rfl ?_
        obtain ⟨x41, hx42, hk43, hl44⟩ : ∃ x : Nat, σ13.2.1 89 x37 = (x : Int) ∧ AR T14 x 1 6 6 := wf_89 w21 hk39o
        have hk43i : IA T14 x41 := by unfold IA; omega
        refine tn_callV (M := m_X11_pass) (pc := 39) (ix := 201) (ci := 10) (M' := m_X10_spoil) (As := [.int (iI r)]) (rest := []) dX11_pass_39 ok_X10_spoil im_X10_spoil se_X10_spoil ml11_201 np_X10_spoil rfl rfl hk39o rfl (Nat.le_of_ble_eq_true rfl) (Nat.le_of_ble_eq_true rfl) rfl (k_X10_spoil_x (d + 6) (T := T14) (σ := σ28) (a := x37) (r := r) (xf := x41) hk39o (by omega) w35 (rc_F F36 (Or.inl (by decide)) (by decide) (hx42)) (by omega)) (fun r45 T47 σ46 gt48 hp => ?_)
        obtain ⟨rfl, rfl, w52, F53, f49, f50⟩ := hp
        clear gt48
        show Tn _ _ 42 T14 σ46 [(4, .int (iI v20)), (3, .ref x8), (0, .ref a), (1, .int (iI k)), (2, .int (iI r))] [] _
        refine tn_aload_n dX11_pass_42 rfl 2 rfl ?_
        obtain ⟨x54, hx55, hk56⟩ : ∃ x : Nat, σ13.2.1 103 a = (x : Int) ∧ (T14 x).1 = 37 := wf_103 w21 ha
        have hk56o : OB T14 x54 7 := ⟨by omega, by rw [hk56]; rfl, by omega⟩
        refine tn_getR (ci := 11) (i := 8) (n := 103) (x := x54) dX11_pass_43 rfl lay_11 (by decide) fl11_83 ha rfl rfl (rc_F F53 (Or.inl (by decide)) (by decide) (rc_F F36 (Or.inl (by decide)) (by decide) (hx55))) ?_
        refine tn_callV (M := m_X11_pass) (pc := 46) (ix := 120) (ci := 7) (M' := m_X7_forget) (As := []) (rest := []) dX11_pass_46 ok_X7_forget im_X7_forget se_X7_forget ml11_120 np_X7_forget rfl rfl hk56o rfl (Nat.le_of_ble_eq_true rfl) (Nat.le_of_ble_eq_true rfl) rfl (k_X7_forget_x (d + 7) (T := T14) (σ := σ46) (a := x54) hk56o w52 ) (fun r58 T60 σ59 gt61 hp => ?_)
        obtain ⟨rfl, rfl, w65, F66, f62, f63⟩ := hp
        clear gt61
        show Tn _ _ 49 T14 σ59 [(4, .int (iI v20)), (3, .ref x8), (0, .ref a), (1, .int (iI k)), (2, .int (iI r))] [] _
        refine tn_iload dX11_pass_49 0 rfl ?_
        exact tn_iret rfl dX11_pass_51 ⟨_, rfl, w65, ((((FrC.rfl.trans (FrC.sub F22 (by decide))).trans (FrC.sub (FrC.old F36 gt15) (by decide))).trans (FrC.sub (FrC.old F53 gt15) (by decide))).trans (FrC.sub (FrC.old F66 gt15) (by decide))), by omega, (by have z := PAC.mk (ks := [(56, x54)]) (xs := [x41]) (ls := []) hK hw w21 w35 gt15 ⟨⟨by omega, by omega⟩, by omega, by omega⟩ hcr9 f17 f18 (hx24) rfl f31 f32 f33 (CHX.trans (CHX.sub f49 (by simp) (by simp) (by simp)) (CHX.sub f62 (by simp) (by simp) (by simp))) (fun p hp => by rw [List.mem_singleton.mp hp]) (fun y hy => by rw [List.mem_singleton.mp hy]; exact ⟨x37, (by rw [← adN_of hx38, adN_of (rc_F F22 (Or.inl (by decide)) (by decide) e9)]; exact hK.2.1.2.2.2.2.2.2.2), hk39o, (adN_of ((rc_F F36 (Or.inl (by decide)) (by decide) (hx42)))).symm⟩) (xf := x41) (tl := x37) f19 (by have z9 : x37 = adN σ 102 a := (by rw [← adN_of hx38, adN_of (rc_F F22 (Or.inl (by decide)) (by decide) e9)]); exact z9) (by rw [show x37 = adN σ 102 a by rw [← adN_of hx38, adN_of (rc_F F22 (Or.inl (by decide)) (by decide) e9)]]; exact ot9) (by rw [← adN_of hx38, adN_of (rc_F F22 (Or.inl (by decide)) (by decide) e9)]; exact hK.2.1.2.2.2.2.2.2.2) (adN_of ((rc_F F36 (Or.inl (by decide)) (by decide) (hx42)))).symm rfl (by rw [f62.r (by simp)]; exact f50) kt9; exact z), (Or.inr ⟨⟨⟨by omega, by omega⟩, by omega, by omega⟩, x54, (rc_F F66 (Or.inl (by decide)) (by decide) (rc_F F53 (Or.inl (by decide)) (by decide) (rc_F F36 (Or.inl (by decide)) (by decide) (hx55)))), f63⟩)⟩
      · refine tn_iconst dX11_pass_19 ?_
        exact tn_iret rfl dX11_pass_20 ⟨_, rfl, hw, FrC.rfl, by omega, (Or.inl ⟨by intro hh; have q := (hK.2.2.1.2.1 r hh.2.1 (by have := hK.2.2.1.1; omega)).1; have z := f5; unfold CDF at z; omega, rfl, rfl, rfl⟩), (Or.inl ⟨by intro hh; have q := (hK.2.2.1.2.1 r hh.2.1 (by have := hK.2.2.1.1; omega)).1; have z := f5; unfold CDF at z; omega, rfl⟩)⟩
end
