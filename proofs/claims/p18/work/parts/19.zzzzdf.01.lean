section
set_option maxHeartbeats 1000000 in
set_option maxRecDepth 20000 in
theorem k_X11_known_t (d : Nat) {T : CT} {σ : MS} {a : Nat} {k : Int} {m : Int} {rn tl xa xb xc xe y bb bs bf : Nat} (ha : OB T a 11) (h_k : -2147483648 ≤ k ∧ k ≤ 2147483647) (h_m : -2147483648 ≤ m ∧ m ≤ 2147483647) (hw : WT T σ) (hrn : σ.2.1 103 a = (rn : Int)) (htl : σ.2.1 102 a = (tl : Int)) (hxa : σ.2.1 59 rn = (xa : Int)) (hxb : σ.2.1 60 rn = (xb : Int)) (hxc : σ.2.1 61 rn = (xc : Int)) (hxe : σ.2.1 63 rn = (xe : Int)) (hy : σ.2.1 55 rn = (y : Int)) (hbb : σ.2.1 90 tl = (bb : Int)) (hbs : σ.2.1 91 tl = (bs : Int)) (hbf : σ.2.1 89 tl = (bf : Int)) (hkv : KVH T σ rn tl xa xb xc y bb bs bf k m) : Tn (d + 6) m_X11_known 0 T σ [(0, .ref a), (1, .int (iI k)), (2, .int (iI m))] [] (fun ro T2 σ2 => ∃ v : Int, ro = some (.int (iI v)) ∧ WT T2 σ2 ∧ FrC T [70, 71, 92, 93, 94, 900] σ σ2 ∧ (-2147483648 ≤ v ∧ v ≤ 2147483647) ∧ (KVT T T2 σ σ2 rn tl xa xb xc y bb bs bf k m (-1) v (fun s c9 i9 => jKW (jWO T2 s c9 (adN s 5 c9) i9))) ∧ (GT T T2)) := by
  refine tn_aload_n dX11_known_0 rfl 0 rfl ?_
  have hk3 : (T rn).1 = 37 := ob_of (wf_103 hw ha) hrn
  have hk3o : OB T rn 7 := ⟨by omega, by rw [hk3]; rfl, by omega⟩
  refine tn_getR (ci := 11) (i := 8) (n := 103) (x := rn) dX11_known_1 rfl lay_11 (by decide) fl11_83 ha rfl rfl (hrn) ?_
  refine tn_iload_n dX11_known_4 rfl 1 rfl ?_
  obtain ⟨hk7, hl8⟩ : AR T xa 15 9 9 := ar_of (wf_59 hw hk3o) hxa
  have hk7i : IA T xa := by unfold IA; omega
  obtain ⟨hl12, hk11a, hk11b⟩ := ex_at (wf_61 hw hk3o) hxc
  have hk11 : (T xc).1 = 1 := hk11b (by omega)
  clear hk11a hk11b
  have hk11i : IA T xc := by unfold IA; omega
  obtain ⟨hl16, hk15a, hk15b⟩ := ex_at (wf_55 hw hk3o) hy
  have hk15i : (T y).1 = 4 ∨ (T y).1 = 5 := by omega
  have hk15c : RROW T rn y := ⟨hk15a, hk15b⟩
  clear hk15a hk15b
  refine tn_callV (M := m_X11_known) (pc := 5) (ix := 214) (ci := 7) (M' := m_X7_find) (As := [.int (iI k)]) (rest := []) dX11_known_5 ok_X7_find im_X7_find se_X7_find ml11_214 np_X7_find rfl rfl hk3o rfl (Nat.le_of_ble_eq_true rfl) (Nat.le_of_ble_eq_true rfl) rfl (k_X7_find_j (d + 1) (T := T) (σ := σ) (a := rn) (k := k) (xa := xa) (xc := xc) (y := y) hk3o (by omega) hw (hxa) (hxc) (hy)) (fun r17 T19 σ18 gt20 hp => ?_)
  obtain ⟨v25, rfl, rfl, w26, F27, f21, f22, f23, f24⟩ := hp
  clear gt20
  show Tn _ _ 8 T σ18 [(0, .ref a), (1, .int (iI k)), (2, .int (iI m))] [.int (iI v25)] _
  refine tn_if_eq (tgt := 26) dX11_known_8 (by decide) ⟨by omega, by omega⟩ (fun h28 => ?_) (fun h28 => ?_)
  · refine tn_iconst dX11_known_26 ?_
    exact tn_iret rfl dX11_known_27 ⟨_, rfl, w26, (FrC.rfl.trans (FrC.sub F27 (by decide))), by omega, ⟨σ18, _, f22, w26, f24, by first | exact Or.inl ⟨by omega, rfl, rfl, rfl⟩ | exact Or.inr ⟨by omega, Or.inl ⟨rfl, Or.inl (by omega), rfl, rfl⟩⟩⟩, GT.rfl⟩
  · refine tn_iload_n dX11_known_11 rfl 2 rfl ?_
    refine tn_if_lt (tgt := 26) dX11_known_12 (by decide) ⟨by omega, by omega⟩ (fun h29 => ?_) (fun h29 => ?_)
    · refine tn_iconst dX11_known_26 ?_
      exact tn_iret rfl dX11_known_27 ⟨_, rfl, w26, (FrC.rfl.trans (FrC.sub F27 (by decide))), by omega, ⟨σ18, _, f22, w26, f24, by first | exact Or.inl ⟨by omega, rfl, rfl, rfl⟩ | exact Or.inr ⟨by omega, Or.inl ⟨rfl, Or.inl (by omega), rfl, rfl⟩⟩⟩, GT.rfl⟩
    · refine tn_iload_n dX11_known_15 rfl 2 rfl ?_
      refine tn_aload_n dX11_known_16 rfl 0 rfl ?_
      refine tn_getR (ci := 11) (i := 8) (n := 103) (x := rn) dX11_known_17 rfl lay_11 (by decide) fl11_83 ha rfl rfl (rc_F F27 (Or.inl (by decide)) (by decide) (hrn)) ?_
      refine tn_callV (M := m_X11_known) (pc := 20) (ix := 224) (ci := 7) (M' := m_X7_foundNames) (As := []) (rest := [.int (iI m)]) dX11_known_20 ok_X7_foundNames im_X7_foundNames se_X7_foundNames ml11_224 np_X7_foundNames rfl rfl hk3o rfl (Nat.le_of_ble_eq_true rfl) (Nat.le_of_ble_eq_true rfl) rfl (k_X7_foundNames_j (d + 2) (T := T) (σ := σ18) (a := rn) (xa := xa) (y := y) hk3o w26 (rc_F F27 (Or.inl (by decide)) (by decide) (hxa)) (rc_F F27 (Or.inl (by decide)) (by decide) (hy))) (fun r30 T32 σ31 gt33 hp => ?_)
      obtain ⟨v36, rfl, rfl, rfl, f34, f35⟩ := hp
      clear gt33
      show Tn _ _ 23 T σ18 [(0, .ref a), (1, .int (iI k)), (2, .int (iI m))] [.int (iI v36), .int (iI m)] _
      refine tn_icmp_lt (tgt := 28) dX11_known_23 (by decide) ⟨by omega, by omega⟩ ⟨by omega, by omega⟩ (fun h37 => ?_) (fun h37 => ?_)
      · refine tn_aload_n dX11_known_28 rfl 0 rfl ?_
        have hk40 : (T tl).1 = 40 := ob_of (wf_102 hw ha) htl
        have hk40o : OB T tl 10 := ⟨by omega, by rw [hk40]; rfl, by omega⟩
        refine tn_getR (ci := 11) (i := 7) (n := 102) (x := tl) dX11_known_29 rfl lay_11 (by decide) fl11_39 ha rfl rfl (rc_F F27 (Or.inl (by decide)) (by decide) (htl)) ?_
        refine tn_aload_n dX11_known_32 rfl 0 rfl ?_
        refine tn_getR (ci := 11) (i := 8) (n := 103) (x := rn) dX11_known_33 rfl lay_11 (by decide) fl11_83 ha rfl rfl (rc_F F27 (Or.inl (by decide)) (by decide) (hrn)) ?_
        refine tn_callV (M := m_X11_known) (pc := 36) (ix := 227) (ci := 7) (M' := m_X7_foundSource) (As := []) (rest := [.ref tl]) dX11_known_36 ok_X7_foundSource im_X7_foundSource se_X7_foundSource ml11_227 np_X7_foundSource rfl rfl hk3o rfl (Nat.le_of_ble_eq_true rfl) (Nat.le_of_ble_eq_true rfl) rfl (k_X7_foundSource_t (d + 3) (T := T) (σ := σ18) (a := rn) (xa := xa) hk3o w26 (rc_F F27 (Or.inl (by decide)) (by decide) (hxa))) (fun r42 T44 σ43 gt45 hp => ?_)
        obtain ⟨v48, rfl, rfl, rfl, f46, f47⟩ := hp
        clear gt45
        show Tn _ _ 39 T σ18 [(0, .ref a), (1, .int (iI k)), (2, .int (iI m))] [.int (iI v48), .ref tl] _
        refine tn_aload_n dX11_known_39 rfl 0 rfl ?_
        refine tn_getR (ci := 11) (i := 8) (n := 103) (x := rn) dX11_known_40 rfl lay_11 (by decide) fl11_83 ha rfl rfl (rc_F F27 (Or.inl (by decide)) (by decide) (hrn)) ?_
        refine tn_callV (M := m_X11_known) (pc := 43) (ix := 230) (ci := 7) (M' := m_X7_foundCode) (As := []) (rest := [.int (iI v48), .ref tl]) dX11_known_43 ok_X7_foundCode im_X7_foundCode se_X7_foundCode ml11_230 np_X7_foundCode rfl rfl hk3o rfl (Nat.le_of_ble_eq_true rfl) (Nat.le_of_ble_eq_true rfl) rfl (k_X7_foundCode_j (d + 3) (T := T) (σ := σ18) (a := rn) (xa := xa) (y := y) hk3o w26 (rc_F F27 (Or.inl (by decide)) (by decide) (hxa)) (rc_F F27 (Or.inl (by decide)) (by decide) (hy))) (fun r49 T51 σ50 gt52 hp => ?_)
        obtain ⟨v55, rfl, rfl, rfl, rv56, f53, f54⟩ := hp
        clear gt52
        rcases rv56 with rv56 | ⟨xq57, rfl, hk58⟩
        · exact absurd (JW.neg f54 rv56) (by obtain ⟨cc9, e9⟩ := JFN.cc f22 f24 (by omega); omega)
        · show Tn _ _ 46 T σ18 [(0, .ref a), (1, .int (iI k)), (2, .int (iI m))] (vl true (xq57 : Int) :: [.int (iI v48), .ref tl]) _
          rw [vl_ref rfl]
          have hk58t : (T xq57).1 = 50 := hk58.2.2 (by have q9 := hk3; omega)
          have hk58to : OB T xq57 1 := ⟨by omega, by rw [hk58t]; rfl, by omega⟩
          refine tn_callV (M := m_X11_known) (pc := 46) (ix := 176) (ci := 10) (M' := m_X10_refresh) (As := [.int (iI v48), .ref xq57]) (rest := []) dX11_known_46 ok_X10_refresh im_X10_refresh se_X10_refresh ml11_176 np_X10_refresh rfl rfl hk40o rfl (Nat.le_of_ble_eq_true rfl) (Nat.le_of_ble_eq_true rfl) rfl (k_X10_refresh_t (d) (T := T) (σ := σ18) (a := tl) (r := v48) (c := xq57) hk40o (by omega) hk58to hk58t w26 (rc_F F27 (Or.inl (by decide)) (by decide) (hbb)) (rc_F F27 (Or.inl (by decide)) (by decide) (hbs)) (rc_F F27 (Or.inl (by decide)) (by decide) (hbf)) (hkv σ18 xq57 f22 w26 (by have z9 := f24; rw [show (v25 : Int) = 1 by omega] at z9; exact z9) (JW.pos f54 (Int.natCast_nonneg _))).1.1 (by rw [f47]; exact (hkv σ18 xq57 f22 w26 (by have z9 := f24; rw [show (v25 : Int) = 1 by omega] at z9; exact z9) (JW.pos f54 (Int.natCast_nonneg _))).1.2)) (fun r59 T61 σ60 gt62 hp => ?_)
          obtain ⟨rfl, w65, F66, f63⟩ := hp
          replace ha : OB T61 a 11 := gt62.ob ha
          show Tn _ _ 49 T61 σ60 [(0, .ref a), (1, .int (iI k)), (2, .int (iI m))] [] _
          have rft9 : RFT T T61 σ18 σ60 tl xq57 (jA T xa (σ18.2.1 70 rn) σ18) bs bb bf := by have z9 := f63; rw [f47] at z9; exact z9
          obtain ⟨hc9, h719, h609, hm9, hid9⟩ := (hkv σ18 xq57 f22 w26 (by have z9 := f24; rw [show (v25 : Int) = 1 by omega] at z9; exact z9) (JW.pos f54 (Int.natCast_nonneg _))).2.2.2 T61 σ60 _ gt62 w65 rft9 f35 (by omega) (by omega)
          exact tn_sub [0, 1, 2] rfl (Tn.mono (k_X11_known_t9 _ (T := T61) (σ := σ60) (a := a) (k := k) (m := m) (rn := rn) (tl := tl) (xa := xa) (xb := xb) (y := y) (c := xq57) ha h_k h_m w65 (rc_F F66 (Or.inl (by decide)) (by decide) (rc_F F27 (Or.inl (by decide)) (by decide) (hrn))) (rc_F F66 (Or.inl (by decide)) (by decide) (rc_F F27 (Or.inl (by decide)) (by decide) (htl))) (rc_F F66 (Or.inl (by decide)) (by decide) (rc_F F27 (Or.inl (by decide)) (by decide) (hxa))) (rc_F F66 (Or.inl (by decide)) (by decide) (rc_F F27 (Or.inl (by decide)) (by decide) (hxb))) (rc_F F66 (Or.inl (by decide)) (by decide) (rc_F F27 (Or.inl (by decide)) (by decide) (hy))) hc9 h719 h609 ⟨by omega, hm9⟩ hid9) (fun ro9 T9 σ9 h9 => by
            obtain ⟨v9, q0, q1, q2, q3, q4⟩ := h9
            subst q1
            subst q2
            exact ⟨v9, q0, w65, ((FrC.rfl.trans (FrC.sub F27 (by decide))).trans (FrC.sub F66 (by decide))), q3, ⟨σ18, _, f22, w26, f24, Or.inr ⟨by omega, Or.inr ⟨by omega, _, xq57, f35, by omega, JW.pos f54 (Int.natCast_nonneg _), rft9, q4⟩⟩⟩, gt62⟩))
      · refine tn_iconst dX11_known_26 ?_
        exact tn_iret rfl dX11_known_27 ⟨_, rfl, w26, (FrC.rfl.trans (FrC.sub F27 (by decide))), by omega, ⟨σ18, _, f22, w26, f24, by first | exact Or.inl ⟨by omega, rfl, rfl, rfl⟩ | exact Or.inr ⟨by omega, Or.inl ⟨rfl, Or.inr ⟨_, f35, by omega⟩, rfl, rfl⟩⟩⟩, GT.rfl⟩
end
