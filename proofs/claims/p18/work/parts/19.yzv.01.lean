section
set_option maxHeartbeats 1000000 in
set_option maxRecDepth 20000 in
theorem k_X11_takeMade_x (d : Nat) {T : CT} {σ : MS} {a : Nat} {r : Int} {S : Nat → Prop} {c e : Nat} (ha : OB T a 11) (h_r : -2147483648 ≤ r ∧ r ≤ 2147483647) (hw : WT T σ) (hI : INJ S T σ) (hr : 0 ≤ r ∧ r < 6) (hcr : σ.2.1 (1000 + adN σ 99 a) r = (c : Int)) (sc : S c) (her : σ.2.1 (1000 + adN σ 34 (adN σ 100 a)) r = (e : Int)) (se : S e) (stl : S (adN σ 102 a)) (hN9 : σ.2.1 6 e ≤ 200) (hn12 : ∀ f, 0 ≤ f → f < σ.2.1 10 e → rwF σ 14 e f ≤ 12) : Tn (d + 4) m_X11_takeMade 0 T σ [(0, .ref a), (1, .int (iI r))] [] (fun ro T2 σ2 => ro = none ∧ WT T2 σ2 ∧ FrC T [5, 6, 7, 8, 9, 10] σ σ2 ∧ (TKM T σ σ2 c e (adN σ 34 (adN σ 100 a)) (adN σ 98 a) (adN σ 89 (adN σ 102 a)) r (σ.2.1 (1000 + adN σ 98 a) r))) := by
  refine tn_iload_n dX11_takeMade_0 rfl 1 rfl ?_
  refine tn_if_lt (tgt := 40) dX11_takeMade_1 (by decide) ⟨by omega, by omega⟩ (fun h1 => absurd h1 (by omega)) (fun h1 => ?_)
  refine tn_iload_n dX11_takeMade_4 rfl 1 rfl ?_
  refine tn_aload_n dX11_takeMade_5 rfl 0 rfl ?_
  obtain ⟨x2, hx3, hk4, hl5⟩ : ∃ x : Nat, σ.2.1 98 a = (x : Int) ∧ AR T x 4 6 6 := wf_98 hw ha
  have hk4i : (T x2).1 = 4 ∨ (T x2).1 = 5 := by omega
  refine tn_getR (ci := 11) (i := 3) (n := 98) (x := x2) dX11_takeMade_6 rfl lay_11 (by decide) fl11_15 ha rfl rfl (hx3) ?_
  refine tn_alenX dX11_takeMade_9 (by have q9 := hk4i; omega) ?_
  refine tn_icmp_ge (tgt := 40) dX11_takeMade_10 (by decide) ⟨by omega, by omega⟩ ⟨by omega, by omega⟩ (fun h6 => absurd h6 (by omega)) (fun h6 => ?_)
  refine tn_iload_n dX11_takeMade_13 rfl 1 rfl ?_
  refine tn_aload_n dX11_takeMade_14 rfl 0 rfl ?_
  obtain ⟨x7, hx8, hk9, hl10⟩ : ∃ x : Nat, σ.2.1 99 a = (x : Int) ∧ AR T x 5 6 6 := wf_99 hw ha
  have hk9i : (T x7).1 = 4 ∨ (T x7).1 = 5 := by omega
  refine tn_getR (ci := 11) (i := 4) (n := 99) (x := x7) dX11_takeMade_15 rfl lay_11 (by decide) fl11_19 ha rfl rfl (hx8) ?_
  refine tn_alenX dX11_takeMade_18 (by have q9 := hk9i; omega) ?_
  refine tn_icmp_ge (tgt := 40) dX11_takeMade_19 (by decide) ⟨by omega, by omega⟩ ⟨by omega, by omega⟩ (fun h11 => absurd h11 (by omega)) (fun h11 => ?_)
  refine tn_aload_n dX11_takeMade_22 rfl 0 rfl ?_
  refine tn_getR (ci := 11) (i := 4) (n := 99) (x := x7) dX11_takeMade_23 rfl lay_11 (by decide) fl11_19 ha rfl rfl (hx8) ?_
  refine tn_iload_n dX11_takeMade_26 rfl 1 rfl ?_
  obtain ⟨x12, hx13, hk14⟩ := (hw).2.2.2.1.2 x7 hk9 (r) (by omega) (by omega)
  refine tn_aald (z := r) (x := x12) dX11_takeMade_27 hk9i (by omega) (by omega) (by omega) hx13 ?_
  have hk14o : OB T x12 1 := ⟨by omega, by rw [hk14]; rfl, by omega⟩
  have ec9 : x12 = c := by have z := hx13; rw [← adN_of hx8] at z; omega
  refine tn_ifnull dX11_takeMade_28 ?_
  refine tn_aload_n dX11_takeMade_31 rfl 0 rfl ?_
  refine tn_getR (ci := 11) (i := 3) (n := 98) (x := x2) dX11_takeMade_32 rfl lay_11 (by decide) fl11_15 ha rfl rfl (hx3) ?_
  refine tn_iload_n dX11_takeMade_35 rfl 1 rfl ?_
  obtain ⟨x15, hx16, hk17⟩ := (hw).2.2.2.1.1 x2 hk4 (r) (by omega) (by omega)
  refine tn_aald (z := r) (x := x15) dX11_takeMade_36 hk4i (by omega) (by omega) (by omega) hx16 ?_
  have hk17o : OB T x15 1 := ⟨by omega, by rw [hk17]; rfl, by omega⟩
  refine tn_ifnonnull (tgt := 41) dX11_takeMade_37 (by decide) ?_
  refine tn_aload_n dX11_takeMade_41 rfl 0 rfl ?_
  refine tn_getR (ci := 11) (i := 3) (n := 98) (x := x2) dX11_takeMade_42 rfl lay_11 (by decide) fl11_15 ha rfl rfl (hx3) ?_
  refine tn_iload_n dX11_takeMade_45 rfl 1 rfl ?_
  refine tn_aload_n dX11_takeMade_46 rfl 0 rfl ?_
  obtain ⟨x18, hx19, hk20⟩ : ∃ x : Nat, σ.2.1 100 a = (x : Int) ∧ (T x).1 = 35 := wf_100 hw ha
  have hk20o : OB T x18 5 := ⟨by omega, by rw [hk20]; rfl, by omega⟩
  refine tn_getR (ci := 11) (i := 5) (n := 100) (x := x18) dX11_takeMade_47 rfl lay_11 (by decide) fl11_25 ha rfl rfl (hx19) ?_
  refine tn_iload_n dX11_takeMade_50 rfl 1 rfl ?_
  refine tn_aload_n dX11_takeMade_51 rfl 0 rfl ?_
  refine tn_getR (ci := 11) (i := 3) (n := 98) (x := x2) dX11_takeMade_52 rfl lay_11 (by decide) fl11_15 ha rfl rfl (hx3) ?_
  refine tn_iload_n dX11_takeMade_55 rfl 1 rfl ?_
  obtain ⟨x22, hx23, hk24⟩ := (hw).2.2.2.1.1 x2 hk4 (r) (by omega) (by omega)
  refine tn_aald (z := r) (x := x22) dX11_takeMade_56 hk4i (by omega) (by omega) (by omega) hx23 ?_
  have hk24o : OB T x22 1 := ⟨by omega, by rw [hk24]; rfl, by omega⟩
  obtain ⟨x25, hx26, hk27, hl28⟩ : ∃ x : Nat, σ.2.1 34 x18 = (x : Int) ∧ AR T x 4 7 7 := wf_34 hw hk20o
  have hk27i : (T x25).1 = 4 ∨ (T x25).1 = 5 := by omega
  refine tn_callV (M := m_X11_takeMade) (pc := 57) (ix := 285) (ci := 5) (M' := m_X5_exchange) (As := [.int (iI r), .ref x22]) (rest := [.int (iI r), .ref x2]) dX11_takeMade_57 ok_X5_exchange im_X5_exchange se_X5_exchange ml11_285 np_X5_exchange rfl rfl hk20o rfl (Nat.le_of_ble_eq_true rfl) (Nat.le_of_ble_eq_true rfl) rfl (k_X5_exchange_x (d + 2) (T := T) (σ := σ) (a := x18) (r := r) (p2 := x22) (xs := x25) hk20o (by omega) hk24o hk24 hw (hx26) (by omega)) (fun r29 T31 σ30 gt32 hp => ?_)
  obtain ⟨v36, rfl, rfl, w37, F38, rv39, f33, f34, f35⟩ := hp
  clear gt32
  obtain ⟨x40, rfl, hk41⟩ := rv39
  show Tn _ _ 60 T σ30 [(0, .ref a), (1, .int (iI r))] (vl true (x40 : Int) :: [.int (iI r), .ref x2]) _
  rw [vl_ref rfl]
  have hk41o : OB T x40 1 := ⟨by omega, by rw [hk41]; rfl, by omega⟩
  have her9 : σ.2.1 (1000 + x25) r = (e : Int) := by rw [← adN_of (hx26), ← adN_of hx19]; exact her
  have ee9 : x40 = e := by have z := f34; omega
  have ef9 := hx23
  refine tn_aastQ (z := r) (v := x40) dX11_takeMade_60 (by have q9 := hk4i; omega) hk41o.r (by omega) (by omega) (by omega) ?_
  refine tn_aload_n dX11_takeMade_61 rfl 0 rfl ?_
  refine tn_getR (ci := 11) (i := 3) (n := 98) (x := x2) dX11_takeMade_62 rfl lay_11 (by decide) fl11_15 ha rfl rfl (rc_a (Or.inl (by decide)) (rc_F F38 (Or.inl (by decide)) (by decide) (hx3))) ?_
  refine tn_iload_n dX11_takeMade_65 rfl 1 rfl ?_
  obtain ⟨x42, hx43, hk44⟩ := ((show WT T (sA (1000 + x2) (r) (x40 : Int) σ30) from (w37.rq (by have h1 := hk4; have h2 := hk41; omega)))).2.2.2.1.1 x2 hk4 (r) (by omega) (by omega)
  refine tn_aald (z := r) (x := x42) dX11_takeMade_66 hk4i (by omega) (by omega) (by omega) hx43 ?_
  have hk44o : OB T x42 1 := ⟨by omega, by rw [hk44]; rfl, by omega⟩
  have e19 : x42 = x40 := by have z := hx43; rw [rv_up, uZ_eq] at z; omega
  obtain ⟨x45, hx46, hl48, hk47a, hk47b⟩ := wf_5 hw hk44o
  have hk47 : (T x45).1 = 13 := hk47b (by omega)
  clear hk47a hk47b
  have hk47i : IA T x45 := by unfold IA; omega
  refine tn_callV (M := m_X11_takeMade) (pc := 67) (ix := 198) (ci := 1) (M' := m_X1_link) (As := []) (rest := []) dX11_takeMade_67 ok_X1_link im_X1_link se_X1_link ml11_198 np_X1_link rfl rfl hk44o rfl (Nat.le_of_ble_eq_true rfl) (Nat.le_of_ble_eq_true rfl) rfl (k_X1_link_x (d) (T := T) (σ := (sA (1000 + x2) (r) (x40 : Int) σ30)) (a := x42) (x := x45) (n := σ.2.1 6 x42) (W := cW (sA (1000 + x2) (r) (x40 : Int) σ30) x45 (σ.2.1 6 x42)) hk44o (w37.rq (by have h1 := hk4; have h2 := hk41; omega)) (rc_a (Or.inl (by decide)) (rc_F F38 (Or.inl (by decide)) (by decide) (hx46))) (rc_a (Or.inl (by decide)) (rc_F F38 (Or.inl (by decide)) (by decide) (rfl))) rfl (by rw [e19, ee9]; exact hN9)) (fun r49 T51 σ50 gt52 hp => ?_)
  obtain ⟨rfl, rfl, w57, F58, f53, f54, f55⟩ := hp
  clear gt52
  show Tn _ _ 70 T σ50 [(0, .ref a), (1, .int (iI r))] [] _
  have kxs9 : (T x25).1 = 4 := by omega
  have kxm9 : (T x2).1 = 4 := by omega
  have tk9 : TK1 S T σ σ50 x42 := TK1.mk (xs := x25) (xm := x2) (s1 := σ30) (s2 := (sA (1000 + x2) (r) (x40 : Int) σ30)) hw hI (by rw [e19, ee9]; exact se) hk44o f33 (by omega) rfl (by omega) (rc_a (Or.inl (by decide)) (rc_F F38 (Or.inl (by decide)) (by decide) (hx46))) (rc_a (Or.inl (by decide)) (rc_F F38 (Or.inl (by decide)) (by decide) (rfl))) f53 f54 f55
  refine tn_aload_n dX11_takeMade_70 rfl 0 rfl ?_
  refine tn_getR (ci := 11) (i := 4) (n := 99) (x := x7) dX11_takeMade_71 rfl lay_11 (by decide) fl11_19 ha rfl rfl (rc_F F58 (Or.inl (by decide)) (by decide) (rc_a (Or.inl (by decide)) (rc_F F38 (Or.inl (by decide)) (by decide) (hx8)))) ?_
  refine tn_iload_n dX11_takeMade_74 rfl 1 rfl ?_
  obtain ⟨x59, hx60, hk61⟩ := (w57).2.2.2.1.2 x7 hk9 (r) (by omega) (by omega)
  refine tn_aald (z := r) (x := x59) dX11_takeMade_75 hk9i (by omega) (by omega) (by omega) hx60 ?_
  have hk61o : OB T x59 1 := ⟨by omega, by rw [hk61]; rfl, by omega⟩
  have rc9 : σ50.2.1 (1000 + x7) = σ.2.1 (1000 + x7) := (f53.r (fun q => by have q2 : x7 = x45 := List.mem_singleton.mp q; have z2 : (T x7).1 = (T x45).1 := (by rw [q2]); omega)).trans ((sA_k (fun q => by have q2 : x7 = x2 := (by omega); have z2 : (T x7).1 = (T x2).1 := (by rw [q2]); omega)).trans (f33.r (fun q => by have q2 : x7 = x25 := List.mem_singleton.mp q; have z2 : (T x7).1 = (T x25).1 := (by rw [q2]); omega)))
  have c19 : x59 = c := by have z := hx60; rw [rc9, ← adN_of hx8] at z; omega
  refine tn_aload_n dX11_takeMade_76 rfl 0 rfl ?_
  refine tn_getR (ci := 11) (i := 3) (n := 98) (x := x2) dX11_takeMade_77 rfl lay_11 (by decide) fl11_15 ha rfl rfl (rc_F F58 (Or.inl (by decide)) (by decide) (rc_a (Or.inl (by decide)) (rc_F F38 (Or.inl (by decide)) (by decide) (hx3)))) ?_
  refine tn_iload_n dX11_takeMade_80 rfl 1 rfl ?_
  obtain ⟨x62, hx63, hk64⟩ := (w57).2.2.2.1.1 x2 hk4 (r) (by omega) (by omega)
  refine tn_aald (z := r) (x := x62) dX11_takeMade_81 hk4i (by omega) (by omega) (by omega) hx63 ?_
  have hk64o : OB T x62 1 := ⟨by omega, by rw [hk64]; rfl, by omega⟩
  have oc9 : OB T x59 1 := hk61o
  have oe9 : OB T x42 1 := hk44o
  have et9 := ad_ex (Q := fun x => (T x).1 = 40) (wf_102 hw ha)
  have ot9 : OB T (adN σ 102 a) 10 := ⟨by have := et9.2; omega, by rw [et9.2]; rfl, by have := et9.2; omega⟩
  have rm9 : σ50.2.1 (1000 + x2) r = (x40 : Int) := by rw [f53.r (fun q => by have q2 : x2 = x45 := List.mem_singleton.mp q; have z2 : (T x2).1 = (T x45).1 := (by rw [q2]); omega), rv_up, uZ_eq]
  have e29 : x62 = x42 := by have z := hx63; rw [rm9] at z; omega
  refine tn_callV (M := m_X11_takeMade) (pc := 82) (ix := 289) (ci := 1) (M' := m_X1_copyFrom) (As := [.ref x62]) (rest := []) dX11_takeMade_82 ok_X1_copyFrom im_X1_copyFrom se_X1_copyFrom ml11_289 np_X1_copyFrom rfl rfl hk61o rfl (Nat.le_of_ble_eq_true rfl) (Nat.le_of_ble_eq_true rfl) rfl (k_copyFrom_c (d) (T := T) (σ := σ50) (a := x59) (e := x62) (S := S) hk61o hk61 hk64o hk64 w57 (by rw [c19]; exact sc) (by rw [e29, e19, ee9]; exact se) tk9.1 (by rw [e29, tk9.2.2.2.2.2 6 _ (by decide), e19, ee9]; exact hN9) (fun f a b => by rw [e29] at b ⊢; rw [tk9.2.2.2.2.2 10 _ (by decide)] at b; rw [tk9.2.2.2.2.1]; rw [e19, ee9] at b ⊢; exact hn12 f a b)) (fun r65 T67 σ66 gt68 hp => ?_)
  obtain ⟨rfl, w72, F73, f69, f70⟩ := hp
  replace ha : OB T67 a 11 := gt68.ob ha
  show Tn _ _ 85 T67 σ66 [(0, .ref a), (1, .int (iI r))] [] _
  refine tn_aload_n dX11_takeMade_85 rfl 0 rfl ?_
  obtain ⟨x74, hx75, hk76⟩ : ∃ x : Nat, σ66.2.1 102 a = (x : Int) ∧ (T67 x).1 = 40 := wf_102 w72 ha
  have hk76o : OB T67 x74 10 := ⟨by omega, by rw [hk76]; rfl, by omega⟩
  refine tn_getR (ci := 11) (i := 7) (n := 102) (x := x74) dX11_takeMade_86 rfl lay_11 (by decide) fl11_39 ha rfl rfl (hx75) ?_
  refine tn_iload_n dX11_takeMade_89 rfl 1 rfl ?_
  obtain ⟨x78, hx79, hk80, hl81⟩ : ∃ x : Nat, σ66.2.1 89 x74 = (x : Int) ∧ AR T67 x 1 6 6 := wf_89 w72 hk76o
  have hk80i : IA T67 x78 := by unfold IA; omega
  refine tn_callV (M := m_X11_takeMade) (pc := 90) (ix := 201) (ci := 10) (M' := m_X10_spoil) (As := [.int (iI r)]) (rest := []) dX11_takeMade_90 ok_X10_spoil im_X10_spoil se_X10_spoil ml11_201 np_X10_spoil rfl rfl hk76o rfl (Nat.le_of_ble_eq_true rfl) (Nat.le_of_ble_eq_true rfl) rfl (k_X10_spoil_x (d + 1) (T := T67) (σ := σ66) (a := x74) (r := r) (xf := x78) hk76o (by omega) w72 (hx79) hr) (fun r82 T84 σ83 gt85 hp => ?_)
  obtain ⟨rfl, rfl, w89, F90, f86, f87⟩ := hp
  clear gt85
  show Tn _ _ 93 T67 σ83 [(0, .ref a), (1, .int (iI r))] [] _
  have to9 : x74 = adN σ 102 a := by have z := hx75; have z2 : σ66.2.1 102 a = σ.2.1 102 a := (f69.f (a := a) (by decide) (by simp)).trans (tk9.2.2.2.2.2 102 a (by decide)); rw [z2, et9.1] at z; omega
  have sx9 : x78 = adN σ 89 (adN σ 102 a) := by have z : σ66.2.1 89 x74 = (x78 : Int) := (hx79); have z2 : σ66.2.1 89 x74 = σ.2.1 89 x74 := (f69.f (a := x74) (by decide) (by simp)).trans (tk9.2.2.2.2.2 89 _ (by decide)); rw [z2] at z; rw [← to9]; exact (adN_of z).symm
  have tm9 := TKM.mk (S := S) (c := x59) (e := x42) (xs := x25) (xm := x2) (t := x78) (tl := adN σ 102 a) (r := r) (f := (x22 : Int)) (s1 := σ30) (s2 := (sA (1000 + x2) (r) (x40 : Int) σ30)) (s3 := σ50) (s4 := σ66) (s5 := σ83) hw hI (by rw [c19]; exact sc) (by rw [e19, ee9]; exact se) stl oc9 oe9 ot9 f33 f35 kxs9 (by rw [e19]) kxm9 (fun q => by have z2 : (T x25).2 = (T x2).2 := (by rw [q]); omega) (rc_a (Or.inl (by decide)) (rc_F F38 (Or.inl (by decide)) (by decide) (hx46))) (rc_a (Or.inl (by decide)) (rc_F F38 (Or.inl (by decide)) (by decide) (rfl))) f53 f54 f55 f69 (by have z := f70; rw [e29] at z; exact z) f86 sx9 f87
  exact tn_vret rfl dX11_takeMade_93 ⟨rfl, w89, (((((FrC.rfl.trans (FrC.sub F38 (by decide))).arr (hk_no (nh_k hk4 (by unfold HT; omega)))).trans (FrC.sub F58 (by decide))).trans (FrC.sub F73 (by decide))).trans (FrC.sub (FrC.old F90 gt68) (by decide))), (by have z := tm9; rw [c19, e19, ee9] at z; rw [adN_of hx19, adN_of (hx26), adN_of hx3, ← sx9, ef9]; exact z)⟩
end
