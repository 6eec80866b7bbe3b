theorem cd_X4_init : Cond.code yX4_init cX4_init 2 none ∈ pWW := pw2 (List.mem_of_getElem? (i := 59) rfl) rfl
abbrev m_X4_init : MT := (yX4_init, cX4_init, 2, none)
theorem ok_X4_init : pOk m_X4_init := ⟨⟨cd_X4_init, ini_4⟩, by decide +kernel, ⟨by decide +kernel, by decide +kernel⟩, Nat.le_of_ble_eq_true rfl⟩
theorem np_X4_init : (parseMethodDescriptor yX4_init.desc).map (fun d => d.parameters.length) = some 1 := by decide +kernel
theorem im_X4_init : Cond.instanceMethod yX4_init ∈ pWW := pw2 (List.mem_of_getElem? (i := 58) rfl) rfl
theorem mlo4_3 : Cond.methodLink RX4 3 objectInit ∈ pWW := pw2 (List.mem_of_getElem? (i := 60) rfl) rfl
theorem dX4_init_0 : decode cX4_init 0 = .ok (.aload_n 0, 1) := by decide +kernel
theorem dX4_init_1 : decode cX4_init 1 = .ok (.invokespecial 3, 3) := by decide +kernel
theorem dX4_init_4 : decode cX4_init 4 = .ok (.aload_n 0, 1) := by decide +kernel
theorem dX4_init_5 : decode cX4_init 5 = .ok (.bipush 8, 2) := by decide +kernel
theorem dX4_init_7 : decode cX4_init 7 = .ok (.newarray .int, 2) := by decide +kernel
theorem dX4_init_9 : decode cX4_init 9 = .ok (.putfield 9, 3) := by decide +kernel
theorem dX4_init_12 : decode cX4_init 12 = .ok (.aload_n 0, 1) := by decide +kernel
theorem dX4_init_13 : decode cX4_init 13 = .ok (.aload_n 1, 1) := by decide +kernel
theorem dX4_init_14 : decode cX4_init 14 = .ok (.putfield 15, 3) := by decide +kernel
theorem dX4_init_17 : decode cX4_init 17 = .ok (.return_, 1) := by decide +kernel
set_option maxRecDepth 20000 in
theorem kc_X4_init_34 (d : Nat) {T : CT} {σ : MS} {a : Nat} {K : List Nat} {fl : Nat} (hraw : T a = (80 + 4, 0)) (hb : WTn T σ) (hcd : CD K T) (hdf : ∀ j, j < 200 → σ.2.1 j (a : Int) = dfF j) (h_fl : T fl = (33, 0)) : Tn (d + 1) m_X4_init 0 T σ [(0, .ref a), (1, .ref fl)] [] (fun ro T2 σ2 => ro = none ∧ T2 a = (34, 0) ∧ WTn T2 σ2 ∧ CD K T2 ∧ KPx a T σ T2 σ2 ∧ σ2.1 0 = σ.1 0 + (8 : Nat) ∧ σ2.1 1 = σ.1 1 + (1 : Nat) ∧ NX 7 a T T2 ∧ NX 41 a T T2) := by
  have cx0 : CX a 4 K 0 0 T σ T σ := CX.begin hraw hb hcd
  have nx7 : NX 7 a T T := NX.begin (by decide)
  have nx41 : NX 41 a T T := NX.begin (by decide)
  have f23 : σ.2.1 23 a = -1 := (hdf 23 (by decide)).trans (by decide)
  have f24 : σ.2.1 24 a = -1 := (hdf 24 (by decide)).trans (by decide)
  have f25 : σ.2.1 25 a = -1 := (hdf 25 (by decide)).trans (by decide)
  have f26 : σ.2.1 26 a = -1 := (hdf 26 (by decide)).trans (by decide)
  have f27 : σ.2.1 27 a = 0 := (hdf 27 (by decide)).trans (by decide)
  have f28 : σ.2.1 28 a = 0 := (hdf 28 (by decide)).trans (by decide)
  have f29 : σ.2.1 29 a = 0 := (hdf 29 (by decide)).trans (by decide)
  have f30 : σ.2.1 30 a = 0 := (hdf 30 (by decide)).trans (by decide)
  have f31 : σ.2.1 31 a = 0 := (hdf 31 (by decide)).trans (by decide)
  have f32 : σ.2.1 32 a = 0 := (hdf 32 (by decide)).trans (by decide)
  refine tn_aload_n dX4_init_0 rfl 0 rfl ?_
  refine tn_objInit dX4_init_1 mlo4_3 oiI oiC (by omega) (Nat.le_of_ble_eq_true rfl) ?_
  refine tn_aload_n dX4_init_4 rfl 0 rfl ?_
  refine tn_bipush dX4_init_5 (by decide) ?_
  refine tn_newI (N := 8) (k := 1) dX4_init_7 arC_int (by decide) rfl (by decide) (fun x1 hx2 => ?_)
  have ne3 := cx0.ne hx2
  obtain ⟨T4, σ5, eT6, eS7, cx8, f23, f24, f25, f26, f27, f28, f29, f30, f31, f32, o9, o10, nx7, nx41⟩ : ∃ (T4 : CT) (σ5 : MS), T4 = (tT T x1 1 8) ∧ σ5 = (rowS (1000 + x1) (fun _ => 0) (gh 8 σ)) ∧ CX a 4 K 8 1 T σ T4 σ5 ∧ (σ5.2.1 23 a = -1) ∧ (σ5.2.1 24 a = -1) ∧ (σ5.2.1 25 a = -1) ∧ (σ5.2.1 26 a = -1) ∧ (σ5.2.1 27 a = 0) ∧ (σ5.2.1 28 a = 0) ∧ (σ5.2.1 29 a = 0) ∧ (σ5.2.1 30 a = 0) ∧ (σ5.2.1 31 a = 0) ∧ (σ5.2.1 32 a = 0) ∧ (T4 fl = (33, 0)) ∧ (T4 x1 = (1, 8)) ∧ NX 7 a T T4 ∧ NX 41 a T T4 := ⟨_, _, rfl, rfl, (cx0.newI hx2 (by decide)), (by rw [rowS_ne (by omega)]; exact f23), (by rw [rowS_ne (by omega)]; exact f24), (by rw [rowS_ne (by omega)]; exact f25), (by rw [rowS_ne (by omega)]; exact f26), (by rw [rowS_ne (by omega)]; exact f27), (by rw [rowS_ne (by omega)]; exact f28), (by rw [rowS_ne (by omega)]; exact f29), (by rw [rowS_ne (by omega)]; exact f30), (by rw [rowS_ne (by omega)]; exact f31), (by rw [rowS_ne (by omega)]; exact f32), (tk_keep h_fl (by decide) hx2), tT_eq, (nx7.mk9 (by decide)), (nx41.mk9 (by decide))⟩
  rw [← eT6]
  rw [← eS7]
  refine tn_putFr (ci := 4) (i := 1) (n := 24) (r := true) (v := (x1 : Int)) tyX4 tyX4_ok nmX4 dX4_init_9 rfl lay_4 (by decide) fl4_9 rfl rfl rfl (tyX4_ok 1 (by decide)) (vl_ref rfl).symm rfl rfl (cx8.r (by decide)) rfl rfl ?_
  obtain ⟨σ12, eS14, cx15, f23, f24, f25, f26, f27, f28, f29, f30, f31, f32⟩ : ∃ (σ12 : MS), σ12 = (sA 24 a ((x1 : Int)) σ5) ∧ CX a 4 K 8 1 T σ T4 σ12 ∧ (σ12.2.1 23 a = -1) ∧ (σ12.2.1 24 a = (x1 : Int)) ∧ (σ12.2.1 25 a = -1) ∧ (σ12.2.1 26 a = -1) ∧ (σ12.2.1 27 a = 0) ∧ (σ12.2.1 28 a = 0) ∧ (σ12.2.1 29 a = 0) ∧ (σ12.2.1 30 a = 0) ∧ (σ12.2.1 31 a = 0) ∧ (σ12.2.1 32 a = 0) := ⟨_, rfl, (cx8.put (by decide)), (rc_o (by decide) f23), ra_eq, (rc_o (by decide) f25), (rc_o (by decide) f26), (rc_o (by decide) f27), (rc_o (by decide) f28), (rc_o (by decide) f29), (rc_o (by decide) f30), (rc_o (by decide) f31), (rc_o (by decide) f32)⟩
  rw [← eS14]
  refine tn_aload_n dX4_init_12 rfl 0 rfl ?_
  refine tn_aload_n dX4_init_13 rfl 1 rfl ?_
  refine tn_putFr (ci := 4) (i := 0) (n := 23) (r := true) (v := (fl : Int)) tyX4 tyX4_ok nmX4 dX4_init_14 rfl lay_4 (by decide) fl4_15 rfl rfl rfl (tyX4_ok 0 (by decide)) (vl_ref rfl).symm rfl rfl (cx15.r (by decide)) rfl rfl ?_
  obtain ⟨σ17, eS19, cx20, f23, f24, f25, f26, f27, f28, f29, f30, f31, f32⟩ : ∃ (σ17 : MS), σ17 = (sA 23 a ((fl : Int)) σ12) ∧ CX a 4 K 8 1 T σ T4 σ17 ∧ (σ17.2.1 23 a = (fl : Int)) ∧ (σ17.2.1 24 a = (x1 : Int)) ∧ (σ17.2.1 25 a = -1) ∧ (σ17.2.1 26 a = -1) ∧ (σ17.2.1 27 a = 0) ∧ (σ17.2.1 28 a = 0) ∧ (σ17.2.1 29 a = 0) ∧ (σ17.2.1 30 a = 0) ∧ (σ17.2.1 31 a = 0) ∧ (σ17.2.1 32 a = 0) := ⟨_, rfl, (cx15.put (by decide)), ra_eq, (rc_o (by decide) f24), (rc_o (by decide) f25), (rc_o (by decide) f26), (rc_o (by decide) f27), (rc_o (by decide) f28), (rc_o (by decide) f29), (rc_o (by decide) f30), (rc_o (by decide) f31), (rc_o (by decide) f32)⟩
  rw [← eS19]
  refine tn_tag (ci := 4) (k := 34) (by decide) cx20.1 (by decide) ?_
  have hf9 : ∀ m, m < 111 → cls m = 4 → FO m 34 T4 (σ17.2.1 m a) := fun m hm9 hc9 => by
    have q9 := clsR_4 m hm9 hc9
    have q8 : m = 23 ∨ m = 24 ∨ m = 25 ∨ m = 26 ∨ m = 27 ∨ m = 28 ∨ m = 29 ∨ m = 30 ∨ m = 31 ∨ m = 32 := by omega
    rcases q8 with q8 | q8 | q8 | q8 | q8 | q8 | q8 | q8 | q8 | q8
    · subst q8; rw [f23]; exact fo_23 (⟨_, rfl, tg1 o9⟩)
    · subst q8; rw [f24]; exact fo_24 (⟨_, rfl, AR.of o10 (by decide) (by decide)⟩)
    · subst q8; rw [f25]; exact fo_25 (Or.inl (by decide))
    · subst q8; rw [f26]; exact fo_26 (Or.inl (by decide))
    · subst q8; rw [f27]; exact fo_27 (by decide)
    · subst q8; rw [f28]; exact fo_28 (by decide)
    · subst q8; rw [f29]; exact fo_29 (by decide)
    · subst q8; rw [f30]; exact fo_30 (by decide)
    · subst q8; rw [f31]; exact fo_31 (by decide)
    · subst q8; rw [f32]; exact fo_32 (by decide)
  exact tn_vret rfl dX4_init_17 ⟨rfl, tT_eq, cx20.2.1.tag cx20.1 (by decide) hf9 (fun h => absurd h (by decide)), cx20.2.2.1.tag (by rw [cx20.1]; decide) (by decide), cx20.2.2.2.1.tag, cx20.2.2.2.2.1, cx20.2.2.2.2.2, nx7.tag, nx41.tag⟩
