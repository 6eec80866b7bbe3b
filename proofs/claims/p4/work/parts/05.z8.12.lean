theorem cd_X9_init : Cond.code yX9_init cX9_init 1 none ∈ pWW := pw1 (List.mem_of_getElem? (i := 42) rfl) rfl
abbrev m_X9_init : MT := (yX9_init, cX9_init, 1, none)
theorem ok_X9_init : pOk m_X9_init := ⟨⟨cd_X9_init, ini_9⟩, by decide +kernel, ⟨by decide +kernel, by decide +kernel⟩, Nat.le_of_ble_eq_true rfl⟩
theorem np_X9_init : (parseMethodDescriptor yX9_init.desc).map (fun d => d.parameters.length) = some 0 := by decide +kernel
theorem im_X9_init : Cond.instanceMethod yX9_init ∈ pWW := pw1 (List.mem_of_getElem? (i := 41) rfl) rfl
theorem mlo9_3 : Cond.methodLink RX9 3 objectInit ∈ pWW := pw1 (List.mem_of_getElem? (i := 43) rfl) rfl
theorem dX9_init_0 : decode cX9_init 0 = .ok (.aload_n 0, 1) := by decide +kernel
theorem dX9_init_1 : decode cX9_init 1 = .ok (.invokespecial 3, 3) := by decide +kernel
theorem dX9_init_4 : decode cX9_init 4 = .ok (.aload_n 0, 1) := by decide +kernel
theorem dX9_init_5 : decode cX9_init 5 = .ok (.sipush 1201, 3) := by decide +kernel
theorem dX9_init_8 : decode cX9_init 8 = .ok (.newarray .int, 2) := by decide +kernel
theorem dX9_init_10 : decode cX9_init 10 = .ok (.putfield 9, 3) := by decide +kernel
theorem dX9_init_13 : decode cX9_init 13 = .ok (.aload_n 0, 1) := by decide +kernel
theorem dX9_init_14 : decode cX9_init 14 = .ok (.sipush 1201, 3) := by decide +kernel
theorem dX9_init_17 : decode cX9_init 17 = .ok (.newarray .int, 2) := by decide +kernel
theorem dX9_init_19 : decode cX9_init 19 = .ok (.putfield 15, 3) := by decide +kernel
theorem dX9_init_22 : decode cX9_init 22 = .ok (.aload_n 0, 1) := by decide +kernel
theorem dX9_init_23 : decode cX9_init 23 = .ok (.sipush 1201, 3) := by decide +kernel
theorem dX9_init_26 : decode cX9_init 26 = .ok (.newarray .int, 2) := by decide +kernel
theorem dX9_init_28 : decode cX9_init 28 = .ok (.putfield 18, 3) := by decide +kernel
theorem dX9_init_31 : decode cX9_init 31 = .ok (.return_, 1) := by decide +kernel
set_option maxRecDepth 20000 in
theorem kc_X9_init_39 (d : Nat) {T : CT} {σ : MS} {a : Nat} {K : List Nat} (hraw : T a = (80 + 9, 0)) (hb : WTn T σ) (hcd : CD K T) (hdf : ∀ j, j < 200 → σ.2.1 j (a : Int) = dfF j) : Tn (d + 1) m_X9_init 0 T σ [(0, .ref a)] [] (fun ro T2 σ2 => ro = none ∧ T2 a = (39, 0) ∧ WTn T2 σ2 ∧ CD K T2 ∧ KPx a T σ T2 σ2 ∧ σ2.1 0 = σ.1 0 + (3603 : Nat) ∧ σ2.1 1 = σ.1 1 + (3 : Nat) ∧ NX 7 a T T2 ∧ NX 41 a T T2) := by
  have cx0 : CX a 9 K 0 0 T σ T σ := CX.begin hraw hb hcd
  have nx7 : NX 7 a T T := NX.begin (by decide)
  have nx41 : NX 41 a T T := NX.begin (by decide)
  have f81 : σ.2.1 81 a = -1 := (hdf 81 (by decide)).trans (by decide)
  have f82 : σ.2.1 82 a = -1 := (hdf 82 (by decide)).trans (by decide)
  have f83 : σ.2.1 83 a = -1 := (hdf 83 (by decide)).trans (by decide)
  have f84 : σ.2.1 84 a = 0 := (hdf 84 (by decide)).trans (by decide)
  have f85 : σ.2.1 85 a = 0 := (hdf 85 (by decide)).trans (by decide)
  have f86 : σ.2.1 86 a = 0 := (hdf 86 (by decide)).trans (by decide)
  have f87 : σ.2.1 87 a = 0 := (hdf 87 (by decide)).trans (by decide)
  refine tn_aload_n dX9_init_0 rfl 0 rfl ?_
  refine tn_objInit dX9_init_1 mlo9_3 oiI oiC (by omega) (Nat.le_of_ble_eq_true rfl) ?_
  refine tn_aload_n dX9_init_4 rfl 0 rfl ?_
  refine tn_sipush dX9_init_5 (by decide) ?_
  refine tn_newI (N := 1201) (k := 12) dX9_init_8 arC_int (by decide) rfl (by decide) (fun x1 hx2 => ?_)
  have ne3 := cx0.ne hx2
  obtain ⟨T4, σ5, eT6, eS7, cx8, f81, f82, f83, f84, f85, f86, f87, o9, nx7, nx41⟩ : ∃ (T4 : CT) (σ5 : MS), T4 = (tT T x1 12 1201) ∧ σ5 = (rowS (1000 + x1) (fun _ => 0) (gh 1201 σ)) ∧ CX a 9 K 1201 1 T σ T4 σ5 ∧ (σ5.2.1 81 a = -1) ∧ (σ5.2.1 82 a = -1) ∧ (σ5.2.1 83 a = -1) ∧ (σ5.2.1 84 a = 0) ∧ (σ5.2.1 85 a = 0) ∧ (σ5.2.1 86 a = 0) ∧ (σ5.2.1 87 a = 0) ∧ (T4 x1 = (12, 1201)) ∧ NX 7 a T T4 ∧ NX 41 a T T4 := ⟨_, _, rfl, rfl, (cx0.newI hx2 (by decide)), (by rw [rowS_ne (by omega)]; exact f81), (by rw [rowS_ne (by omega)]; exact f82), (by rw [rowS_ne (by omega)]; exact f83), (by rw [rowS_ne (by omega)]; exact f84), (by rw [rowS_ne (by omega)]; exact f85), (by rw [rowS_ne (by omega)]; exact f86), (by rw [rowS_ne (by omega)]; exact f87), tT_eq, (nx7.mk9 (by decide)), (nx41.mk9 (by decide))⟩
  rw [← eT6]
  rw [← eS7]
  refine tn_putFr (ci := 9) (i := 0) (n := 81) (r := true) (v := (x1 : Int)) tyX9 tyX9_ok nmX9 dX9_init_10 rfl lay_9 (by decide) fl9_9 rfl rfl rfl (tyX9_ok 0 (by decide)) (vl_ref rfl).symm rfl rfl (cx8.r (by decide)) rfl rfl ?_
  obtain ⟨σ11, eS13, cx14, f81, f82, f83, f84, f85, f86, f87⟩ : ∃ (σ11 : MS), σ11 = (sA 81 a ((x1 : Int)) σ5) ∧ CX a 9 K 1201 1 T σ T4 σ11 ∧ (σ11.2.1 81 a = (x1 : Int)) ∧ (σ11.2.1 82 a = -1) ∧ (σ11.2.1 83 a = -1) ∧ (σ11.2.1 84 a = 0) ∧ (σ11.2.1 85 a = 0) ∧ (σ11.2.1 86 a = 0) ∧ (σ11.2.1 87 a = 0) := ⟨_, rfl, (cx8.put (by decide)), ra_eq, (rc_o (by decide) f82), (rc_o (by decide) f83), (rc_o (by decide) f84), (rc_o (by decide) f85), (rc_o (by decide) f86), (rc_o (by decide) f87)⟩
  rw [← eS13]
  refine tn_aload_n dX9_init_13 rfl 0 rfl ?_
  refine tn_sipush dX9_init_14 (by decide) ?_
  refine tn_newI (N := 1201) (k := 22) dX9_init_17 arC_int (by decide) rfl (by decide) (fun x15 hx16 => ?_)
  have ne17 := cx14.ne hx16
  obtain ⟨T18, σ19, eT20, eS21, cx22, f81, f82, f83, f84, f85, f86, f87, o23, o24, nx7, nx41⟩ : ∃ (T18 : CT) (σ19 : MS), T18 = (tT T4 x15 22 1201) ∧ σ19 = (rowS (1000 + x15) (fun _ => 0) (gh 1201 σ11)) ∧ CX a 9 K 2402 2 T σ T18 σ19 ∧ (σ19.2.1 81 a = (x1 : Int)) ∧ (σ19.2.1 82 a = -1) ∧ (σ19.2.1 83 a = -1) ∧ (σ19.2.1 84 a = 0) ∧ (σ19.2.1 85 a = 0) ∧ (σ19.2.1 86 a = 0) ∧ (σ19.2.1 87 a = 0) ∧ (T18 x1 = (12, 1201)) ∧ (T18 x15 = (22, 1201)) ∧ NX 7 a T T18 ∧ NX 41 a T T18 := ⟨_, _, rfl, rfl, (cx14.newI hx16 (by decide)), (by rw [rowS_ne (by omega)]; exact f81), (by rw [rowS_ne (by omega)]; exact f82), (by rw [rowS_ne (by omega)]; exact f83), (by rw [rowS_ne (by omega)]; exact f84), (by rw [rowS_ne (by omega)]; exact f85), (by rw [rowS_ne (by omega)]; exact f86), (by rw [rowS_ne (by omega)]; exact f87), (tk_keep o9 (by decide) hx16), tT_eq, (nx7.mk9 (by decide)), (nx41.mk9 (by decide))⟩
  rw [← eT20]
  rw [← eS21]
  refine tn_putFr (ci := 9) (i := 1) (n := 82) (r := true) (v := (x15 : Int)) tyX9 tyX9_ok nmX9 dX9_init_19 rfl lay_9 (by decide) fl9_15 rfl rfl rfl (tyX9_ok 1 (by decide)) (vl_ref rfl).symm rfl rfl (cx22.r (by decide)) rfl rfl ?_
  obtain ⟨σ26, eS28, cx29, f81, f82, f83, f84, f85, f86, f87⟩ : ∃ (σ26 : MS), σ26 = (sA 82 a ((x15 : Int)) σ19) ∧ CX a 9 K 2402 2 T σ T18 σ26 ∧ (σ26.2.1 81 a = (x1 : Int)) ∧ (σ26.2.1 82 a = (x15 : Int)) ∧ (σ26.2.1 83 a = -1) ∧ (σ26.2.1 84 a = 0) ∧ (σ26.2.1 85 a = 0) ∧ (σ26.2.1 86 a = 0) ∧ (σ26.2.1 87 a = 0) := ⟨_, rfl, (cx22.put (by decide)), (rc_o (by decide) f81), ra_eq, (rc_o (by decide) f83), (rc_o (by decide) f84), (rc_o (by decide) f85), (rc_o (by decide) f86), (rc_o (by decide) f87)⟩
  rw [← eS28]
  refine tn_aload_n dX9_init_22 rfl 0 rfl ?_
  refine tn_sipush dX9_init_23 (by decide) ?_
  refine tn_newI (N := 1201) (k := 23) dX9_init_26 arC_int (by decide) rfl (by decide) (fun x30 hx31 => ?_)
  have ne32 := cx29.ne hx31
  obtain ⟨T33, σ34, eT35, eS36, cx37, f81, f82, f83, f84, f85, f86, f87, o38, o39, o40, nx7, nx41⟩ : ∃ (T33 : CT) (σ34 : MS), T33 = (tT T18 x30 23 1201) ∧ σ34 = (rowS (1000 + x30) (fun _ => 0) (gh 1201 σ26)) ∧ CX a 9 K 3603 3 T σ T33 σ34 ∧ (σ34.2.1 81 a = (x1 : Int)) ∧ (σ34.2.1 82 a = (x15 : Int)) ∧ (σ34.2.1 83 a = -1) ∧ (σ34.2.1 84 a = 0) ∧ (σ34.2.1 85 a = 0) ∧ (σ34.2.1 86 a = 0) ∧ (σ34.2.1 87 a = 0) ∧ (T33 x1 = (12, 1201)) ∧ (T33 x15 = (22, 1201)) ∧ (T33 x30 = (23, 1201)) ∧ NX 7 a T T33 ∧ NX 41 a T T33 := ⟨_, _, rfl, rfl, (cx29.newI hx31 (by decide)), (by rw [rowS_ne (by omega)]; exact f81), (by rw [rowS_ne (by omega)]; exact f82), (by rw [rowS_ne (by omega)]; exact f83), (by rw [rowS_ne (by omega)]; exact f84), (by rw [rowS_ne (by omega)]; exact f85), (by rw [rowS_ne (by omega)]; exact f86), (by rw [rowS_ne (by omega)]; exact f87), (tk_keep o23 (by decide) hx31), (tk_keep o24 (by decide) hx31), tT_eq, (nx7.mk9 (by decide)), (nx41.mk9 (by decide))⟩
  rw [← eT35]
  rw [← eS36]
  refine tn_putFr (ci := 9) (i := 2) (n := 83) (r := true) (v := (x30 : Int)) tyX9 tyX9_ok nmX9 dX9_init_28 rfl lay_9 (by decide) fl9_18 rfl rfl rfl (tyX9_ok 2 (by decide)) (vl_ref rfl).symm rfl rfl (cx37.r (by decide)) rfl rfl ?_
  obtain ⟨σ42, eS44, cx45, f81, f82, f83, f84, f85, f86, f87⟩ : ∃ (σ42 : MS), σ42 = (sA 83 a ((x30 : Int)) σ34) ∧ CX a 9 K 3603 3 T σ T33 σ42 ∧ (σ42.2.1 81 a = (x1 : Int)) ∧ (σ42.2.1 82 a = (x15 : Int)) ∧ (σ42.2.1 83 a = (x30 : Int)) ∧ (σ42.2.1 84 a = 0) ∧ (σ42.2.1 85 a = 0) ∧ (σ42.2.1 86 a = 0) ∧ (σ42.2.1 87 a = 0) := ⟨_, rfl, (cx37.put (by decide)), (rc_o (by decide) f81), (rc_o (by decide) f82), ra_eq, (rc_o (by decide) f84), (rc_o (by decide) f85), (rc_o (by decide) f86), (rc_o (by decide) f87)⟩
  rw [← eS44]
  refine tn_tag (ci := 9) (k := 39) (by decide) cx45.1 (by decide) ?_
  have hf9 : ∀ m, m < 111 → cls m = 9 → FO m 39 T33 (σ42.2.1 m a) := fun m hm9 hc9 => by
    have q9 := clsR_9 m hm9 hc9
    have q8 : m = 81 ∨ m = 82 ∨ m = 83 ∨ m = 84 ∨ m = 85 ∨ m = 86 ∨ m = 87 := by omega
    rcases q8 with q8 | q8 | q8 | q8 | q8 | q8 | q8
    · subst q8; rw [f81]; exact fo_81 (⟨_, rfl, AR.of o38 (by decide) (by decide)⟩)
    · subst q8; rw [f82]; exact fo_82 (⟨_, rfl, AR.of o39 (by decide) (by decide)⟩)
    · subst q8; rw [f83]; exact fo_83 (⟨_, rfl, AR.of o40 (by decide) (by decide)⟩)
    · subst q8; rw [f84]; exact fo_84 (by decide)
    · subst q8; rw [f85]; exact fo_85 (by decide)
    · subst q8; rw [f86]; exact fo_86 (by decide)
    · subst q8; rw [f87]; exact fo_87 (by decide)
  exact tn_vret rfl dX9_init_31 ⟨rfl, tT_eq, cx45.2.1.tag cx45.1 (by decide) hf9 (fun h => absurd h (by decide)), cx45.2.2.1.tag (by rw [cx45.1]; decide) (by decide), cx45.2.2.2.1.tag, cx45.2.2.2.2.1, cx45.2.2.2.2.2, nx7.tag, nx41.tag⟩
