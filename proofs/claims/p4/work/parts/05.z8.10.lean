theorem cd_X6_init : Cond.code yX6_init cX6_init 1 none ∈ pWW := pw2 (List.mem_of_getElem? (i := 33) rfl) rfl
abbrev m_X6_init : MT := (yX6_init, cX6_init, 1, none)
theorem ok_X6_init : pOk m_X6_init := ⟨⟨cd_X6_init, ini_6⟩, by decide +kernel, ⟨by decide +kernel, by decide +kernel⟩, Nat.le_of_ble_eq_true rfl⟩
theorem np_X6_init : (parseMethodDescriptor yX6_init.desc).map (fun d => d.parameters.length) = some 0 := by decide +kernel
theorem im_X6_init : Cond.instanceMethod yX6_init ∈ pWW := pw2 (List.mem_of_getElem? (i := 32) rfl) rfl
theorem mlo6_3 : Cond.methodLink RX6 3 objectInit ∈ pWW := pw2 (List.mem_of_getElem? (i := 34) rfl) rfl
theorem dX6_init_0 : decode cX6_init 0 = .ok (.aload_n 0, 1) := by decide +kernel
theorem dX6_init_1 : decode cX6_init 1 = .ok (.invokespecial 3, 3) := by decide +kernel
theorem dX6_init_4 : decode cX6_init 4 = .ok (.aload_n 0, 1) := by decide +kernel
theorem dX6_init_5 : decode cX6_init 5 = .ok (.sipush 192, 3) := by decide +kernel
theorem dX6_init_8 : decode cX6_init 8 = .ok (.newarray .int, 2) := by decide +kernel
theorem dX6_init_10 : decode cX6_init 10 = .ok (.putfield 9, 3) := by decide +kernel
theorem dX6_init_13 : decode cX6_init 13 = .ok (.aload_n 0, 1) := by decide +kernel
theorem dX6_init_14 : decode cX6_init 14 = .ok (.sipush 192, 3) := by decide +kernel
theorem dX6_init_17 : decode cX6_init 17 = .ok (.newarray .int, 2) := by decide +kernel
theorem dX6_init_19 : decode cX6_init 19 = .ok (.putfield 15, 3) := by decide +kernel
theorem dX6_init_22 : decode cX6_init 22 = .ok (.aload_n 0, 1) := by decide +kernel
theorem dX6_init_23 : decode cX6_init 23 = .ok (.iconst 3, 1) := by decide +kernel
theorem dX6_init_24 : decode cX6_init 24 = .ok (.newarray .long, 2) := by decide +kernel
theorem dX6_init_26 : decode cX6_init 26 = .ok (.putfield 18, 3) := by decide +kernel
theorem dX6_init_29 : decode cX6_init 29 = .ok (.return_, 1) := by decide +kernel
set_option maxRecDepth 20000 in
theorem kc_X6_init_36 (d : Nat) {T : CT} {σ : MS} {a : Nat} {K : List Nat} (hraw : T a = (80 + 6, 0)) (hb : WTn T σ) (hcd : CD K T) (hdf : ∀ j, j < 200 → σ.2.1 j (a : Int) = dfF j) : Tn (d + 1) m_X6_init 0 T σ [(0, .ref a)] [] (fun ro T2 σ2 => ro = none ∧ T2 a = (36, 0) ∧ WTn T2 σ2 ∧ CD K T2 ∧ KPx a T σ T2 σ2 ∧ σ2.1 0 = σ.1 0 + (387 : Nat) ∧ σ2.1 1 = σ.1 1 + (3 : Nat) ∧ NX 7 a T T2 ∧ NX 41 a T T2) := by
  have cx0 : CX a 6 K 0 0 T σ T σ := CX.begin hraw hb hcd
  have nx7 : NX 7 a T T := NX.begin (by decide)
  have nx41 : NX 41 a T T := NX.begin (by decide)
  have f52 : σ.2.1 52 a = -1 := (hdf 52 (by decide)).trans (by decide)
  have f53 : σ.2.1 53 a = -1 := (hdf 53 (by decide)).trans (by decide)
  have f54 : σ.2.1 54 a = -1 := (hdf 54 (by decide)).trans (by decide)
  refine tn_aload_n dX6_init_0 rfl 0 rfl ?_
  refine tn_objInit dX6_init_1 mlo6_3 oiI oiC (by omega) (Nat.le_of_ble_eq_true rfl) ?_
  refine tn_aload_n dX6_init_4 rfl 0 rfl ?_
  refine tn_sipush dX6_init_5 (by decide) ?_
  refine tn_newI (N := 192) (k := 1) dX6_init_8 arC_int (by decide) rfl (by decide) (fun x1 hx2 => ?_)
  have ne3 := cx0.ne hx2
  obtain ⟨T4, σ5, eT6, eS7, cx8, f52, f53, f54, o9, nx7, nx41⟩ : ∃ (T4 : CT) (σ5 : MS), T4 = (tT T x1 1 192) ∧ σ5 = (rowS (1000 + x1) (fun _ => 0) (gh 192 σ)) ∧ CX a 6 K 192 1 T σ T4 σ5 ∧ (σ5.2.1 52 a = -1) ∧ (σ5.2.1 53 a = -1) ∧ (σ5.2.1 54 a = -1) ∧ (T4 x1 = (1, 192)) ∧ NX 7 a T T4 ∧ NX 41 a T T4 := ⟨_, _, rfl, rfl, (cx0.newI hx2 (by decide)), (by rw [rowS_ne (by omega)]; exact f52), (by rw [rowS_ne (by omega)]; exact f53), (by rw [rowS_ne (by omega)]; exact f54), tT_eq, (nx7.mk9 (by decide)), (nx41.mk9 (by decide))⟩
  rw [← eT6]
  rw [← eS7]
  refine tn_putFr (ci := 6) (i := 0) (n := 52) (r := true) (v := (x1 : Int)) tyX6 tyX6_ok nmX6 dX6_init_10 rfl lay_6 (by decide) fl6_9 rfl rfl rfl (tyX6_ok 0 (by decide)) (vl_ref rfl).symm rfl rfl (cx8.r (by decide)) rfl rfl ?_
  obtain ⟨σ11, eS13, cx14, f52, f53, f54⟩ : ∃ (σ11 : MS), σ11 = (sA 52 a ((x1 : Int)) σ5) ∧ CX a 6 K 192 1 T σ T4 σ11 ∧ (σ11.2.1 52 a = (x1 : Int)) ∧ (σ11.2.1 53 a = -1) ∧ (σ11.2.1 54 a = -1) := ⟨_, rfl, (cx8.put (by decide)), ra_eq, (rc_o (by decide) f53), (rc_o (by decide) f54)⟩
  rw [← eS13]
  refine tn_aload_n dX6_init_13 rfl 0 rfl ?_
  refine tn_sipush dX6_init_14 (by decide) ?_
  refine tn_newI (N := 192) (k := 1) dX6_init_17 arC_int (by decide) rfl (by decide) (fun x15 hx16 => ?_)
  have ne17 := cx14.ne hx16
  obtain ⟨T18, σ19, eT20, eS21, cx22, f52, f53, f54, o23, o24, nx7, nx41⟩ : ∃ (T18 : CT) (σ19 : MS), T18 = (tT T4 x15 1 192) ∧ σ19 = (rowS (1000 + x15) (fun _ => 0) (gh 192 σ11)) ∧ CX a 6 K 384 2 T σ T18 σ19 ∧ (σ19.2.1 52 a = (x1 : Int)) ∧ (σ19.2.1 53 a = -1) ∧ (σ19.2.1 54 a = -1) ∧ (T18 x1 = (1, 192)) ∧ (T18 x15 = (1, 192)) ∧ NX 7 a T T18 ∧ NX 41 a T T18 := ⟨_, _, rfl, rfl, (cx14.newI hx16 (by decide)), (by rw [rowS_ne (by omega)]; exact f52), (by rw [rowS_ne (by omega)]; exact f53), (by rw [rowS_ne (by omega)]; exact f54), (tk_keep o9 (by decide) hx16), tT_eq, (nx7.mk9 (by decide)), (nx41.mk9 (by decide))⟩
  rw [← eT20]
  rw [← eS21]
  refine tn_putFr (ci := 6) (i := 1) (n := 53) (r := true) (v := (x15 : Int)) tyX6 tyX6_ok nmX6 dX6_init_19 rfl lay_6 (by decide) fl6_15 rfl rfl rfl (tyX6_ok 1 (by decide)) (vl_ref rfl).symm rfl rfl (cx22.r (by decide)) rfl rfl ?_
  obtain ⟨σ26, eS28, cx29, f52, f53, f54⟩ : ∃ (σ26 : MS), σ26 = (sA 53 a ((x15 : Int)) σ19) ∧ CX a 6 K 384 2 T σ T18 σ26 ∧ (σ26.2.1 52 a = (x1 : Int)) ∧ (σ26.2.1 53 a = (x15 : Int)) ∧ (σ26.2.1 54 a = -1) := ⟨_, rfl, (cx22.put (by decide)), (rc_o (by decide) f52), ra_eq, (rc_o (by decide) f54)⟩
  rw [← eS28]
  refine tn_aload_n dX6_init_22 rfl 0 rfl ?_
  refine tn_iconst dX6_init_23 ?_
  refine tn_newJ (N := 3) dX6_init_24 arC_long rfl (by decide) (fun x30 hx31 => ?_)
  have ne32 := cx29.ne hx31
  obtain ⟨T33, σ34, eT35, eS36, cx37, f52, f53, f54, o38, o39, o40, nx7, nx41⟩ : ∃ (T33 : CT) (σ34 : MS), T33 = (tT T18 x30 3 3) ∧ σ34 = (rowL x30 (fun _ => 0) (gh 3 σ26)) ∧ CX a 6 K 387 3 T σ T33 σ34 ∧ (σ34.2.1 52 a = (x1 : Int)) ∧ (σ34.2.1 53 a = (x15 : Int)) ∧ (σ34.2.1 54 a = -1) ∧ (T33 x1 = (1, 192)) ∧ (T33 x15 = (1, 192)) ∧ (T33 x30 = (3, 3)) ∧ NX 7 a T T33 ∧ NX 41 a T T33 := ⟨_, _, rfl, rfl, (cx29.newJ hx31), f52, f53, f54, (tk_keep o23 (by decide) hx31), (tk_keep o24 (by decide) hx31), tT_eq, (nx7.mk9 (by decide)), (nx41.mk9 (by decide))⟩
  rw [← eT35]
  rw [← eS36]
  refine tn_putFr (ci := 6) (i := 2) (n := 54) (r := true) (v := (x30 : Int)) tyX6 tyX6_ok nmX6 dX6_init_26 rfl lay_6 (by decide) fl6_18 rfl rfl rfl (tyX6_ok 2 (by decide)) (vl_ref rfl).symm rfl rfl (cx37.r (by decide)) rfl rfl ?_
  obtain ⟨σ42, eS44, cx45, f52, f53, f54⟩ : ∃ (σ42 : MS), σ42 = (sA 54 a ((x30 : Int)) σ34) ∧ CX a 6 K 387 3 T σ T33 σ42 ∧ (σ42.2.1 52 a = (x1 : Int)) ∧ (σ42.2.1 53 a = (x15 : Int)) ∧ (σ42.2.1 54 a = (x30 : Int)) := ⟨_, rfl, (cx37.put (by decide)), (rc_o (by decide) f52), (rc_o (by decide) f53), ra_eq⟩
  rw [← eS44]
  refine tn_tag (ci := 6) (k := 36) (by decide) cx45.1 (by decide) ?_
  have hf9 : ∀ m, m < 111 → cls m = 6 → FO m 36 T33 (σ42.2.1 m a) := fun m hm9 hc9 => by
    have q9 := clsR_6 m hm9 hc9
    have q8 : m = 52 ∨ m = 53 ∨ m = 54 := by omega
    rcases q8 with q8 | q8 | q8
    · subst q8; rw [f52]; exact fo_52 (⟨_, rfl, AR.of o38 (by decide) (by decide)⟩)
    · subst q8; rw [f53]; exact fo_53 (⟨_, rfl, AR.of o39 (by decide) (by decide)⟩)
    · subst q8; rw [f54]; exact fo_54 (⟨_, rfl, AR.of o40 (by decide) (by decide)⟩)
  exact tn_vret rfl dX6_init_29 ⟨rfl, tT_eq, cx45.2.1.tag cx45.1 (by decide) hf9 (fun h => absurd h (by decide)), cx45.2.2.1.tag (by rw [cx45.1]; decide) (by decide), cx45.2.2.2.1.tag, cx45.2.2.2.2.1, cx45.2.2.2.2.2, nx7.tag, nx41.tag⟩
