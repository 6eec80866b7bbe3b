section
theorem cd_X0_init : Cond.code yX0_init cX0_init 3 none ∈ pWW := pw6 (List.mem_of_getElem? (i := 176) rfl) rfl
abbrev m_X0_init : MT := (yX0_init, cX0_init, 3, none)
theorem ok_X0_init : pOk m_X0_init := ⟨⟨cd_X0_init, ini_0⟩, by decide +kernel, ⟨by decide +kernel, by decide +kernel⟩, Nat.le_of_ble_eq_true rfl⟩
theorem np_X0_init : (parseMethodDescriptor yX0_init.desc).map (fun d => d.parameters.length) = some 2 := by decide +kernel
theorem im_X0_init : Cond.instanceMethod yX0_init ∈ pWW := pw6 (List.mem_of_getElem? (i := 175) rfl) rfl
theorem mlo0_3 : Cond.methodLink RX0 3 objectInit ∈ pWW := pw6 (List.mem_of_getElem? (i := 177) rfl) rfl
theorem cl0_9 : Cond.classLink RX0 9 RX7 ∈ pWW := pw6 (List.mem_of_getElem? (i := 178) rfl) rfl
theorem ist_7 : Cond.instantiable RX7 17 ∈ pWW := pw2 (List.mem_of_getElem? (i := 128) rfl) rfl
theorem ml0_11 : Cond.methodLink RX0 11 yX7_init ∈ pWW := pw6 (List.mem_of_getElem? (i := 179) rfl) rfl
theorem dX0_init_0 : decode cX0_init 0 = .ok (.aload_n 0, 1) := by decide +kernel
theorem dX0_init_1 : decode cX0_init 1 = .ok (.invokespecial 3, 3) := by decide +kernel
theorem dX0_init_4 : decode cX0_init 4 = .ok (.aload_n 0, 1) := by decide +kernel
theorem dX0_init_5 : decode cX0_init 5 = .ok (.new 9, 3) := by decide +kernel
theorem dX0_init_8 : decode cX0_init 8 = .ok (.dup, 1) := by decide +kernel
theorem dX0_init_9 : decode cX0_init 9 = .ok (.aload_n 1, 1) := by decide +kernel
theorem dX0_init_10 : decode cX0_init 10 = .ok (.invokespecial 11, 3) := by decide +kernel
theorem dX0_init_13 : decode cX0_init 13 = .ok (.putfield 14, 3) := by decide +kernel
theorem dX0_init_16 : decode cX0_init 16 = .ok (.aload_n 0, 1) := by decide +kernel
theorem dX0_init_17 : decode cX0_init 17 = .ok (.new 9, 3) := by decide +kernel
theorem dX0_init_20 : decode cX0_init 20 = .ok (.dup, 1) := by decide +kernel
theorem dX0_init_21 : decode cX0_init 21 = .ok (.aload_n 2, 1) := by decide +kernel
theorem dX0_init_22 : decode cX0_init 22 = .ok (.invokespecial 11, 3) := by decide +kernel
theorem dX0_init_25 : decode cX0_init 25 = .ok (.putfield 20, 3) := by decide +kernel
theorem dX0_init_28 : decode cX0_init 28 = .ok (.return_, 1) := by decide +kernel
set_option maxRecDepth 20000 in
theorem kc_X0_init_30 (d : Nat) {T : CT} {σ : MS} {a : Nat} {K : List Nat} {cs : Nat} {mc : Nat} (hraw : T a = (80 + 0, 0)) (hb : WTn T σ) (hcd : CD K T) (hdf : ∀ j, j < 200 → σ.2.1 j (a : Int) = dfF j) (h_cs : T cs = (5, 6)) (h_mc : T mc = (4, 6)) : Tn (d + 2) m_X0_init 0 T σ [(0, .ref a), (1, .ref cs), (2, .ref mc)] [] (fun ro T2 σ2 => ro = none ∧ T2 a = (30, 0) ∧ WTn T2 σ2 ∧ CD K T2 ∧ KPx a T σ T2 σ2 ∧ σ2.1 0 = σ.1 0 + (4160 : Nat) ∧ σ2.1 1 = σ.1 1 + (14 : Nat) ∧ NX 7 a T T2 ∧ NX 41 a T T2 ∧ ∃ t : Nat, σ2.2.1 0 (a : Int) = (t : Int) ∧ (T t).1 = 0) := by
  have cx0 : CX a 0 K 0 0 T σ T σ := CX.begin hraw hb hcd
  have nx7 : NX 7 a T T := NX.begin (by decide)
  have nx41 : NX 41 a T T := NX.begin (by decide)
  have f0 : σ.2.1 0 a = -1 := (hdf 0 (by decide)).trans (by decide)
  have f1 : σ.2.1 1 a = -1 := (hdf 1 (by decide)).trans (by decide)
  have f2 : σ.2.1 2 a = 0 := (hdf 2 (by decide)).trans (by decide)
  have f3 : σ.2.1 3 a = 0 := (hdf 3 (by decide)).trans (by decide)
  have f4 : σ.2.1 4 a = 0 := (hdf 4 (by decide)).trans (by decide)
  refine tn_aload_n dX0_init_0 rfl 0 rfl ?_
  refine tn_objInit dX0_init_1 mlo0_3 oiI oiC (by omega) (Nat.le_of_ble_eq_true rfl) ?_
  refine tn_aload_n dX0_init_4 rfl 0 rfl ?_
  refine tn_newO (ci := 7) (N := 17) tyX7 tyX7_ok dX0_init_5 rfl lay_7 cl0_9 ist_7 ini_7 df_7 rfl (by decide) hfd_7 (fun x1 hx2 => ?_)
  have ne3 := cx0.ne hx2
  have df4z := (cx0.fresh hx2).resolve_right (fun e => ne3 e.symm)
  have df4 : ∀ j, j < 200 → (objS x1 (gh 17 σ)).2.1 j (x1 : Int) = dfF j := fun j hj => objS_eq hj
  obtain ⟨T5, σ6, eT7, eS8, cx9, f0, f1, f2, f3, f4, o10, o11, o12, nx7, nx41⟩ : ∃ (T5 : CT) (σ6 : MS), T5 = (tT T x1 (80 + 7) 0) ∧ σ6 = (objS x1 (gh 17 σ)) ∧ CX a 0 K 17 1 T σ T5 σ6 ∧ (σ6.2.1 0 a = -1) ∧ (σ6.2.1 1 a = -1) ∧ (σ6.2.1 2 a = 0) ∧ (σ6.2.1 3 a = 0) ∧ (σ6.2.1 4 a = 0) ∧ (T5 cs = (5, 6)) ∧ (T5 mc = (4, 6)) ∧ (T5 x1 = (87, 0)) ∧ NX 7 a T T5 ∧ NX 41 a T T5 := ⟨_, _, rfl, rfl, (cx0.newO hx2 (by decide)), (by rw [objS_ne (by omega)]; exact f0), (by rw [objS_ne (by omega)]; exact f1), (by rw [objS_ne (by omega)]; exact f2), (by rw [objS_ne (by omega)]; exact f3), (by rw [objS_ne (by omega)]; exact f4), (tk_keep h_cs (by decide) hx2), (tk_keep h_mc (by decide) hx2), tT_eq, (nx7.mk9 (by decide)), (nx41.mk9 (by decide))⟩
  rw [← eT7]
  rw [← eS8]
  rw [← eS8] at df4
  refine tn_dup dX0_init_8 rfl ?_
  refine tn_aload_n dX0_init_9 rfl 1 rfl ?_
  refine tn_callI (M := m_X0_init) (pc := 10) (ix := 11) (M' := m_X7_init) (As := [.ref cs]) (rest := [.ref x1, .ref a]) dX0_init_10 ok_X7_init rfl rfl im_X7_init ml0_11 np_X7_init rfl (Nat.le_of_ble_eq_true rfl) (Nat.le_of_ble_eq_true rfl) rfl (kc_X7_init_37 (d) (T := T5) (σ := σ6) (a := x1) (K := K) (cs := cs) o12 cx9.2.1 cx9.2.2.1 df4 o10) (fun r13 T14 σ15 gt16 hp => ?_)
  obtain ⟨rfl, hr17, w18, cd19, kp20, ga21, gb22, hr17n7, hr17n41, -⟩ := hp
  have ne3b : a ≠ x1 := ne_of cx9.1 o12 (by decide)
  have kp20a := kp20.1 a (by rw [cx9.1]; decide) ne3b
  obtain ⟨T23, σ24, eT25, eS26, cx27, f0, f1, f2, f3, f4, o28, o29, o30, nx7, nx41⟩ : ∃ (T23 : CT) (σ24 : MS), T23 = T14 ∧ σ24 = σ15 ∧ CX a 0 K 2080 7 T σ T23 σ24 ∧ (σ24.2.1 0 a = -1) ∧ (σ24.2.1 1 a = -1) ∧ (σ24.2.1 2 a = 0) ∧ (σ24.2.1 3 a = 0) ∧ (σ24.2.1 4 a = 0) ∧ (T23 cs = (5, 6)) ∧ (T23 mc = (4, 6)) ∧ (T23 x1 = (37, 0)) ∧ NX 7 a T T23 ∧ NX 41 a T T23 := ⟨_, _, rfl, rfl, (cx9.call ne3b w18 cd19 kp20 ga21 gb22 df4z), ((kp20a.2.1 0 (by decide)).trans f0), ((kp20a.2.1 1 (by decide)).trans f1), ((kp20a.2.1 2 (by decide)).trans f2), ((kp20a.2.1 3 (by decide)).trans f3), ((kp20a.2.1 4 (by decide)).trans f4), ((kp20.1 cs (by rw [o10]; decide) (ne_of o10 o12 (by decide))).1.trans o10), ((kp20.1 mc (by rw [o11]; decide) (ne_of o11 o12 (by decide))).1.trans o11), hr17, (nx7.call kp20 hr17 (by decide) hr17n7), (nx41.call kp20 hr17 (by decide) hr17n41)⟩
  rw [← eT25]
  rw [← eS26]
  show Tn _ _ 13 T23 σ24 [(0, .ref a), (1, .ref cs), (2, .ref mc)] [.ref x1, .ref a] _
  refine tn_putFr (ci := 0) (i := 0) (n := 0) (r := true) (v := (x1 : Int)) tyX0 tyX0_ok nmX0 dX0_init_13 rfl lay_0 (by decide) fl0_14 rfl rfl rfl (tyX0_ok 0 (by decide)) (vl_ref rfl).symm rfl rfl (cx27.r (by decide)) rfl rfl ?_
  obtain ⟨σ32, eS34, cx35, f0, f1, f2, f3, f4⟩ : ∃ (σ32 : MS), σ32 = (sA 0 a ((x1 : Int)) σ24) ∧ CX a 0 K 2080 7 T σ T23 σ32 ∧ (σ32.2.1 0 a = (x1 : Int)) ∧ (σ32.2.1 1 a = -1) ∧ (σ32.2.1 2 a = 0) ∧ (σ32.2.1 3 a = 0) ∧ (σ32.2.1 4 a = 0) := ⟨_, rfl, (cx27.put (by decide)), ra_eq, (rc_o (by decide) f1), (rc_o (by decide) f2), (rc_o (by decide) f3), (rc_o (by decide) f4)⟩
  rw [← eS34]
  refine tn_aload_n dX0_init_16 rfl 0 rfl ?_
  refine tn_newO (ci := 7) (N := 17) tyX7 tyX7_ok dX0_init_17 rfl lay_7 cl0_9 ist_7 ini_7 df_7 rfl (by decide) hfd_7 (fun x36 hx37 => ?_)
  have ne38 := cx35.ne hx37
  have df39z := (cx35.fresh hx37).resolve_right (fun e => ne38 e.symm)
  have df39 : ∀ j, j < 200 → (objS x36 (gh 17 σ32)).2.1 j (x36 : Int) = dfF j := fun j hj => objS_eq hj
  obtain ⟨T40, σ41, eT42, eS43, cx44, f0, f1, f2, f3, f4, o45, o46, o47, o48, nx7, nx41⟩ : ∃ (T40 : CT) (σ41 : MS), T40 = (tT T23 x36 (80 + 7) 0) ∧ σ41 = (objS x36 (gh 17 σ32)) ∧ CX a 0 K 2097 8 T σ T40 σ41 ∧ (σ41.2.1 0 a = (x1 : Int)) ∧ (σ41.2.1 1 a = -1) ∧ (σ41.2.1 2 a = 0) ∧ (σ41.2.1 3 a = 0) ∧ (σ41.2.1 4 a = 0) ∧ (T40 cs = (5, 6)) ∧ (T40 mc = (4, 6)) ∧ (T40 x1 = (37, 0)) ∧ (T40 x36 = (87, 0)) ∧ NX 7 a T T40 ∧ NX 41 a T T40 := ⟨_, _, rfl, rfl, (cx35.newO hx37 (by decide)), (by rw [objS_ne (by omega)]; exact f0), (by rw [objS_ne (by omega)]; exact f1), (by rw [objS_ne (by omega)]; exact f2), (by rw [objS_ne (by omega)]; exact f3), (by rw [objS_ne (by omega)]; exact f4), (tk_keep o28 (by decide) hx37), (tk_keep o29 (by decide) hx37), (tk_keep o30 (by decide) hx37), tT_eq, (nx7.mk9 (by decide)), (nx41.mk9 (by decide))⟩
  rw [← eT42]
  rw [← eS43]
  rw [← eS43] at df39
  refine tn_dup dX0_init_20 rfl ?_
  refine tn_aload_n dX0_init_21 rfl 2 rfl ?_
  refine tn_callI (M := m_X0_init) (pc := 22) (ix := 11) (M' := m_X7_init) (As := [.ref mc]) (rest := [.ref x36, .ref a]) dX0_init_22 ok_X7_init rfl rfl im_X7_init ml0_11 np_X7_init rfl (Nat.le_of_ble_eq_true rfl) (Nat.le_of_ble_eq_true rfl) rfl (kc_X7_init_57 (d) (T := T40) (σ := σ41) (a := x36) (K := K) (cs := mc) o48 cx44.2.1 cx44.2.2.1 df39 o46) (fun r49 T50 σ51 gt52 hp => ?_)
  obtain ⟨rfl, hr53, w54, cd55, kp56, ga57, gb58, hr53n7, hr53n41, -⟩ := hp
  have ne38b : a ≠ x36 := ne_of cx44.1 o48 (by decide)
  have kp56a := kp56.1 a (by rw [cx44.1]; decide) ne38b
  obtain ⟨T59, σ60, eT61, eS62, cx63, f0, f1, f2, f3, f4, o64, o65, o66, o67, nx7, nx41⟩ : ∃ (T59 : CT) (σ60 : MS), T59 = T50 ∧ σ60 = σ51 ∧ CX a 0 K 4160 14 T σ T59 σ60 ∧ (σ60.2.1 0 a = (x1 : Int)) ∧ (σ60.2.1 1 a = -1) ∧ (σ60.2.1 2 a = 0) ∧ (σ60.2.1 3 a = 0) ∧ (σ60.2.1 4 a = 0) ∧ (T59 cs = (5, 6)) ∧ (T59 mc = (4, 6)) ∧ (T59 x1 = (37, 0)) ∧ (T59 x36 = (57, 0)) ∧ NX 7 a T T59 ∧ NX 41 a T T59 := ⟨_, _, rfl, rfl, (cx44.call ne38b w54 cd55 kp56 ga57 gb58 df39z), ((kp56a.2.1 0 (by decide)).trans f0), ((kp56a.2.1 1 (by decide)).trans f1), ((kp56a.2.1 2 (by decide)).trans f2), ((kp56a.2.1 3 (by decide)).trans f3), ((kp56a.2.1 4 (by decide)).trans f4), ((kp56.1 cs (by rw [o45]; decide) (ne_of o45 o48 (by decide))).1.trans o45), ((kp56.1 mc (by rw [o46]; decide) (ne_of o46 o48 (by decide))).1.trans o46), ((kp56.1 x1 (by rw [o47]; decide) (ne_of o47 o48 (by decide))).1.trans o47), hr53, (nx7.call kp56 hr53 (by decide) hr53n7), (nx41.call kp56 hr53 (by decide) hr53n41)⟩
  rw [← eT61]
  rw [← eS62]
  show Tn _ _ 25 T59 σ60 [(0, .ref a), (1, .ref cs), (2, .ref mc)] [.ref x36, .ref a] _
  refine tn_putFr (ci := 0) (i := 1) (n := 1) (r := true) (v := (x36 : Int)) tyX0 tyX0_ok nmX0 dX0_init_25 rfl lay_0 (by decide) fl0_20 rfl rfl rfl (tyX0_ok 1 (by decide)) (vl_ref rfl).symm rfl rfl (cx63.r (by decide)) rfl rfl ?_
  obtain ⟨σ69, eS71, cx72, f0, f1, f2, f3, f4⟩ : ∃ (σ69 : MS), σ69 = (sA 1 a ((x36 : Int)) σ60) ∧ CX a 0 K 4160 14 T σ T59 σ69 ∧ (σ69.2.1 0 a = (x1 : Int)) ∧ (σ69.2.1 1 a = (x36 : Int)) ∧ (σ69.2.1 2 a = 0) ∧ (σ69.2.1 3 a = 0) ∧ (σ69.2.1 4 a = 0) := ⟨_, rfl, (cx63.put (by decide)), (rc_o (by decide) f0), ra_eq, (rc_o (by decide) f2), (rc_o (by decide) f3), (rc_o (by decide) f4)⟩
  rw [← eS71]
  refine tn_tag (ci := 0) (k := 30) (by decide) cx72.1 (by decide) ?_
  have hf9 : ∀ m, m < 111 → cls m = 0 → FO m 30 T59 (σ69.2.1 m a) := fun m hm9 hc9 => by
    have q9 := clsR_0 m hm9 hc9
    have q8 : m = 0 ∨ m = 1 ∨ m = 2 ∨ m = 3 ∨ m = 4 := by omega
    rcases q8 with q8 | q8 | q8 | q8 | q8
    · subst q8; rw [f0]; exact fo_0 (⟨_, rfl, tg1 o66⟩)
    · subst q8; rw [f1]; exact fo_1 (⟨_, rfl, tg1 o67⟩)
    · subst q8; rw [f2]; exact fo_2 (by decide)
    · subst q8; rw [f3]; exact fo_3 (by decide)
    · subst q8; rw [f4]; exact fo_4 (by decide)
  exact tn_vret rfl dX0_init_28 ⟨rfl, tT_eq, cx72.2.1.tag cx72.1 (by decide) hf9 (fun h => absurd h (by decide)), cx72.2.2.1.tag (by rw [cx72.1]; decide) (by decide), cx72.2.2.2.1.tag, cx72.2.2.2.2.1, cx72.2.2.2.2.2, nx7.tag, nx41.tag, ⟨_, f0, df4z⟩⟩
end
section
theorem cd_X3_init : Cond.code yX3_init cX3_init 1 none ∈ pWW := pw1 (List.mem_of_getElem? (i := 218) rfl) rfl
abbrev m_X3_init : MT := (yX3_init, cX3_init, 1, none)
theorem ok_X3_init : pOk m_X3_init := ⟨⟨cd_X3_init, ini_3⟩, by decide +kernel, ⟨by decide +kernel, by decide +kernel⟩, Nat.le_of_ble_eq_true rfl⟩
theorem np_X3_init : (parseMethodDescriptor yX3_init.desc).map (fun d => d.parameters.length) = some 0 := by decide +kernel
theorem im_X3_init : Cond.instanceMethod yX3_init ∈ pWW := pw1 (List.mem_of_getElem? (i := 217) rfl) rfl
theorem mlo3_3 : Cond.methodLink RX3 3 objectInit ∈ pWW := pw1 (List.mem_of_getElem? (i := 219) rfl) rfl
theorem dX3_init_0 : decode cX3_init 0 = .ok (.aload_n 0, 1) := by decide +kernel
theorem dX3_init_1 : decode cX3_init 1 = .ok (.invokespecial 3, 3) := by decide +kernel
theorem dX3_init_4 : decode cX3_init 4 = .ok (.aload_n 0, 1) := by decide +kernel
theorem dX3_init_5 : decode cX3_init 5 = .ok (.sipush 603, 3) := by decide +kernel
theorem dX3_init_8 : decode cX3_init 8 = .ok (.newarray .long, 2) := by decide +kernel
theorem dX3_init_10 : decode cX3_init 10 = .ok (.putfield 9, 3) := by decide +kernel
theorem dX3_init_13 : decode cX3_init 13 = .ok (.aload_n 0, 1) := by decide +kernel
theorem dX3_init_14 : decode cX3_init 14 = .ok (.iconst 3, 1) := by decide +kernel
theorem dX3_init_15 : decode cX3_init 15 = .ok (.newarray .long, 2) := by decide +kernel
theorem dX3_init_17 : decode cX3_init 17 = .ok (.putfield 15, 3) := by decide +kernel
theorem dX3_init_20 : decode cX3_init 20 = .ok (.aload_n 0, 1) := by decide +kernel
theorem dX3_init_21 : decode cX3_init 21 = .ok (.sipush 201, 3) := by decide +kernel
theorem dX3_init_24 : decode cX3_init 24 = .ok (.newarray .int, 2) := by decide +kernel
theorem dX3_init_26 : decode cX3_init 26 = .ok (.putfield 18, 3) := by decide +kernel
theorem dX3_init_29 : decode cX3_init 29 = .ok (.aload_n 0, 1) := by decide +kernel
theorem dX3_init_30 : decode cX3_init 30 = .ok (.sipush 201, 3) := by decide +kernel
theorem dX3_init_33 : decode cX3_init 33 = .ok (.newarray .int, 2) := by decide +kernel
theorem dX3_init_35 : decode cX3_init 35 = .ok (.putfield 22, 3) := by decide +kernel
theorem dX3_init_38 : decode cX3_init 38 = .ok (.return_, 1) := by decide +kernel
set_option maxRecDepth 20000 in
theorem kc_X3_init_33 (d : Nat) {T : CT} {σ : MS} {a : Nat} {K : List Nat} (hraw : T a = (80 + 3, 0)) (hb : WTn T σ) (hcd : CD K T) (hdf : ∀ j, j < 200 → σ.2.1 j (a : Int) = dfF j) : Tn (d + 1) m_X3_init 0 T σ [(0, .ref a)] [] (fun ro T2 σ2 => ro = none ∧ T2 a = (33, 0) ∧ WTn T2 σ2 ∧ CD K T2 ∧ KPx a T σ T2 σ2 ∧ σ2.1 0 = σ.1 0 + (1008 : Nat) ∧ σ2.1 1 = σ.1 1 + (4 : Nat) ∧ NX 7 a T T2 ∧ NX 41 a T T2) := by
  have cx0 : CX a 3 K 0 0 T σ T σ := CX.begin hraw hb hcd
  have nx7 : NX 7 a T T := NX.begin (by decide)
  have nx41 : NX 41 a T T := NX.begin (by decide)
  have f18 : σ.2.1 18 a = -1 := (hdf 18 (by decide)).trans (by decide)
  have f19 : σ.2.1 19 a = -1 := (hdf 19 (by decide)).trans (by decide)
  have f20 : σ.2.1 20 a = -1 := (hdf 20 (by decide)).trans (by decide)
  have f21 : σ.2.1 21 a = -1 := (hdf 21 (by decide)).trans (by decide)
  have f22 : σ.2.1 22 a = 0 := (hdf 22 (by decide)).trans (by decide)
  refine tn_aload_n dX3_init_0 rfl 0 rfl ?_
  refine tn_objInit dX3_init_1 mlo3_3 oiI oiC (by omega) (Nat.le_of_ble_eq_true rfl) ?_
  refine tn_aload_n dX3_init_4 rfl 0 rfl ?_
  refine tn_sipush dX3_init_5 (by decide) ?_
  refine tn_newJ (N := 603) dX3_init_8 arC_long rfl (by decide) (fun x1 hx2 => ?_)
  have ne3 := cx0.ne hx2
  obtain ⟨T4, σ5, eT6, eS7, cx8, f18, f19, f20, f21, f22, o9, nx7, nx41⟩ : ∃ (T4 : CT) (σ5 : MS), T4 = (tT T x1 3 603) ∧ σ5 = (rowL x1 (fun _ => 0) (gh 603 σ)) ∧ CX a 3 K 603 1 T σ T4 σ5 ∧ (σ5.2.1 18 a = -1) ∧ (σ5.2.1 19 a = -1) ∧ (σ5.2.1 20 a = -1) ∧ (σ5.2.1 21 a = -1) ∧ (σ5.2.1 22 a = 0) ∧ (T4 x1 = (3, 603)) ∧ NX 7 a T T4 ∧ NX 41 a T T4 := ⟨_, _, rfl, rfl, (cx0.newJ hx2), f18, f19, f20, f21, f22, tT_eq, (nx7.mk9 (by decide)), (nx41.mk9 (by decide))⟩
  rw [← eT6]
  rw [← eS7]
  refine tn_putFr (ci := 3) (i := 0) (n := 18) (r := true) (v := (x1 : Int)) tyX3 tyX3_ok nmX3 dX3_init_10 rfl lay_3 (by decide) fl3_9 rfl rfl rfl (tyX3_ok 0 (by decide)) (vl_ref rfl).symm rfl rfl (cx8.r (by decide)) rfl rfl ?_
  obtain ⟨σ11, eS13, cx14, f18, f19, f20, f21, f22⟩ : ∃ (σ11 : MS), σ11 = (sA 18 a ((x1 : Int)) σ5) ∧ CX a 3 K 603 1 T σ T4 σ11 ∧ (σ11.2.1 18 a = (x1 : Int)) ∧ (σ11.2.1 19 a = -1) ∧ (σ11.2.1 20 a = -1) ∧ (σ11.2.1 21 a = -1) ∧ (σ11.2.1 22 a = 0) := ⟨_, rfl, (cx8.put (by decide)), ra_eq, (rc_o (by decide) f19), (rc_o (by decide) f20), (rc_o (by decide) f21), (rc_o (by decide) f22)⟩
  rw [← eS13]
  refine tn_aload_n dX3_init_13 rfl 0 rfl ?_
  refine tn_iconst dX3_init_14 ?_
  refine tn_newJ (N := 3) dX3_init_15 arC_long rfl (by decide) (fun x15 hx16 => ?_)
  have ne17 := cx14.ne hx16
  obtain ⟨T18, σ19, eT20, eS21, cx22, f18, f19, f20, f21, f22, o23, o24, nx7, nx41⟩ : ∃ (T18 : CT) (σ19 : MS), T18 = (tT T4 x15 3 3) ∧ σ19 = (rowL x15 (fun _ => 0) (gh 3 σ11)) ∧ CX a 3 K 606 2 T σ T18 σ19 ∧ (σ19.2.1 18 a = (x1 : Int)) ∧ (σ19.2.1 19 a = -1) ∧ (σ19.2.1 20 a = -1) ∧ (σ19.2.1 21 a = -1) ∧ (σ19.2.1 22 a = 0) ∧ (T18 x1 = (3, 603)) ∧ (T18 x15 = (3, 3)) ∧ NX 7 a T T18 ∧ NX 41 a T T18 := ⟨_, _, rfl, rfl, (cx14.newJ hx16), f18, f19, f20, f21, f22, (tk_keep o9 (by decide) hx16), tT_eq, (nx7.mk9 (by decide)), (nx41.mk9 (by decide))⟩
  rw [← eT20]
  rw [← eS21]
  refine tn_putFr (ci := 3) (i := 1) (n := 19) (r := true) (v := (x15 : Int)) tyX3 tyX3_ok nmX3 dX3_init_17 rfl lay_3 (by decide) fl3_15 rfl rfl rfl (tyX3_ok 1 (by decide)) (vl_ref rfl).symm rfl rfl (cx22.r (by decide)) rfl rfl ?_
  obtain ⟨σ26, eS28, cx29, f18, f19, f20, f21, f22⟩ : ∃ (σ26 : MS), σ26 = (sA 19 a ((x15 : Int)) σ19) ∧ CX a 3 K 606 2 T σ T18 σ26 ∧ (σ26.2.1 18 a = (x1 : Int)) ∧ (σ26.2.1 19 a = (x15 : Int)) ∧ (σ26.2.1 20 a = -1) ∧ (σ26.2.1 21 a = -1) ∧ (σ26.2.1 22 a = 0) := ⟨_, rfl, (cx22.put (by decide)), (rc_o (by decide) f18), ra_eq, (rc_o (by decide) f20), (rc_o (by decide) f21), (rc_o (by decide) f22)⟩
  rw [← eS28]
  refine tn_aload_n dX3_init_20 rfl 0 rfl ?_
  refine tn_sipush dX3_init_21 (by decide) ?_
  refine tn_newI (N := 201) (k := 1) dX3_init_24 arC_int (by decide) rfl (by decide) (fun x30 hx31 => ?_)
  have ne32 := cx29.ne hx31
  obtain ⟨T33, σ34, eT35, eS36, cx37, f18, f19, f20, f21, f22, o38, o39, o40, nx7, nx41⟩ : ∃ (T33 : CT) (σ34 : MS), T33 = (tT T18 x30 1 201) ∧ σ34 = (rowS (1000 + x30) (fun _ => 0) (gh 201 σ26)) ∧ CX a 3 K 807 3 T σ T33 σ34 ∧ (σ34.2.1 18 a = (x1 : Int)) ∧ (σ34.2.1 19 a = (x15 : Int)) ∧ (σ34.2.1 20 a = -1) ∧ (σ34.2.1 21 a = -1) ∧ (σ34.2.1 22 a = 0) ∧ (T33 x1 = (3, 603)) ∧ (T33 x15 = (3, 3)) ∧ (T33 x30 = (1, 201)) ∧ NX 7 a T T33 ∧ NX 41 a T T33 := ⟨_, _, rfl, rfl, (cx29.newI hx31 (by decide)), (by rw [rowS_ne (by omega)]; exact f18), (by rw [rowS_ne (by omega)]; exact f19), (by rw [rowS_ne (by omega)]; exact f20), (by rw [rowS_ne (by omega)]; exact f21), (by rw [rowS_ne (by omega)]; exact f22), (tk_keep o23 (by decide) hx31), (tk_keep o24 (by decide) hx31), tT_eq, (nx7.mk9 (by decide)), (nx41.mk9 (by decide))⟩
  rw [← eT35]
  rw [← eS36]
  refine tn_putFr (ci := 3) (i := 2) (n := 20) (r := true) (v := (x30 : Int)) tyX3 tyX3_ok nmX3 dX3_init_26 rfl lay_3 (by decide) fl3_18 rfl rfl rfl (tyX3_ok 2 (by decide)) (vl_ref rfl).symm rfl rfl (cx37.r (by decide)) rfl rfl ?_
  obtain ⟨σ42, eS44, cx45, f18, f19, f20, f21, f22⟩ : ∃ (σ42 : MS), σ42 = (sA 20 a ((x30 : Int)) σ34) ∧ CX a 3 K 807 3 T σ T33 σ42 ∧ (σ42.2.1 18 a = (x1 : Int)) ∧ (σ42.2.1 19 a = (x15 : Int)) ∧ (σ42.2.1 20 a = (x30 : Int)) ∧ (σ42.2.1 21 a = -1) ∧ (σ42.2.1 22 a = 0) := ⟨_, rfl, (cx37.put (by decide)), (rc_o (by decide) f18), (rc_o (by decide) f19), ra_eq, (rc_o (by decide) f21), (rc_o (by decide) f22)⟩
  rw [← eS44]
  refine tn_aload_n dX3_init_29 rfl 0 rfl ?_
  refine tn_sipush dX3_init_30 (by decide) ?_
  refine tn_newI (N := 201) (k := 1) dX3_init_33 arC_int (by decide) rfl (by decide) (fun x46 hx47 => ?_)
  have ne48 := cx45.ne hx47
  obtain ⟨T49, σ50, eT51, eS52, cx53, f18, f19, f20, f21, f22, o54, o55, o56, o57, nx7, nx41⟩ : ∃ (T49 : CT) (σ50 : MS), T49 = (tT T33 x46 1 201) ∧ σ50 = (rowS (1000 + x46) (fun _ => 0) (gh 201 σ42)) ∧ CX a 3 K 1008 4 T σ T49 σ50 ∧ (σ50.2.1 18 a = (x1 : Int)) ∧ (σ50.2.1 19 a = (x15 : Int)) ∧ (σ50.2.1 20 a = (x30 : Int)) ∧ (σ50.2.1 21 a = -1) ∧ (σ50.2.1 22 a = 0) ∧ (T49 x1 = (3, 603)) ∧ (T49 x15 = (3, 3)) ∧ (T49 x30 = (1, 201)) ∧ (T49 x46 = (1, 201)) ∧ NX 7 a T T49 ∧ NX 41 a T T49 := ⟨_, _, rfl, rfl, (cx45.newI hx47 (by decide)), (by rw [rowS_ne (by omega)]; exact f18), (by rw [rowS_ne (by omega)]; exact f19), (by rw [rowS_ne (by omega)]; exact f20), (by rw [rowS_ne (by omega)]; exact f21), (by rw [rowS_ne (by omega)]; exact f22), (tk_keep o38 (by decide) hx47), (tk_keep o39 (by decide) hx47), (tk_keep o40 (by decide) hx47), tT_eq, (nx7.mk9 (by decide)), (nx41.mk9 (by decide))⟩
  rw [← eT51]
  rw [← eS52]
  refine tn_putFr (ci := 3) (i := 3) (n := 21) (r := true) (v := (x46 : Int)) tyX3 tyX3_ok nmX3 dX3_init_35 rfl lay_3 (by decide) fl3_22 rfl rfl rfl (tyX3_ok 3 (by decide)) (vl_ref rfl).symm rfl rfl (cx53.r (by decide)) rfl rfl ?_
  obtain ⟨σ59, eS61, cx62, f18, f19, f20, f21, f22⟩ : ∃ (σ59 : MS), σ59 = (sA 21 a ((x46 : Int)) σ50) ∧ CX a 3 K 1008 4 T σ T49 σ59 ∧ (σ59.2.1 18 a = (x1 : Int)) ∧ (σ59.2.1 19 a = (x15 : Int)) ∧ (σ59.2.1 20 a = (x30 : Int)) ∧ (σ59.2.1 21 a = (x46 : Int)) ∧ (σ59.2.1 22 a = 0) := ⟨_, rfl, (cx53.put (by decide)), (rc_o (by decide) f18), (rc_o (by decide) f19), (rc_o (by decide) f20), ra_eq, (rc_o (by decide) f22)⟩
  rw [← eS61]
  refine tn_tag (ci := 3) (k := 33) (by decide) cx62.1 (by decide) ?_
  have hf9 : ∀ m, m < 111 → cls m = 3 → FO m 33 T49 (σ59.2.1 m a) := fun m hm9 hc9 => by
    have q9 := clsR_3 m hm9 hc9
    have q8 : m = 18 ∨ m = 19 ∨ m = 20 ∨ m = 21 ∨ m = 22 := by omega
    rcases q8 with q8 | q8 | q8 | q8 | q8
    · subst q8; rw [f18]; exact fo_18 (⟨_, rfl, AR.of o54 (by decide) (by decide)⟩)
    · subst q8; rw [f19]; exact fo_19 (⟨_, rfl, AR.of o55 (by decide) (by decide)⟩)
    · subst q8; rw [f20]; exact fo_20 (⟨_, rfl, AR.of o56 (by decide) (by decide)⟩)
    · subst q8; rw [f21]; exact fo_21 (⟨_, rfl, AR.of o57 (by decide) (by decide)⟩)
    · subst q8; rw [f22]; exact fo_22 (by decide)
  exact tn_vret rfl dX3_init_38 ⟨rfl, tT_eq, cx62.2.1.tag cx62.1 (by decide) hf9 (fun h => absurd h (by decide)), cx62.2.2.1.tag (by rw [cx62.1]; decide) (by decide), cx62.2.2.2.1.tag, cx62.2.2.2.2.1, cx62.2.2.2.2.2, nx7.tag, nx41.tag⟩
end
section
theorem cd_X2_init : Cond.code yX2_init cX2_init 2 none ∈ pWW := pw2 (List.mem_of_getElem? (i := 49) rfl) rfl
abbrev m_X2_init : MT := (yX2_init, cX2_init, 2, none)
theorem ok_X2_init : pOk m_X2_init := ⟨⟨cd_X2_init, ini_2⟩, by decide +kernel, ⟨by decide +kernel, by decide +kernel⟩, Nat.le_of_ble_eq_true rfl⟩
theorem np_X2_init : (parseMethodDescriptor yX2_init.desc).map (fun d => d.parameters.length) = some 1 := by decide +kernel
theorem im_X2_init : Cond.instanceMethod yX2_init ∈ pWW := pw2 (List.mem_of_getElem? (i := 48) rfl) rfl
theorem mlo2_3 : Cond.methodLink RX2 3 objectInit ∈ pWW := pw2 (List.mem_of_getElem? (i := 50) rfl) rfl
theorem dX2_init_0 : decode cX2_init 0 = .ok (.aload_n 0, 1) := by decide +kernel
theorem dX2_init_1 : decode cX2_init 1 = .ok (.invokespecial 3, 3) := by decide +kernel
theorem dX2_init_4 : decode cX2_init 4 = .ok (.aload_n 0, 1) := by decide +kernel
theorem dX2_init_5 : decode cX2_init 5 = .ok (.aload_n 1, 1) := by decide +kernel
theorem dX2_init_6 : decode cX2_init 6 = .ok (.putfield 9, 3) := by decide +kernel
theorem dX2_init_9 : decode cX2_init 9 = .ok (.return_, 1) := by decide +kernel
set_option maxRecDepth 20000 in
theorem kc_X2_init_32 (d : Nat) {T : CT} {σ : MS} {a : Nat} {K : List Nat} {fl : Nat} (hraw : T a = (80 + 2, 0)) (hb : WTn T σ) (hcd : CD K T) (hdf : ∀ j, j < 200 → σ.2.1 j (a : Int) = dfF j) (h_fl : T fl = (33, 0)) : Tn (d + 1) m_X2_init 0 T σ [(0, .ref a), (1, .ref fl)] [] (fun ro T2 σ2 => ro = none ∧ T2 a = (32, 0) ∧ WTn T2 σ2 ∧ CD K T2 ∧ KPx a T σ T2 σ2 ∧ σ2.1 0 = σ.1 0 + (0 : Nat) ∧ σ2.1 1 = σ.1 1 + (0 : Nat) ∧ NX 7 a T T2 ∧ NX 41 a T T2) := by
  have cx0 : CX a 2 K 0 0 T σ T σ := CX.begin hraw hb hcd
  have nx7 : NX 7 a T T := NX.begin (by decide)
  have nx41 : NX 41 a T T := NX.begin (by decide)
  have f17 : σ.2.1 17 a = -1 := (hdf 17 (by decide)).trans (by decide)
  refine tn_aload_n dX2_init_0 rfl 0 rfl ?_
  refine tn_objInit dX2_init_1 mlo2_3 oiI oiC (by omega) (Nat.le_of_ble_eq_true rfl) ?_
  refine tn_aload_n dX2_init_4 rfl 0 rfl ?_
  refine tn_aload_n dX2_init_5 rfl 1 rfl ?_
  refine tn_putFr (ci := 2) (i := 0) (n := 17) (r := true) (v := (fl : Int)) tyX2 tyX2_ok nmX2 dX2_init_6 rfl lay_2 (by decide) fl2_9 rfl rfl rfl (tyX2_ok 0 (by decide)) (vl_ref rfl).symm rfl rfl (cx0.r (by decide)) rfl rfl ?_
  obtain ⟨σ2, eS4, cx5, f17⟩ : ∃ (σ2 : MS), σ2 = (sA 17 a ((fl : Int)) σ) ∧ CX a 2 K 0 0 T σ T σ2 ∧ (σ2.2.1 17 a = (fl : Int)) := ⟨_, rfl, (cx0.put (by decide)), ra_eq⟩
  rw [← eS4]
  refine tn_tag (ci := 2) (k := 32) (by decide) cx5.1 (by decide) ?_
  have hf9 : ∀ m, m < 111 → cls m = 2 → FO m 32 T (σ2.2.1 m a) := fun m hm9 hc9 => by
    have q9 := clsR_2 m hm9 hc9
    have q8 : m = 17 := by omega
    subst q8; rw [f17]; exact fo_17 (⟨_, rfl, tg1 h_fl⟩)
  exact tn_vret rfl dX2_init_9 ⟨rfl, tT_eq, cx5.2.1.tag cx5.1 (by decide) hf9 (fun h => absurd h (by decide)), cx5.2.2.1.tag (by rw [cx5.1]; decide) (by decide), cx5.2.2.2.1.tag, cx5.2.2.2.2.1, cx5.2.2.2.2.2, nx7.tag, nx41.tag⟩
end
section
theorem cd_X4_init : Cond.code yX4_init cX4_init 2 none ∈ pWW := pw2 (List.mem_of_getElem? (i := 59) rfl) rfl
abbrev m_X4_init : MT := (yX4_init, cX4_init, 2, none)
theorem ok_X4_init : pOk m_X4_init := ⟨⟨cd_X4_init, ini_4⟩, by decide +kernel, ⟨by decide +kernel, by decide +kernel⟩, Nat.le_of_ble_eq_true rfl⟩
theorem np_X4_init : (parseMethodDescriptor yX4_init.desc).map (fun d => d.parameters.length) = some 1 := by decide +kernel
theorem im_X4_init : Cond.instanceMethod yX4_init ∈ pWW := pw2 (List.mem_of_getElem? (i := 58) rfl) rfl
theorem mlo4_3 : Cond.methodLink RX4 3 objectInit ∈ pWW := pw2 (List.mem_of_getElem? (i := 60) rfl) rfl
theorem dX4_init_0 : decode cX4_init 0 = .ok (.aload_n 0, 1) := by decide +kernel
theorem dX4_init_1 : decode cX4_init 1 = .ok (.invokespecial 3, 3) := by decide +kernel
theorem dX4_init_4 : decode cX4_init 4 = .ok (.aload_n 0, 1) := by decide +kernel
theorem dX4_init_5 : decode cX4_init 5 = .ok (.bipush 8, 2) := by decide +kernel
theorem dX4_init_7 : decode cX4_init 7 = .ok (.newarray .int, 2) := by decide +kernel
theorem dX4_init_9 : decode cX4_init 9 = .ok (.putfield 9, 3) := by decide +kernel
theorem dX4_init_12 : decode cX4_init 12 = .ok (.aload_n 0, 1) := by decide +kernel
theorem dX4_init_13 : decode cX4_init 13 = .ok (.aload_n 1, 1) := by decide +kernel
theorem dX4_init_14 : decode cX4_init 14 = .ok (.putfield 15, 3) := by decide +kernel
theorem dX4_init_17 : decode cX4_init 17 = .ok (.return_, 1) := by decide +kernel
set_option maxRecDepth 20000 in
theorem kc_X4_init_34 (d : Nat) {T : CT} {σ : MS} {a : Nat} {K : List Nat} {fl : Nat} (hraw : T a = (80 + 4, 0)) (hb : WTn T σ) (hcd : CD K T) (hdf : ∀ j, j < 200 → σ.2.1 j (a : Int) = dfF j) (h_fl : T fl = (33, 0)) : Tn (d + 1) m_X4_init 0 T σ [(0, .ref a), (1, .ref fl)] [] (fun ro T2 σ2 => ro = none ∧ T2 a = (34, 0) ∧ WTn T2 σ2 ∧ CD K T2 ∧ KPx a T σ T2 σ2 ∧ σ2.1 0 = σ.1 0 + (8 : Nat) ∧ σ2.1 1 = σ.1 1 + (1 : Nat) ∧ NX 7 a T T2 ∧ NX 41 a T T2) := by
  have cx0 : CX a 4 K 0 0 T σ T σ := CX.begin hraw hb hcd
  have nx7 : NX 7 a T T := NX.begin (by decide)
  have nx41 : NX 41 a T T := NX.begin (by decide)
  have f23 : σ.2.1 23 a = -1 := (hdf 23 (by decide)).trans (by decide)
  have f24 : σ.2.1 24 a = -1 := (hdf 24 (by decide)).trans (by decide)
  have f25 : σ.2.1 25 a = -1 := (hdf 25 (by decide)).trans (by decide)
  have f26 : σ.2.1 26 a = -1 := (hdf 26 (by decide)).trans (by decide)
  have f27 : σ.2.1 27 a = 0 := (hdf 27 (by decide)).trans (by decide)
  have f28 : σ.2.1 28 a = 0 := (hdf 28 (by decide)).trans (by decide)
  have f29 : σ.2.1 29 a = 0 := (hdf 29 (by decide)).trans (by decide)
  have f30 : σ.2.1 30 a = 0 := (hdf 30 (by decide)).trans (by decide)
  have f31 : σ.2.1 31 a = 0 := (hdf 31 (by decide)).trans (by decide)
  have f32 : σ.2.1 32 a = 0 := (hdf 32 (by decide)).trans (by decide)
  refine tn_aload_n dX4_init_0 rfl 0 rfl ?_
  refine tn_objInit dX4_init_1 mlo4_3 oiI oiC (by omega) (Nat.le_of_ble_eq_true rfl) ?_
  refine tn_aload_n dX4_init_4 rfl 0 rfl ?_
  refine tn_bipush dX4_init_5 (by decide) ?_
  refine tn_newI (N := 8) (k := 1) dX4_init_7 arC_int (by decide) rfl (by decide) (fun x1 hx2 => ?_)
  have ne3 := cx0.ne hx2
  obtain ⟨T4, σ5, eT6, eS7, cx8, f23, f24, f25, f26, f27, f28, f29, f30, f31, f32, o9, o10, nx7, nx41⟩ : ∃ (T4 : CT) (σ5 : MS), T4 = (tT T x1 1 8) ∧ σ5 = (rowS (1000 + x1) (fun _ => 0) (gh 8 σ)) ∧ CX a 4 K 8 1 T σ T4 σ5 ∧ (σ5.2.1 23 a = -1) ∧ (σ5.2.1 24 a = -1) ∧ (σ5.2.1 25 a = -1) ∧ (σ5.2.1 26 a = -1) ∧ (σ5.2.1 27 a = 0) ∧ (σ5.2.1 28 a = 0) ∧ (σ5.2.1 29 a = 0) ∧ (σ5.2.1 30 a = 0) ∧ (σ5.2.1 31 a = 0) ∧ (σ5.2.1 32 a = 0) ∧ (T4 fl = (33, 0)) ∧ (T4 x1 = (1, 8)) ∧ NX 7 a T T4 ∧ NX 41 a T T4 := ⟨_, _, rfl, rfl, (cx0.newI hx2 (by decide)), (by rw [rowS_ne (by omega)]; exact f23), (by rw [rowS_ne (by omega)]; exact f24), (by rw [rowS_ne (by omega)]; exact f25), (by rw [rowS_ne (by omega)]; exact f26), (by rw [rowS_ne (by omega)]; exact f27), (by rw [rowS_ne (by omega)]; exact f28), (by rw [rowS_ne (by omega)]; exact f29), (by rw [rowS_ne (by omega)]; exact f30), (by rw [rowS_ne (by omega)]; exact f31), (by rw [rowS_ne (by omega)]; exact f32), (tk_keep h_fl (by decide) hx2), tT_eq, (nx7.mk9 (by decide)), (nx41.mk9 (by decide))⟩
  rw [← eT6]
  rw [← eS7]
  refine tn_putFr (ci := 4) (i := 1) (n := 24) (r := true) (v := (x1 : Int)) tyX4 tyX4_ok nmX4 dX4_init_9 rfl lay_4 (by decide) fl4_9 rfl rfl rfl (tyX4_ok 1 (by decide)) (vl_ref rfl).symm rfl rfl (cx8.r (by decide)) rfl rfl ?_
  obtain ⟨σ12, eS14, cx15, f23, f24, f25, f26, f27, f28, f29, f30, f31, f32⟩ : ∃ (σ12 : MS), σ12 = (sA 24 a ((x1 : Int)) σ5) ∧ CX a 4 K 8 1 T σ T4 σ12 ∧ (σ12.2.1 23 a = -1) ∧ (σ12.2.1 24 a = (x1 : Int)) ∧ (σ12.2.1 25 a = -1) ∧ (σ12.2.1 26 a = -1) ∧ (σ12.2.1 27 a = 0) ∧ (σ12.2.1 28 a = 0) ∧ (σ12.2.1 29 a = 0) ∧ (σ12.2.1 30 a = 0) ∧ (σ12.2.1 31 a = 0) ∧ (σ12.2.1 32 a = 0) := ⟨_, rfl, (cx8.put (by decide)), (rc_o (by decide) f23), ra_eq, (rc_o (by decide) f25), (rc_o (by decide) f26), (rc_o (by decide) f27), (rc_o (by decide) f28), (rc_o (by decide) f29), (rc_o (by decide) f30), (rc_o (by decide) f31), (rc_o (by decide) f32)⟩
  rw [← eS14]
  refine tn_aload_n dX4_init_12 rfl 0 rfl ?_
  refine tn_aload_n dX4_init_13 rfl 1 rfl ?_
  refine tn_putFr (ci := 4) (i := 0) (n := 23) (r := true) (v := (fl : Int)) tyX4 tyX4_ok nmX4 dX4_init_14 rfl lay_4 (by decide) fl4_15 rfl rfl rfl (tyX4_ok 0 (by decide)) (vl_ref rfl).symm rfl rfl (cx15.r (by decide)) rfl rfl ?_
  obtain ⟨σ17, eS19, cx20, f23, f24, f25, f26, f27, f28, f29, f30, f31, f32⟩ : ∃ (σ17 : MS), σ17 = (sA 23 a ((fl : Int)) σ12) ∧ CX a 4 K 8 1 T σ T4 σ17 ∧ (σ17.2.1 23 a = (fl : Int)) ∧ (σ17.2.1 24 a = (x1 : Int)) ∧ (σ17.2.1 25 a = -1) ∧ (σ17.2.1 26 a = -1) ∧ (σ17.2.1 27 a = 0) ∧ (σ17.2.1 28 a = 0) ∧ (σ17.2.1 29 a = 0) ∧ (σ17.2.1 30 a = 0) ∧ (σ17.2.1 31 a = 0) ∧ (σ17.2.1 32 a = 0) := ⟨_, rfl, (cx15.put (by decide)), ra_eq, (rc_o (by decide) f24), (rc_o (by decide) f25), (rc_o (by decide) f26), (rc_o (by decide) f27), (rc_o (by decide) f28), (rc_o (by decide) f29), (rc_o (by decide) f30), (rc_o (by decide) f31), (rc_o (by decide) f32)⟩
  rw [← eS19]
  refine tn_tag (ci := 4) (k := 34) (by decide) cx20.1 (by decide) ?_
  have hf9 : ∀ m, m < 111 → cls m = 4 → FO m 34 T4 (σ17.2.1 m a) := fun m hm9 hc9 => by
    have q9 := clsR_4 m hm9 hc9
    have q8 : m = 23 ∨ m = 24 ∨ m = 25 ∨ m = 26 ∨ m = 27 ∨ m = 28 ∨ m = 29 ∨ m = 30 ∨ m = 31 ∨ m = 32 := by omega
    rcases q8 with q8 | q8 | q8 | q8 | q8 | q8 | q8 | q8 | q8 | q8
    · subst q8; rw [f23]; exact fo_23 (⟨_, rfl, tg1 o9⟩)
    · subst q8; rw [f24]; exact fo_24 (⟨_, rfl, AR.of o10 (by decide) (by decide)⟩)
    · subst q8; rw [f25]; exact fo_25 (Or.inl (by decide))
    · subst q8; rw [f26]; exact fo_26 (Or.inl (by decide))
    · subst q8; rw [f27]; exact fo_27 (by decide)
    · subst q8; rw [f28]; exact fo_28 (by decide)
    · subst q8; rw [f29]; exact fo_29 (by decide)
    · subst q8; rw [f30]; exact fo_30 (by decide)
    · subst q8; rw [f31]; exact fo_31 (by decide)
    · subst q8; rw [f32]; exact fo_32 (by decide)
  exact tn_vret rfl dX4_init_17 ⟨rfl, tT_eq, cx20.2.1.tag cx20.1 (by decide) hf9 (fun h => absurd h (by decide)), cx20.2.2.1.tag (by rw [cx20.1]; decide) (by decide), cx20.2.2.2.1.tag, cx20.2.2.2.2.1, cx20.2.2.2.2.2, nx7.tag, nx41.tag⟩
end
section
theorem cd_X6_init : Cond.code yX6_init cX6_init 1 none ∈ pWW := pw2 (List.mem_of_getElem? (i := 33) rfl) rfl
abbrev m_X6_init : MT := (yX6_init, cX6_init, 1, none)
theorem ok_X6_init : pOk m_X6_init := ⟨⟨cd_X6_init, ini_6⟩, by decide +kernel, ⟨by decide +kernel, by decide +kernel⟩, Nat.le_of_ble_eq_true rfl⟩
theorem np_X6_init : (parseMethodDescriptor yX6_init.desc).map (fun d => d.parameters.length) = some 0 := by decide +kernel
theorem im_X6_init : Cond.instanceMethod yX6_init ∈ pWW := pw2 (List.mem_of_getElem? (i := 32) rfl) rfl
theorem mlo6_3 : Cond.methodLink RX6 3 objectInit ∈ pWW := pw2 (List.mem_of_getElem? (i := 34) rfl) rfl
theorem dX6_init_0 : decode cX6_init 0 = .ok (.aload_n 0, 1) := by decide +kernel
theorem dX6_init_1 : decode cX6_init 1 = .ok (.invokespecial 3, 3) := by decide +kernel
theorem dX6_init_4 : decode cX6_init 4 = .ok (.aload_n 0, 1) := by decide +kernel
theorem dX6_init_5 : decode cX6_init 5 = .ok (.sipush 192, 3) := by decide +kernel
theorem dX6_init_8 : decode cX6_init 8 = .ok (.newarray .int, 2) := by decide +kernel
theorem dX6_init_10 : decode cX6_init 10 = .ok (.putfield 9, 3) := by decide +kernel
theorem dX6_init_13 : decode cX6_init 13 = .ok (.aload_n 0, 1) := by decide +kernel
theorem dX6_init_14 : decode cX6_init 14 = .ok (.sipush 192, 3) := by decide +kernel
theorem dX6_init_17 : decode cX6_init 17 = .ok (.newarray .int, 2) := by decide +kernel
theorem dX6_init_19 : decode cX6_init 19 = .ok (.putfield 15, 3) := by decide +kernel
theorem dX6_init_22 : decode cX6_init 22 = .ok (.aload_n 0, 1) := by decide +kernel
theorem dX6_init_23 : decode cX6_init 23 = .ok (.iconst 3, 1) := by decide +kernel
theorem dX6_init_24 : decode cX6_init 24 = .ok (.newarray .long, 2) := by decide +kernel
theorem dX6_init_26 : decode cX6_init 26 = .ok (.putfield 18, 3) := by decide +kernel
theorem dX6_init_29 : decode cX6_init 29 = .ok (.return_, 1) := by decide +kernel
set_option maxRecDepth 20000 in
theorem kc_X6_init_36 (d : Nat) {T : CT} {σ : MS} {a : Nat} {K : List Nat} (hraw : T a = (80 + 6, 0)) (hb : WTn T σ) (hcd : CD K T) (hdf : ∀ j, j < 200 → σ.2.1 j (a : Int) = dfF j) : Tn (d + 1) m_X6_init 0 T σ [(0, .ref a)] [] (fun ro T2 σ2 => ro = none ∧ T2 a = (36, 0) ∧ WTn T2 σ2 ∧ CD K T2 ∧ KPx a T σ T2 σ2 ∧ σ2.1 0 = σ.1 0 + (387 : Nat) ∧ σ2.1 1 = σ.1 1 + (3 : Nat) ∧ NX 7 a T T2 ∧ NX 41 a T T2) := by
  have cx0 : CX a 6 K 0 0 T σ T σ := CX.begin hraw hb hcd
  have nx7 : NX 7 a T T := NX.begin (by decide)
  have nx41 : NX 41 a T T := NX.begin (by decide)
  have f52 : σ.2.1 52 a = -1 := (hdf 52 (by decide)).trans (by decide)
  have f53 : σ.2.1 53 a = -1 := (hdf 53 (by decide)).trans (by decide)
  have f54 : σ.2.1 54 a = -1 := (hdf 54 (by decide)).trans (by decide)
  refine tn_aload_n dX6_init_0 rfl 0 rfl ?_
  refine tn_objInit dX6_init_1 mlo6_3 oiI oiC (by omega) (Nat.le_of_ble_eq_true rfl) ?_
  refine tn_aload_n dX6_init_4 rfl 0 rfl ?_
  refine tn_sipush dX6_init_5 (by decide) ?_
  refine tn_newI (N := 192) (k := 1) dX6_init_8 arC_int (by decide) rfl (by decide) (fun x1 hx2 => ?_)
  have ne3 := cx0.ne hx2
  obtain ⟨T4, σ5, eT6, eS7, cx8, f52, f53, f54, o9, nx7, nx41⟩ : ∃ (T4 : CT) (σ5 : MS), T4 = (tT T x1 1 192) ∧ σ5 = (rowS (1000 + x1) (fun _ => 0) (gh 192 σ)) ∧ CX a 6 K 192 1 T σ T4 σ5 ∧ (σ5.2.1 52 a = -1) ∧ (σ5.2.1 53 a = -1) ∧ (σ5.2.1 54 a = -1) ∧ (T4 x1 = (1, 192)) ∧ NX 7 a T T4 ∧ NX 41 a T T4 := ⟨_, _, rfl, rfl, (cx0.newI hx2 (by decide)), (by rw [rowS_ne (by omega)]; exact f52), (by rw [rowS_ne (by omega)]; exact f53), (by rw [rowS_ne (by omega)]; exact f54), tT_eq, (nx7.mk9 (by decide)), (nx41.mk9 (by decide))⟩
  rw [← eT6]
  rw [← eS7]
  refine tn_putFr (ci := 6) (i := 0) (n := 52) (r := true) (v := (x1 : Int)) tyX6 tyX6_ok nmX6 dX6_init_10 rfl lay_6 (by decide) fl6_9 rfl rfl rfl (tyX6_ok 0 (by decide)) (vl_ref rfl).symm rfl rfl (cx8.r (by decide)) rfl rfl ?_
  obtain ⟨σ11, eS13, cx14, f52, f53, f54⟩ : ∃ (σ11 : MS), σ11 = (sA 52 a ((x1 : Int)) σ5) ∧ CX a 6 K 192 1 T σ T4 σ11 ∧ (σ11.2.1 52 a = (x1 : Int)) ∧ (σ11.2.1 53 a = -1) ∧ (σ11.2.1 54 a = -1) := ⟨_, rfl, (cx8.put (by decide)), ra_eq, (rc_o (by decide) f53), (rc_o (by decide) f54)⟩
  rw [← eS13]
  refine tn_aload_n dX6_init_13 rfl 0 rfl ?_
  refine tn_sipush dX6_init_14 (by decide) ?_
  refine tn_newI (N := 192) (k := 1) dX6_init_17 arC_int (by decide) rfl (by decide) (fun x15 hx16 => ?_)
  have ne17 := cx14.ne hx16
  obtain ⟨T18, σ19, eT20, eS21, cx22, f52, f53, f54, o23, o24, nx7, nx41⟩ : ∃ (T18 : CT) (σ19 : MS), T18 = (tT T4 x15 1 192) ∧ σ19 = (rowS (1000 + x15) (fun _ => 0) (gh 192 σ11)) ∧ CX a 6 K 384 2 T σ T18 σ19 ∧ (σ19.2.1 52 a = (x1 : Int)) ∧ (σ19.2.1 53 a = -1) ∧ (σ19.2.1 54 a = -1) ∧ (T18 x1 = (1, 192)) ∧ (T18 x15 = (1, 192)) ∧ NX 7 a T T18 ∧ NX 41 a T T18 := ⟨_, _, rfl, rfl, (cx14.newI hx16 (by decide)), (by rw [rowS_ne (by omega)]; exact f52), (by rw [rowS_ne (by omega)]; exact f53), (by rw [rowS_ne (by omega)]; exact f54), (tk_keep o9 (by decide) hx16), tT_eq, (nx7.mk9 (by decide)), (nx41.mk9 (by decide))⟩
  rw [← eT20]
  rw [← eS21]
  refine tn_putFr (ci := 6) (i := 1) (n := 53) (r := true) (v := (x15 : Int)) tyX6 tyX6_ok nmX6 dX6_init_19 rfl lay_6 (by decide) fl6_15 rfl rfl rfl (tyX6_ok 1 (by decide)) (vl_ref rfl).symm rfl rfl (cx22.r (by decide)) rfl rfl ?_
  obtain ⟨σ26, eS28, cx29, f52, f53, f54⟩ : ∃ (σ26 : MS), σ26 = (sA 53 a ((x15 : Int)) σ19) ∧ CX a 6 K 384 2 T σ T18 σ26 ∧ (σ26.2.1 52 a = (x1 : Int)) ∧ (σ26.2.1 53 a = (x15 : Int)) ∧ (σ26.2.1 54 a = -1) := ⟨_, rfl, (cx22.put (by decide)), (rc_o (by decide) f52), ra_eq, (rc_o (by decide) f54)⟩
  rw [← eS28]
  refine tn_aload_n dX6_init_22 rfl 0 rfl ?_
  refine tn_iconst dX6_init_23 ?_
  refine tn_newJ (N := 3) dX6_init_24 arC_long rfl (by decide) (fun x30 hx31 => ?_)
  have ne32 := cx29.ne hx31
  obtain ⟨T33, σ34, eT35, eS36, cx37, f52, f53, f54, o38, o39, o40, nx7, nx41⟩ : ∃ (T33 : CT) (σ34 : MS), T33 = (tT T18 x30 3 3) ∧ σ34 = (rowL x30 (fun _ => 0) (gh 3 σ26)) ∧ CX a 6 K 387 3 T σ T33 σ34 ∧ (σ34.2.1 52 a = (x1 : Int)) ∧ (σ34.2.1 53 a = (x15 : Int)) ∧ (σ34.2.1 54 a = -1) ∧ (T33 x1 = (1, 192)) ∧ (T33 x15 = (1, 192)) ∧ (T33 x30 = (3, 3)) ∧ NX 7 a T T33 ∧ NX 41 a T T33 := ⟨_, _, rfl, rfl, (cx29.newJ hx31), f52, f53, f54, (tk_keep o23 (by decide) hx31), (tk_keep o24 (by decide) hx31), tT_eq, (nx7.mk9 (by decide)), (nx41.mk9 (by decide))⟩
  rw [← eT35]
  rw [← eS36]
  refine tn_putFr (ci := 6) (i := 2) (n := 54) (r := true) (v := (x30 : Int)) tyX6 tyX6_ok nmX6 dX6_init_26 rfl lay_6 (by decide) fl6_18 rfl rfl rfl (tyX6_ok 2 (by decide)) (vl_ref rfl).symm rfl rfl (cx37.r (by decide)) rfl rfl ?_
  obtain ⟨σ42, eS44, cx45, f52, f53, f54⟩ : ∃ (σ42 : MS), σ42 = (sA 54 a ((x30 : Int)) σ34) ∧ CX a 6 K 387 3 T σ T33 σ42 ∧ (σ42.2.1 52 a = (x1 : Int)) ∧ (σ42.2.1 53 a = (x15 : Int)) ∧ (σ42.2.1 54 a = (x30 : Int)) := ⟨_, rfl, (cx37.put (by decide)), (rc_o (by decide) f52), (rc_o (by decide) f53), ra_eq⟩
  rw [← eS44]
  refine tn_tag (ci := 6) (k := 36) (by decide) cx45.1 (by decide) ?_
  have hf9 : ∀ m, m < 111 → cls m = 6 → FO m 36 T33 (σ42.2.1 m a) := fun m hm9 hc9 => by
    have q9 := clsR_6 m hm9 hc9
    have q8 : m = 52 ∨ m = 53 ∨ m = 54 := by omega
    rcases q8 with q8 | q8 | q8
    · subst q8; rw [f52]; exact fo_52 (⟨_, rfl, AR.of o38 (by decide) (by decide)⟩)
    · subst q8; rw [f53]; exact fo_53 (⟨_, rfl, AR.of o39 (by decide) (by decide)⟩)
    · subst q8; rw [f54]; exact fo_54 (⟨_, rfl, AR.of o40 (by decide) (by decide)⟩)
  exact tn_vret rfl dX6_init_29 ⟨rfl, tT_eq, cx45.2.1.tag cx45.1 (by decide) hf9 (fun h => absurd h (by decide)), cx45.2.2.1.tag (by rw [cx45.1]; decide) (by decide), cx45.2.2.2.1.tag, cx45.2.2.2.2.1, cx45.2.2.2.2.2, nx7.tag, nx41.tag⟩
end
section
theorem cd_X8_init : Cond.code yX8_init cX8_init 2 none ∈ pWW := pw2 (List.mem_of_getElem? (i := 96) rfl) rfl
abbrev m_X8_init : MT := (yX8_init, cX8_init, 2, none)
theorem ok_X8_init : pOk m_X8_init := ⟨⟨cd_X8_init, ini_8⟩, by decide +kernel, ⟨by decide +kernel, by decide +kernel⟩, Nat.le_of_ble_eq_true rfl⟩
theorem np_X8_init : (parseMethodDescriptor yX8_init.desc).map (fun d => d.parameters.length) = some 1 := by decide +kernel
theorem im_X8_init : Cond.instanceMethod yX8_init ∈ pWW := pw2 (List.mem_of_getElem? (i := 95) rfl) rfl
theorem mlo8_3 : Cond.methodLink RX8 3 objectInit ∈ pWW := pw2 (List.mem_of_getElem? (i := 97) rfl) rfl
theorem dX8_init_0 : decode cX8_init 0 = .ok (.aload_n 0, 1) := by decide +kernel
theorem dX8_init_1 : decode cX8_init 1 = .ok (.invokespecial 3, 3) := by decide +kernel
theorem dX8_init_4 : decode cX8_init 4 = .ok (.aload_n 0, 1) := by decide +kernel
theorem dX8_init_5 : decode cX8_init 5 = .ok (.sipush 576, 3) := by decide +kernel
theorem dX8_init_8 : decode cX8_init 8 = .ok (.newarray .long, 2) := by decide +kernel
theorem dX8_init_10 : decode cX8_init 10 = .ok (.putfield 9, 3) := by decide +kernel
theorem dX8_init_13 : decode cX8_init 13 = .ok (.aload_n 0, 1) := by decide +kernel
theorem dX8_init_14 : decode cX8_init 14 = .ok (.iconst 3, 1) := by decide +kernel
theorem dX8_init_15 : decode cX8_init 15 = .ok (.newarray .long, 2) := by decide +kernel
theorem dX8_init_17 : decode cX8_init 17 = .ok (.putfield 15, 3) := by decide +kernel
theorem dX8_init_20 : decode cX8_init 20 = .ok (.aload_n 0, 1) := by decide +kernel
theorem dX8_init_21 : decode cX8_init 21 = .ok (.sipush 192, 3) := by decide +kernel
theorem dX8_init_24 : decode cX8_init 24 = .ok (.newarray .int, 2) := by decide +kernel
theorem dX8_init_26 : decode cX8_init 26 = .ok (.putfield 18, 3) := by decide +kernel
theorem dX8_init_29 : decode cX8_init 29 = .ok (.aload_n 0, 1) := by decide +kernel
theorem dX8_init_30 : decode cX8_init 30 = .ok (.sipush 576, 3) := by decide +kernel
theorem dX8_init_33 : decode cX8_init 33 = .ok (.newarray .long, 2) := by decide +kernel
theorem dX8_init_35 : decode cX8_init 35 = .ok (.putfield 22, 3) := by decide +kernel
theorem dX8_init_38 : decode cX8_init 38 = .ok (.aload_n 0, 1) := by decide +kernel
theorem dX8_init_39 : decode cX8_init 39 = .ok (.sipush 603, 3) := by decide +kernel
theorem dX8_init_42 : decode cX8_init 42 = .ok (.newarray .long, 2) := by decide +kernel
theorem dX8_init_44 : decode cX8_init 44 = .ok (.putfield 25, 3) := by decide +kernel
theorem dX8_init_47 : decode cX8_init 47 = .ok (.aload_n 0, 1) := by decide +kernel
theorem dX8_init_48 : decode cX8_init 48 = .ok (.sipush 201, 3) := by decide +kernel
theorem dX8_init_51 : decode cX8_init 51 = .ok (.newarray .int, 2) := by decide +kernel
theorem dX8_init_53 : decode cX8_init 53 = .ok (.putfield 28, 3) := by decide +kernel
theorem dX8_init_56 : decode cX8_init 56 = .ok (.aload_n 0, 1) := by decide +kernel
theorem dX8_init_57 : decode cX8_init 57 = .ok (.iconst 3, 1) := by decide +kernel
theorem dX8_init_58 : decode cX8_init 58 = .ok (.newarray .long, 2) := by decide +kernel
theorem dX8_init_60 : decode cX8_init 60 = .ok (.putfield 31, 3) := by decide +kernel
theorem dX8_init_63 : decode cX8_init 63 = .ok (.aload_n 0, 1) := by decide +kernel
theorem dX8_init_64 : decode cX8_init 64 = .ok (.aload_n 1, 1) := by decide +kernel
theorem dX8_init_65 : decode cX8_init 65 = .ok (.putfield 34, 3) := by decide +kernel
theorem dX8_init_68 : decode cX8_init 68 = .ok (.return_, 1) := by decide +kernel
set_option maxRecDepth 20000 in
theorem kc_X8_init_38 (d : Nat) {T : CT} {σ : MS} {a : Nat} {K : List Nat} {fl : Nat} (hraw : T a = (80 + 8, 0)) (hb : WTn T σ) (hcd : CD K T) (hdf : ∀ j, j < 200 → σ.2.1 j (a : Int) = dfF j) (h_fl : T fl = (33, 0)) : Tn (d + 1) m_X8_init 0 T σ [(0, .ref a), (1, .ref fl)] [] (fun ro T2 σ2 => ro = none ∧ T2 a = (38, 0) ∧ WTn T2 σ2 ∧ CD K T2 ∧ KPx a T σ T2 σ2 ∧ σ2.1 0 = σ.1 0 + (2154 : Nat) ∧ σ2.1 1 = σ.1 1 + (7 : Nat) ∧ NX 7 a T T2 ∧ NX 41 a T T2) := by
  have cx0 : CX a 8 K 0 0 T σ T σ := CX.begin hraw hb hcd
  have nx7 : NX 7 a T T := NX.begin (by decide)
  have nx41 : NX 41 a T T := NX.begin (by decide)
  have f72 : σ.2.1 72 a = -1 := (hdf 72 (by decide)).trans (by decide)
  have f73 : σ.2.1 73 a = -1 := (hdf 73 (by decide)).trans (by decide)
  have f74 : σ.2.1 74 a = -1 := (hdf 74 (by decide)).trans (by decide)
  have f75 : σ.2.1 75 a = -1 := (hdf 75 (by decide)).trans (by decide)
  have f76 : σ.2.1 76 a = -1 := (hdf 76 (by decide)).trans (by decide)
  have f77 : σ.2.1 77 a = -1 := (hdf 77 (by decide)).trans (by decide)
  have f78 : σ.2.1 78 a = -1 := (hdf 78 (by decide)).trans (by decide)
  have f79 : σ.2.1 79 a = -1 := (hdf 79 (by decide)).trans (by decide)
  have f80 : σ.2.1 80 a = 0 := (hdf 80 (by decide)).trans (by decide)
  refine tn_aload_n dX8_init_0 rfl 0 rfl ?_
  refine tn_objInit dX8_init_1 mlo8_3 oiI oiC (by omega) (Nat.le_of_ble_eq_true rfl) ?_
  refine tn_aload_n dX8_init_4 rfl 0 rfl ?_
  refine tn_sipush dX8_init_5 (by decide) ?_
  refine tn_newJ (N := 576) dX8_init_8 arC_long rfl (by decide) (fun x1 hx2 => ?_)
  have ne3 := cx0.ne hx2
  obtain ⟨T4, σ5, eT6, eS7, cx8, f72, f73, f74, f75, f76, f77, f78, f79, f80, o9, o10, nx7, nx41⟩ : ∃ (T4 : CT) (σ5 : MS), T4 = (tT T x1 3 576) ∧ σ5 = (rowL x1 (fun _ => 0) (gh 576 σ)) ∧ CX a 8 K 576 1 T σ T4 σ5 ∧ (σ5.2.1 72 a = -1) ∧ (σ5.2.1 73 a = -1) ∧ (σ5.2.1 74 a = -1) ∧ (σ5.2.1 75 a = -1) ∧ (σ5.2.1 76 a = -1) ∧ (σ5.2.1 77 a = -1) ∧ (σ5.2.1 78 a = -1) ∧ (σ5.2.1 79 a = -1) ∧ (σ5.2.1 80 a = 0) ∧ (T4 fl = (33, 0)) ∧ (T4 x1 = (3, 576)) ∧ NX 7 a T T4 ∧ NX 41 a T T4 := ⟨_, _, rfl, rfl, (cx0.newJ hx2), f72, f73, f74, f75, f76, f77, f78, f79, f80, (tk_keep h_fl (by decide) hx2), tT_eq, (nx7.mk9 (by decide)), (nx41.mk9 (by decide))⟩
  rw [← eT6]
  rw [← eS7]
  refine tn_putFr (ci := 8) (i := 1) (n := 73) (r := true) (v := (x1 : Int)) tyX8 tyX8_ok nmX8 dX8_init_10 rfl lay_8 (by decide) fl8_9 rfl rfl rfl (tyX8_ok 1 (by decide)) (vl_ref rfl).symm rfl rfl (cx8.r (by decide)) rfl rfl ?_
  obtain ⟨σ12, eS14, cx15, f72, f73, f74, f75, f76, f77, f78, f79, f80⟩ : ∃ (σ12 : MS), σ12 = (sA 73 a ((x1 : Int)) σ5) ∧ CX a 8 K 576 1 T σ T4 σ12 ∧ (σ12.2.1 72 a = -1) ∧ (σ12.2.1 73 a = (x1 : Int)) ∧ (σ12.2.1 74 a = -1) ∧ (σ12.2.1 75 a = -1) ∧ (σ12.2.1 76 a = -1) ∧ (σ12.2.1 77 a = -1) ∧ (σ12.2.1 78 a = -1) ∧ (σ12.2.1 79 a = -1) ∧ (σ12.2.1 80 a = 0) := ⟨_, rfl, (cx8.put (by decide)), (rc_o (by decide) f72), ra_eq, (rc_o (by decide) f74), (rc_o (by decide) f75), (rc_o (by decide) f76), (rc_o (by decide) f77), (rc_o (by decide) f78), (rc_o (by decide) f79), (rc_o (by decide) f80)⟩
  rw [← eS14]
  refine tn_aload_n dX8_init_13 rfl 0 rfl ?_
  refine tn_iconst dX8_init_14 ?_
  refine tn_newJ (N := 3) dX8_init_15 arC_long rfl (by decide) (fun x16 hx17 => ?_)
  have ne18 := cx15.ne hx17
  obtain ⟨T19, σ20, eT21, eS22, cx23, f72, f73, f74, f75, f76, f77, f78, f79, f80, o24, o25, o26, nx7, nx41⟩ : ∃ (T19 : CT) (σ20 : MS), T19 = (tT T4 x16 3 3) ∧ σ20 = (rowL x16 (fun _ => 0) (gh 3 σ12)) ∧ CX a 8 K 579 2 T σ T19 σ20 ∧ (σ20.2.1 72 a = -1) ∧ (σ20.2.1 73 a = (x1 : Int)) ∧ (σ20.2.1 74 a = -1) ∧ (σ20.2.1 75 a = -1) ∧ (σ20.2.1 76 a = -1) ∧ (σ20.2.1 77 a = -1) ∧ (σ20.2.1 78 a = -1) ∧ (σ20.2.1 79 a = -1) ∧ (σ20.2.1 80 a = 0) ∧ (T19 fl = (33, 0)) ∧ (T19 x1 = (3, 576)) ∧ (T19 x16 = (3, 3)) ∧ NX 7 a T T19 ∧ NX 41 a T T19 := ⟨_, _, rfl, rfl, (cx15.newJ hx17), f72, f73, f74, f75, f76, f77, f78, f79, f80, (tk_keep o9 (by decide) hx17), (tk_keep o10 (by decide) hx17), tT_eq, (nx7.mk9 (by decide)), (nx41.mk9 (by decide))⟩
  rw [← eT21]
  rw [← eS22]
  refine tn_putFr (ci := 8) (i := 2) (n := 74) (r := true) (v := (x16 : Int)) tyX8 tyX8_ok nmX8 dX8_init_17 rfl lay_8 (by decide) fl8_15 rfl rfl rfl (tyX8_ok 2 (by decide)) (vl_ref rfl).symm rfl rfl (cx23.r (by decide)) rfl rfl ?_
  obtain ⟨σ28, eS30, cx31, f72, f73, f74, f75, f76, f77, f78, f79, f80⟩ : ∃ (σ28 : MS), σ28 = (sA 74 a ((x16 : Int)) σ20) ∧ CX a 8 K 579 2 T σ T19 σ28 ∧ (σ28.2.1 72 a = -1) ∧ (σ28.2.1 73 a = (x1 : Int)) ∧ (σ28.2.1 74 a = (x16 : Int)) ∧ (σ28.2.1 75 a = -1) ∧ (σ28.2.1 76 a = -1) ∧ (σ28.2.1 77 a = -1) ∧ (σ28.2.1 78 a = -1) ∧ (σ28.2.1 79 a = -1) ∧ (σ28.2.1 80 a = 0) := ⟨_, rfl, (cx23.put (by decide)), (rc_o (by decide) f72), (rc_o (by decide) f73), ra_eq, (rc_o (by decide) f75), (rc_o (by decide) f76), (rc_o (by decide) f77), (rc_o (by decide) f78), (rc_o (by decide) f79), (rc_o (by decide) f80)⟩
  rw [← eS30]
  refine tn_aload_n dX8_init_20 rfl 0 rfl ?_
  refine tn_sipush dX8_init_21 (by decide) ?_
  refine tn_newI (N := 192) (k := 1) dX8_init_24 arC_int (by decide) rfl (by decide) (fun x32 hx33 => ?_)
  have ne34 := cx31.ne hx33
  obtain ⟨T35, σ36, eT37, eS38, cx39, f72, f73, f74, f75, f76, f77, f78, f79, f80, o40, o41, o42, o43, nx7, nx41⟩ : ∃ (T35 : CT) (σ36 : MS), T35 = (tT T19 x32 1 192) ∧ σ36 = (rowS (1000 + x32) (fun _ => 0) (gh 192 σ28)) ∧ CX a 8 K 771 3 T σ T35 σ36 ∧ (σ36.2.1 72 a = -1) ∧ (σ36.2.1 73 a = (x1 : Int)) ∧ (σ36.2.1 74 a = (x16 : Int)) ∧ (σ36.2.1 75 a = -1) ∧ (σ36.2.1 76 a = -1) ∧ (σ36.2.1 77 a = -1) ∧ (σ36.2.1 78 a = -1) ∧ (σ36.2.1 79 a = -1) ∧ (σ36.2.1 80 a = 0) ∧ (T35 fl = (33, 0)) ∧ (T35 x1 = (3, 576)) ∧ (T35 x16 = (3, 3)) ∧ (T35 x32 = (1, 192)) ∧ NX 7 a T T35 ∧ NX 41 a T T35 := ⟨_, _, rfl, rfl, (cx31.newI hx33 (by decide)), (by rw [rowS_ne (by omega)]; exact f72), (by rw [rowS_ne (by omega)]; exact f73), (by rw [rowS_ne (by omega)]; exact f74), (by rw [rowS_ne (by omega)]; exact f75), (by rw [rowS_ne (by omega)]; exact f76), (by rw [rowS_ne (by omega)]; exact f77), (by rw [rowS_ne (by omega)]; exact f78), (by rw [rowS_ne (by omega)]; exact f79), (by rw [rowS_ne (by omega)]; exact f80), (tk_keep o24 (by decide) hx33), (tk_keep o25 (by decide) hx33), (tk_keep o26 (by decide) hx33), tT_eq, (nx7.mk9 (by decide)), (nx41.mk9 (by decide))⟩
  rw [← eT37]
  rw [← eS38]
  refine tn_putFr (ci := 8) (i := 3) (n := 75) (r := true) (v := (x32 : Int)) tyX8 tyX8_ok nmX8 dX8_init_26 rfl lay_8 (by decide) fl8_18 rfl rfl rfl (tyX8_ok 3 (by decide)) (vl_ref rfl).symm rfl rfl (cx39.r (by decide)) rfl rfl ?_
  obtain ⟨σ45, eS47, cx48, f72, f73, f74, f75, f76, f77, f78, f79, f80⟩ : ∃ (σ45 : MS), σ45 = (sA 75 a ((x32 : Int)) σ36) ∧ CX a 8 K 771 3 T σ T35 σ45 ∧ (σ45.2.1 72 a = -1) ∧ (σ45.2.1 73 a = (x1 : Int)) ∧ (σ45.2.1 74 a = (x16 : Int)) ∧ (σ45.2.1 75 a = (x32 : Int)) ∧ (σ45.2.1 76 a = -1) ∧ (σ45.2.1 77 a = -1) ∧ (σ45.2.1 78 a = -1) ∧ (σ45.2.1 79 a = -1) ∧ (σ45.2.1 80 a = 0) := ⟨_, rfl, (cx39.put (by decide)), (rc_o (by decide) f72), (rc_o (by decide) f73), (rc_o (by decide) f74), ra_eq, (rc_o (by decide) f76), (rc_o (by decide) f77), (rc_o (by decide) f78), (rc_o (by decide) f79), (rc_o (by decide) f80)⟩
  rw [← eS47]
  refine tn_aload_n dX8_init_29 rfl 0 rfl ?_
  refine tn_sipush dX8_init_30 (by decide) ?_
  refine tn_newJ (N := 576) dX8_init_33 arC_long rfl (by decide) (fun x49 hx50 => ?_)
  have ne51 := cx48.ne hx50
  obtain ⟨T52, σ53, eT54, eS55, cx56, f72, f73, f74, f75, f76, f77, f78, f79, f80, o57, o58, o59, o60, o61, nx7, nx41⟩ : ∃ (T52 : CT) (σ53 : MS), T52 = (tT T35 x49 3 576) ∧ σ53 = (rowL x49 (fun _ => 0) (gh 576 σ45)) ∧ CX a 8 K 1347 4 T σ T52 σ53 ∧ (σ53.2.1 72 a = -1) ∧ (σ53.2.1 73 a = (x1 : Int)) ∧ (σ53.2.1 74 a = (x16 : Int)) ∧ (σ53.2.1 75 a = (x32 : Int)) ∧ (σ53.2.1 76 a = -1) ∧ (σ53.2.1 77 a = -1) ∧ (σ53.2.1 78 a = -1) ∧ (σ53.2.1 79 a = -1) ∧ (σ53.2.1 80 a = 0) ∧ (T52 fl = (33, 0)) ∧ (T52 x1 = (3, 576)) ∧ (T52 x16 = (3, 3)) ∧ (T52 x32 = (1, 192)) ∧ (T52 x49 = (3, 576)) ∧ NX 7 a T T52 ∧ NX 41 a T T52 := ⟨_, _, rfl, rfl, (cx48.newJ hx50), f72, f73, f74, f75, f76, f77, f78, f79, f80, (tk_keep o40 (by decide) hx50), (tk_keep o41 (by decide) hx50), (tk_keep o42 (by decide) hx50), (tk_keep o43 (by decide) hx50), tT_eq, (nx7.mk9 (by decide)), (nx41.mk9 (by decide))⟩
  rw [← eT54]
  rw [← eS55]
  refine tn_putFr (ci := 8) (i := 4) (n := 76) (r := true) (v := (x49 : Int)) tyX8 tyX8_ok nmX8 dX8_init_35 rfl lay_8 (by decide) fl8_22 rfl rfl rfl (tyX8_ok 4 (by decide)) (vl_ref rfl).symm rfl rfl (cx56.r (by decide)) rfl rfl ?_
  obtain ⟨σ63, eS65, cx66, f72, f73, f74, f75, f76, f77, f78, f79, f80⟩ : ∃ (σ63 : MS), σ63 = (sA 76 a ((x49 : Int)) σ53) ∧ CX a 8 K 1347 4 T σ T52 σ63 ∧ (σ63.2.1 72 a = -1) ∧ (σ63.2.1 73 a = (x1 : Int)) ∧ (σ63.2.1 74 a = (x16 : Int)) ∧ (σ63.2.1 75 a = (x32 : Int)) ∧ (σ63.2.1 76 a = (x49 : Int)) ∧ (σ63.2.1 77 a = -1) ∧ (σ63.2.1 78 a = -1) ∧ (σ63.2.1 79 a = -1) ∧ (σ63.2.1 80 a = 0) := ⟨_, rfl, (cx56.put (by decide)), (rc_o (by decide) f72), (rc_o (by decide) f73), (rc_o (by decide) f74), (rc_o (by decide) f75), ra_eq, (rc_o (by decide) f77), (rc_o (by decide) f78), (rc_o (by decide) f79), (rc_o (by decide) f80)⟩
  rw [← eS65]
  refine tn_aload_n dX8_init_38 rfl 0 rfl ?_
  refine tn_sipush dX8_init_39 (by decide) ?_
  refine tn_newJ (N := 603) dX8_init_42 arC_long rfl (by decide) (fun x67 hx68 => ?_)
  have ne69 := cx66.ne hx68
  obtain ⟨T70, σ71, eT72, eS73, cx74, f72, f73, f74, f75, f76, f77, f78, f79, f80, o75, o76, o77, o78, o79, o80, nx7, nx41⟩ : ∃ (T70 : CT) (σ71 : MS), T70 = (tT T52 x67 3 603) ∧ σ71 = (rowL x67 (fun _ => 0) (gh 603 σ63)) ∧ CX a 8 K 1950 5 T σ T70 σ71 ∧ (σ71.2.1 72 a = -1) ∧ (σ71.2.1 73 a = (x1 : Int)) ∧ (σ71.2.1 74 a = (x16 : Int)) ∧ (σ71.2.1 75 a = (x32 : Int)) ∧ (σ71.2.1 76 a = (x49 : Int)) ∧ (σ71.2.1 77 a = -1) ∧ (σ71.2.1 78 a = -1) ∧ (σ71.2.1 79 a = -1) ∧ (σ71.2.1 80 a = 0) ∧ (T70 fl = (33, 0)) ∧ (T70 x1 = (3, 576)) ∧ (T70 x16 = (3, 3)) ∧ (T70 x32 = (1, 192)) ∧ (T70 x49 = (3, 576)) ∧ (T70 x67 = (3, 603)) ∧ NX 7 a T T70 ∧ NX 41 a T T70 := ⟨_, _, rfl, rfl, (cx66.newJ hx68), f72, f73, f74, f75, f76, f77, f78, f79, f80, (tk_keep o57 (by decide) hx68), (tk_keep o58 (by decide) hx68), (tk_keep o59 (by decide) hx68), (tk_keep o60 (by decide) hx68), (tk_keep o61 (by decide) hx68), tT_eq, (nx7.mk9 (by decide)), (nx41.mk9 (by decide))⟩
  rw [← eT72]
  rw [← eS73]
  refine tn_putFr (ci := 8) (i := 5) (n := 77) (r := true) (v := (x67 : Int)) tyX8 tyX8_ok nmX8 dX8_init_44 rfl lay_8 (by decide) fl8_25 rfl rfl rfl (tyX8_ok 5 (by decide)) (vl_ref rfl).symm rfl rfl (cx74.r (by decide)) rfl rfl ?_
  obtain ⟨σ82, eS84, cx85, f72, f73, f74, f75, f76, f77, f78, f79, f80⟩ : ∃ (σ82 : MS), σ82 = (sA 77 a ((x67 : Int)) σ71) ∧ CX a 8 K 1950 5 T σ T70 σ82 ∧ (σ82.2.1 72 a = -1) ∧ (σ82.2.1 73 a = (x1 : Int)) ∧ (σ82.2.1 74 a = (x16 : Int)) ∧ (σ82.2.1 75 a = (x32 : Int)) ∧ (σ82.2.1 76 a = (x49 : Int)) ∧ (σ82.2.1 77 a = (x67 : Int)) ∧ (σ82.2.1 78 a = -1) ∧ (σ82.2.1 79 a = -1) ∧ (σ82.2.1 80 a = 0) := ⟨_, rfl, (cx74.put (by decide)), (rc_o (by decide) f72), (rc_o (by decide) f73), (rc_o (by decide) f74), (rc_o (by decide) f75), (rc_o (by decide) f76), ra_eq, (rc_o (by decide) f78), (rc_o (by decide) f79), (rc_o (by decide) f80)⟩
  rw [← eS84]
  refine tn_aload_n dX8_init_47 rfl 0 rfl ?_
  refine tn_sipush dX8_init_48 (by decide) ?_
  refine tn_newI (N := 201) (k := 1) dX8_init_51 arC_int (by decide) rfl (by decide) (fun x86 hx87 => ?_)
  have ne88 := cx85.ne hx87
  obtain ⟨T89, σ90, eT91, eS92, cx93, f72, f73, f74, f75, f76, f77, f78, f79, f80, o94, o95, o96, o97, o98, o99, o100, nx7, nx41⟩ : ∃ (T89 : CT) (σ90 : MS), T89 = (tT T70 x86 1 201) ∧ σ90 = (rowS (1000 + x86) (fun _ => 0) (gh 201 σ82)) ∧ CX a 8 K 2151 6 T σ T89 σ90 ∧ (σ90.2.1 72 a = -1) ∧ (σ90.2.1 73 a = (x1 : Int)) ∧ (σ90.2.1 74 a = (x16 : Int)) ∧ (σ90.2.1 75 a = (x32 : Int)) ∧ (σ90.2.1 76 a = (x49 : Int)) ∧ (σ90.2.1 77 a = (x67 : Int)) ∧ (σ90.2.1 78 a = -1) ∧ (σ90.2.1 79 a = -1) ∧ (σ90.2.1 80 a = 0) ∧ (T89 fl = (33, 0)) ∧ (T89 x1 = (3, 576)) ∧ (T89 x16 = (3, 3)) ∧ (T89 x32 = (1, 192)) ∧ (T89 x49 = (3, 576)) ∧ (T89 x67 = (3, 603)) ∧ (T89 x86 = (1, 201)) ∧ NX 7 a T T89 ∧ NX 41 a T T89 := ⟨_, _, rfl, rfl, (cx85.newI hx87 (by decide)), (by rw [rowS_ne (by omega)]; exact f72), (by rw [rowS_ne (by omega)]; exact f73), (by rw [rowS_ne (by omega)]; exact f74), (by rw [rowS_ne (by omega)]; exact f75), (by rw [rowS_ne (by omega)]; exact f76), (by rw [rowS_ne (by omega)]; exact f77), (by rw [rowS_ne (by omega)]; exact f78), (by rw [rowS_ne (by omega)]; exact f79), (by rw [rowS_ne (by omega)]; exact f80), (tk_keep o75 (by decide) hx87), (tk_keep o76 (by decide) hx87), (tk_keep o77 (by decide) hx87), (tk_keep o78 (by decide) hx87), (tk_keep o79 (by decide) hx87), (tk_keep o80 (by decide) hx87), tT_eq, (nx7.mk9 (by decide)), (nx41.mk9 (by decide))⟩
  rw [← eT91]
  rw [← eS92]
  refine tn_putFr (ci := 8) (i := 6) (n := 78) (r := true) (v := (x86 : Int)) tyX8 tyX8_ok nmX8 dX8_init_53 rfl lay_8 (by decide) fl8_28 rfl rfl rfl (tyX8_ok 6 (by decide)) (vl_ref rfl).symm rfl rfl (cx93.r (by decide)) rfl rfl ?_
  obtain ⟨σ102, eS104, cx105, f72, f73, f74, f75, f76, f77, f78, f79, f80⟩ : ∃ (σ102 : MS), σ102 = (sA 78 a ((x86 : Int)) σ90) ∧ CX a 8 K 2151 6 T σ T89 σ102 ∧ (σ102.2.1 72 a = -1) ∧ (σ102.2.1 73 a = (x1 : Int)) ∧ (σ102.2.1 74 a = (x16 : Int)) ∧ (σ102.2.1 75 a = (x32 : Int)) ∧ (σ102.2.1 76 a = (x49 : Int)) ∧ (σ102.2.1 77 a = (x67 : Int)) ∧ (σ102.2.1 78 a = (x86 : Int)) ∧ (σ102.2.1 79 a = -1) ∧ (σ102.2.1 80 a = 0) := ⟨_, rfl, (cx93.put (by decide)), (rc_o (by decide) f72), (rc_o (by decide) f73), (rc_o (by decide) f74), (rc_o (by decide) f75), (rc_o (by decide) f76), (rc_o (by decide) f77), ra_eq, (rc_o (by decide) f79), (rc_o (by decide) f80)⟩
  rw [← eS104]
  refine tn_aload_n dX8_init_56 rfl 0 rfl ?_
  refine tn_iconst dX8_init_57 ?_
  refine tn_newJ (N := 3) dX8_init_58 arC_long rfl (by decide) (fun x106 hx107 => ?_)
  have ne108 := cx105.ne hx107
  obtain ⟨T109, σ110, eT111, eS112, cx113, f72, f73, f74, f75, f76, f77, f78, f79, f80, o114, o115, o116, o117, o118, o119, o120, o121, nx7, nx41⟩ : ∃ (T109 : CT) (σ110 : MS), T109 = (tT T89 x106 3 3) ∧ σ110 = (rowL x106 (fun _ => 0) (gh 3 σ102)) ∧ CX a 8 K 2154 7 T σ T109 σ110 ∧ (σ110.2.1 72 a = -1) ∧ (σ110.2.1 73 a = (x1 : Int)) ∧ (σ110.2.1 74 a = (x16 : Int)) ∧ (σ110.2.1 75 a = (x32 : Int)) ∧ (σ110.2.1 76 a = (x49 : Int)) ∧ (σ110.2.1 77 a = (x67 : Int)) ∧ (σ110.2.1 78 a = (x86 : Int)) ∧ (σ110.2.1 79 a = -1) ∧ (σ110.2.1 80 a = 0) ∧ (T109 fl = (33, 0)) ∧ (T109 x1 = (3, 576)) ∧ (T109 x16 = (3, 3)) ∧ (T109 x32 = (1, 192)) ∧ (T109 x49 = (3, 576)) ∧ (T109 x67 = (3, 603)) ∧ (T109 x86 = (1, 201)) ∧ (T109 x106 = (3, 3)) ∧ NX 7 a T T109 ∧ NX 41 a T T109 := ⟨_, _, rfl, rfl, (cx105.newJ hx107), f72, f73, f74, f75, f76, f77, f78, f79, f80, (tk_keep o94 (by decide) hx107), (tk_keep o95 (by decide) hx107), (tk_keep o96 (by decide) hx107), (tk_keep o97 (by decide) hx107), (tk_keep o98 (by decide) hx107), (tk_keep o99 (by decide) hx107), (tk_keep o100 (by decide) hx107), tT_eq, (nx7.mk9 (by decide)), (nx41.mk9 (by decide))⟩
  rw [← eT111]
  rw [← eS112]
  refine tn_putFr (ci := 8) (i := 7) (n := 79) (r := true) (v := (x106 : Int)) tyX8 tyX8_ok nmX8 dX8_init_60 rfl lay_8 (by decide) fl8_31 rfl rfl rfl (tyX8_ok 7 (by decide)) (vl_ref rfl).symm rfl rfl (cx113.r (by decide)) rfl rfl ?_
  obtain ⟨σ123, eS125, cx126, f72, f73, f74, f75, f76, f77, f78, f79, f80⟩ : ∃ (σ123 : MS), σ123 = (sA 79 a ((x106 : Int)) σ110) ∧ CX a 8 K 2154 7 T σ T109 σ123 ∧ (σ123.2.1 72 a = -1) ∧ (σ123.2.1 73 a = (x1 : Int)) ∧ (σ123.2.1 74 a = (x16 : Int)) ∧ (σ123.2.1 75 a = (x32 : Int)) ∧ (σ123.2.1 76 a = (x49 : Int)) ∧ (σ123.2.1 77 a = (x67 : Int)) ∧ (σ123.2.1 78 a = (x86 : Int)) ∧ (σ123.2.1 79 a = (x106 : Int)) ∧ (σ123.2.1 80 a = 0) := ⟨_, rfl, (cx113.put (by decide)), (rc_o (by decide) f72), (rc_o (by decide) f73), (rc_o (by decide) f74), (rc_o (by decide) f75), (rc_o (by decide) f76), (rc_o (by decide) f77), (rc_o (by decide) f78), ra_eq, (rc_o (by decide) f80)⟩
  rw [← eS125]
  refine tn_aload_n dX8_init_63 rfl 0 rfl ?_
  refine tn_aload_n dX8_init_64 rfl 1 rfl ?_
  refine tn_putFr (ci := 8) (i := 0) (n := 72) (r := true) (v := (fl : Int)) tyX8 tyX8_ok nmX8 dX8_init_65 rfl lay_8 (by decide) fl8_34 rfl rfl rfl (tyX8_ok 0 (by decide)) (vl_ref rfl).symm rfl rfl (cx126.r (by decide)) rfl rfl ?_
  obtain ⟨σ128, eS130, cx131, f72, f73, f74, f75, f76, f77, f78, f79, f80⟩ : ∃ (σ128 : MS), σ128 = (sA 72 a ((fl : Int)) σ123) ∧ CX a 8 K 2154 7 T σ T109 σ128 ∧ (σ128.2.1 72 a = (fl : Int)) ∧ (σ128.2.1 73 a = (x1 : Int)) ∧ (σ128.2.1 74 a = (x16 : Int)) ∧ (σ128.2.1 75 a = (x32 : Int)) ∧ (σ128.2.1 76 a = (x49 : Int)) ∧ (σ128.2.1 77 a = (x67 : Int)) ∧ (σ128.2.1 78 a = (x86 : Int)) ∧ (σ128.2.1 79 a = (x106 : Int)) ∧ (σ128.2.1 80 a = 0) := ⟨_, rfl, (cx126.put (by decide)), ra_eq, (rc_o (by decide) f73), (rc_o (by decide) f74), (rc_o (by decide) f75), (rc_o (by decide) f76), (rc_o (by decide) f77), (rc_o (by decide) f78), (rc_o (by decide) f79), (rc_o (by decide) f80)⟩
  rw [← eS130]
  refine tn_tag (ci := 8) (k := 38) (by decide) cx131.1 (by decide) ?_
  have hf9 : ∀ m, m < 111 → cls m = 8 → FO m 38 T109 (σ128.2.1 m a) := fun m hm9 hc9 => by
    have q9 := clsR_8 m hm9 hc9
    have q8 : m = 72 ∨ m = 73 ∨ m = 74 ∨ m = 75 ∨ m = 76 ∨ m = 77 ∨ m = 78 ∨ m = 79 ∨ m = 80 := by omega
    rcases q8 with q8 | q8 | q8 | q8 | q8 | q8 | q8 | q8 | q8
    · subst q8; rw [f72]; exact fo_72 (⟨_, rfl, tg1 o114⟩)
    · subst q8; rw [f73]; exact fo_73 (⟨_, rfl, AR.of o115 (by decide) (by decide)⟩)
    · subst q8; rw [f74]; exact fo_74 (⟨_, rfl, AR.of o116 (by decide) (by decide)⟩)
    · subst q8; rw [f75]; exact fo_75 (⟨_, rfl, AR.of o117 (by decide) (by decide)⟩)
    · subst q8; rw [f76]; exact fo_76 (⟨_, rfl, AR.of o118 (by decide) (by decide)⟩)
    · subst q8; rw [f77]; exact fo_77 (⟨_, rfl, AR.of o119 (by decide) (by decide)⟩)
    · subst q8; rw [f78]; exact fo_78 (⟨_, rfl, AR.of o120 (by decide) (by decide)⟩)
    · subst q8; rw [f79]; exact fo_79 (⟨_, rfl, AR.of o121 (by decide) (by decide)⟩)
    · subst q8; rw [f80]; exact fo_80 (by decide)
  exact tn_vret rfl dX8_init_68 ⟨rfl, tT_eq, cx131.2.1.tag cx131.1 (by decide) hf9 (fun h => absurd h (by decide)), cx131.2.2.1.tag (by rw [cx131.1]; decide) (by decide), cx131.2.2.2.1.tag, cx131.2.2.2.2.1, cx131.2.2.2.2.2, nx7.tag, nx41.tag⟩
end
section
theorem cd_X9_init : Cond.code yX9_init cX9_init 1 none ∈ pWW := pw1 (List.mem_of_getElem? (i := 42) rfl) rfl
abbrev m_X9_init : MT := (yX9_init, cX9_init, 1, none)
theorem ok_X9_init : pOk m_X9_init := ⟨⟨cd_X9_init, ini_9⟩, by decide +kernel, ⟨by decide +kernel, by decide +kernel⟩, Nat.le_of_ble_eq_true rfl⟩
theorem np_X9_init : (parseMethodDescriptor yX9_init.desc).map (fun d => d.parameters.length) = some 0 := by decide +kernel
theorem im_X9_init : Cond.instanceMethod yX9_init ∈ pWW := pw1 (List.mem_of_getElem? (i := 41) rfl) rfl
theorem mlo9_3 : Cond.methodLink RX9 3 objectInit ∈ pWW := pw1 (List.mem_of_getElem? (i := 43) rfl) rfl
theorem dX9_init_0 : decode cX9_init 0 = .ok (.aload_n 0, 1) := by decide +kernel
theorem dX9_init_1 : decode cX9_init 1 = .ok (.invokespecial 3, 3) := by decide +kernel
theorem dX9_init_4 : decode cX9_init 4 = .ok (.aload_n 0, 1) := by decide +kernel
theorem dX9_init_5 : decode cX9_init 5 = .ok (.sipush 1201, 3) := by decide +kernel
theorem dX9_init_8 : decode cX9_init 8 = .ok (.newarray .int, 2) := by decide +kernel
theorem dX9_init_10 : decode cX9_init 10 = .ok (.putfield 9, 3) := by decide +kernel
theorem dX9_init_13 : decode cX9_init 13 = .ok (.aload_n 0, 1) := by decide +kernel
theorem dX9_init_14 : decode cX9_init 14 = .ok (.sipush 1201, 3) := by decide +kernel
theorem dX9_init_17 : decode cX9_init 17 = .ok (.newarray .int, 2) := by decide +kernel
theorem dX9_init_19 : decode cX9_init 19 = .ok (.putfield 15, 3) := by decide +kernel
theorem dX9_init_22 : decode cX9_init 22 = .ok (.aload_n 0, 1) := by decide +kernel
theorem dX9_init_23 : decode cX9_init 23 = .ok (.sipush 1201, 3) := by decide +kernel
theorem dX9_init_26 : decode cX9_init 26 = .ok (.newarray .int, 2) := by decide +kernel
theorem dX9_init_28 : decode cX9_init 28 = .ok (.putfield 18, 3) := by decide +kernel
theorem dX9_init_31 : decode cX9_init 31 = .ok (.return_, 1) := by decide +kernel
set_option maxRecDepth 20000 in
theorem kc_X9_init_39 (d : Nat) {T : CT} {σ : MS} {a : Nat} {K : List Nat} (hraw : T a = (80 + 9, 0)) (hb : WTn T σ) (hcd : CD K T) (hdf : ∀ j, j < 200 → σ.2.1 j (a : Int) = dfF j) : Tn (d + 1) m_X9_init 0 T σ [(0, .ref a)] [] (fun ro T2 σ2 => ro = none ∧ T2 a = (39, 0) ∧ WTn T2 σ2 ∧ CD K T2 ∧ KPx a T σ T2 σ2 ∧ σ2.1 0 = σ.1 0 + (3603 : Nat) ∧ σ2.1 1 = σ.1 1 + (3 : Nat) ∧ NX 7 a T T2 ∧ NX 41 a T T2) := by
  have cx0 : CX a 9 K 0 0 T σ T σ := CX.begin hraw hb hcd
  have nx7 : NX 7 a T T := NX.begin (by decide)
  have nx41 : NX 41 a T T := NX.begin (by decide)
  have f81 : σ.2.1 81 a = -1 := (hdf 81 (by decide)).trans (by decide)
  have f82 : σ.2.1 82 a = -1 := (hdf 82 (by decide)).trans (by decide)
  have f83 : σ.2.1 83 a = -1 := (hdf 83 (by decide)).trans (by decide)
  have f84 : σ.2.1 84 a = 0 := (hdf 84 (by decide)).trans (by decide)
  have f85 : σ.2.1 85 a = 0 := (hdf 85 (by decide)).trans (by decide)
  have f86 : σ.2.1 86 a = 0 := (hdf 86 (by decide)).trans (by decide)
  have f87 : σ.2.1 87 a = 0 := (hdf 87 (by decide)).trans (by decide)
  refine tn_aload_n dX9_init_0 rfl 0 rfl ?_
  refine tn_objInit dX9_init_1 mlo9_3 oiI oiC (by omega) (Nat.le_of_ble_eq_true rfl) ?_
  refine tn_aload_n dX9_init_4 rfl 0 rfl ?_
  refine tn_sipush dX9_init_5 (by decide) ?_
  refine tn_newI (N := 1201) (k := 12) dX9_init_8 arC_int (by decide) rfl (by decide) (fun x1 hx2 => ?_)
  have ne3 := cx0.ne hx2
  obtain ⟨T4, σ5, eT6, eS7, cx8, f81, f82, f83, f84, f85, f86, f87, o9, nx7, nx41⟩ : ∃ (T4 : CT) (σ5 : MS), T4 = (tT T x1 12 1201) ∧ σ5 = (rowS (1000 + x1) (fun _ => 0) (gh 1201 σ)) ∧ CX a 9 K 1201 1 T σ T4 σ5 ∧ (σ5.2.1 81 a = -1) ∧ (σ5.2.1 82 a = -1) ∧ (σ5.2.1 83 a = -1) ∧ (σ5.2.1 84 a = 0) ∧ (σ5.2.1 85 a = 0) ∧ (σ5.2.1 86 a = 0) ∧ (σ5.2.1 87 a = 0) ∧ (T4 x1 = (12, 1201)) ∧ NX 7 a T T4 ∧ NX 41 a T T4 := ⟨_, _, rfl, rfl, (cx0.newI hx2 (by decide)), (by rw [rowS_ne (by omega)]; exact f81), (by rw [rowS_ne (by omega)]; exact f82), (by rw [rowS_ne (by omega)]; exact f83), (by rw [rowS_ne (by omega)]; exact f84), (by rw [rowS_ne (by omega)]; exact f85), (by rw [rowS_ne (by omega)]; exact f86), (by rw [rowS_ne (by omega)]; exact f87), tT_eq, (nx7.mk9 (by decide)), (nx41.mk9 (by decide))⟩
  rw [← eT6]
  rw [← eS7]
  refine tn_putFr (ci := 9) (i := 0) (n := 81) (r := true) (v := (x1 : Int)) tyX9 tyX9_ok nmX9 dX9_init_10 rfl lay_9 (by decide) fl9_9 rfl rfl rfl (tyX9_ok 0 (by decide)) (vl_ref rfl).symm rfl rfl (cx8.r (by decide)) rfl rfl ?_
  obtain ⟨σ11, eS13, cx14, f81, f82, f83, f84, f85, f86, f87⟩ : ∃ (σ11 : MS), σ11 = (sA 81 a ((x1 : Int)) σ5) ∧ CX a 9 K 1201 1 T σ T4 σ11 ∧ (σ11.2.1 81 a = (x1 : Int)) ∧ (σ11.2.1 82 a = -1) ∧ (σ11.2.1 83 a = -1) ∧ (σ11.2.1 84 a = 0) ∧ (σ11.2.1 85 a = 0) ∧ (σ11.2.1 86 a = 0) ∧ (σ11.2.1 87 a = 0) := ⟨_, rfl, (cx8.put (by decide)), ra_eq, (rc_o (by decide) f82), (rc_o (by decide) f83), (rc_o (by decide) f84), (rc_o (by decide) f85), (rc_o (by decide) f86), (rc_o (by decide) f87)⟩
  rw [← eS13]
  refine tn_aload_n dX9_init_13 rfl 0 rfl ?_
  refine tn_sipush dX9_init_14 (by decide) ?_
  refine tn_newI (N := 1201) (k := 22) dX9_init_17 arC_int (by decide) rfl (by decide) (fun x15 hx16 => ?_)
  have ne17 := cx14.ne hx16
  obtain ⟨T18, σ19, eT20, eS21, cx22, f81, f82, f83, f84, f85, f86, f87, o23, o24, nx7, nx41⟩ : ∃ (T18 : CT) (σ19 : MS), T18 = (tT T4 x15 22 1201) ∧ σ19 = (rowS (1000 + x15) (fun _ => 0) (gh 1201 σ11)) ∧ CX a 9 K 2402 2 T σ T18 σ19 ∧ (σ19.2.1 81 a = (x1 : Int)) ∧ (σ19.2.1 82 a = -1) ∧ (σ19.2.1 83 a = -1) ∧ (σ19.2.1 84 a = 0) ∧ (σ19.2.1 85 a = 0) ∧ (σ19.2.1 86 a = 0) ∧ (σ19.2.1 87 a = 0) ∧ (T18 x1 = (12, 1201)) ∧ (T18 x15 = (22, 1201)) ∧ NX 7 a T T18 ∧ NX 41 a T T18 := ⟨_, _, rfl, rfl, (cx14.newI hx16 (by decide)), (by rw [rowS_ne (by omega)]; exact f81), (by rw [rowS_ne (by omega)]; exact f82), (by rw [rowS_ne (by omega)]; exact f83), (by rw [rowS_ne (by omega)]; exact f84), (by rw [rowS_ne (by omega)]; exact f85), (by rw [rowS_ne (by omega)]; exact f86), (by rw [rowS_ne (by omega)]; exact f87), (tk_keep o9 (by decide) hx16), tT_eq, (nx7.mk9 (by decide)), (nx41.mk9 (by decide))⟩
  rw [← eT20]
  rw [← eS21]
  refine tn_putFr (ci := 9) (i := 1) (n := 82) (r := true) (v := (x15 : Int)) tyX9 tyX9_ok nmX9 dX9_init_19 rfl lay_9 (by decide) fl9_15 rfl rfl rfl (tyX9_ok 1 (by decide)) (vl_ref rfl).symm rfl rfl (cx22.r (by decide)) rfl rfl ?_
  obtain ⟨σ26, eS28, cx29, f81, f82, f83, f84, f85, f86, f87⟩ : ∃ (σ26 : MS), σ26 = (sA 82 a ((x15 : Int)) σ19) ∧ CX a 9 K 2402 2 T σ T18 σ26 ∧ (σ26.2.1 81 a = (x1 : Int)) ∧ (σ26.2.1 82 a = (x15 : Int)) ∧ (σ26.2.1 83 a = -1) ∧ (σ26.2.1 84 a = 0) ∧ (σ26.2.1 85 a = 0) ∧ (σ26.2.1 86 a = 0) ∧ (σ26.2.1 87 a = 0) := ⟨_, rfl, (cx22.put (by decide)), (rc_o (by decide) f81), ra_eq, (rc_o (by decide) f83), (rc_o (by decide) f84), (rc_o (by decide) f85), (rc_o (by decide) f86), (rc_o (by decide) f87)⟩
  rw [← eS28]
  refine tn_aload_n dX9_init_22 rfl 0 rfl ?_
  refine tn_sipush dX9_init_23 (by decide) ?_
  refine tn_newI (N := 1201) (k := 23) dX9_init_26 arC_int (by decide) rfl (by decide) (fun x30 hx31 => ?_)
  have ne32 := cx29.ne hx31
  obtain ⟨T33, σ34, eT35, eS36, cx37, f81, f82, f83, f84, f85, f86, f87, o38, o39, o40, nx7, nx41⟩ : ∃ (T33 : CT) (σ34 : MS), T33 = (tT T18 x30 23 1201) ∧ σ34 = (rowS (1000 + x30) (fun _ => 0) (gh 1201 σ26)) ∧ CX a 9 K 3603 3 T σ T33 σ34 ∧ (σ34.2.1 81 a = (x1 : Int)) ∧ (σ34.2.1 82 a = (x15 : Int)) ∧ (σ34.2.1 83 a = -1) ∧ (σ34.2.1 84 a = 0) ∧ (σ34.2.1 85 a = 0) ∧ (σ34.2.1 86 a = 0) ∧ (σ34.2.1 87 a = 0) ∧ (T33 x1 = (12, 1201)) ∧ (T33 x15 = (22, 1201)) ∧ (T33 x30 = (23, 1201)) ∧ NX 7 a T T33 ∧ NX 41 a T T33 := ⟨_, _, rfl, rfl, (cx29.newI hx31 (by decide)), (by rw [rowS_ne (by omega)]; exact f81), (by rw [rowS_ne (by omega)]; exact f82), (by rw [rowS_ne (by omega)]; exact f83), (by rw [rowS_ne (by omega)]; exact f84), (by rw [rowS_ne (by omega)]; exact f85), (by rw [rowS_ne (by omega)]; exact f86), (by rw [rowS_ne (by omega)]; exact f87), (tk_keep o23 (by decide) hx31), (tk_keep o24 (by decide) hx31), tT_eq, (nx7.mk9 (by decide)), (nx41.mk9 (by decide))⟩
  rw [← eT35]
  rw [← eS36]
  refine tn_putFr (ci := 9) (i := 2) (n := 83) (r := true) (v := (x30 : Int)) tyX9 tyX9_ok nmX9 dX9_init_28 rfl lay_9 (by decide) fl9_18 rfl rfl rfl (tyX9_ok 2 (by decide)) (vl_ref rfl).symm rfl rfl (cx37.r (by decide)) rfl rfl ?_
  obtain ⟨σ42, eS44, cx45, f81, f82, f83, f84, f85, f86, f87⟩ : ∃ (σ42 : MS), σ42 = (sA 83 a ((x30 : Int)) σ34) ∧ CX a 9 K 3603 3 T σ T33 σ42 ∧ (σ42.2.1 81 a = (x1 : Int)) ∧ (σ42.2.1 82 a = (x15 : Int)) ∧ (σ42.2.1 83 a = (x30 : Int)) ∧ (σ42.2.1 84 a = 0) ∧ (σ42.2.1 85 a = 0) ∧ (σ42.2.1 86 a = 0) ∧ (σ42.2.1 87 a = 0) := ⟨_, rfl, (cx37.put (by decide)), (rc_o (by decide) f81), (rc_o (by decide) f82), ra_eq, (rc_o (by decide) f84), (rc_o (by decide) f85), (rc_o (by decide) f86), (rc_o (by decide) f87)⟩
  rw [← eS44]
  refine tn_tag (ci := 9) (k := 39) (by decide) cx45.1 (by decide) ?_
  have hf9 : ∀ m, m < 111 → cls m = 9 → FO m 39 T33 (σ42.2.1 m a) := fun m hm9 hc9 => by
    have q9 := clsR_9 m hm9 hc9
    have q8 : m = 81 ∨ m = 82 ∨ m = 83 ∨ m = 84 ∨ m = 85 ∨ m = 86 ∨ m = 87 := by omega
    rcases q8 with q8 | q8 | q8 | q8 | q8 | q8 | q8
    · subst q8; rw [f81]; exact fo_81 (⟨_, rfl, AR.of o38 (by decide) (by decide)⟩)
    · subst q8; rw [f82]; exact fo_82 (⟨_, rfl, AR.of o39 (by decide) (by decide)⟩)
    · subst q8; rw [f83]; exact fo_83 (⟨_, rfl, AR.of o40 (by decide) (by decide)⟩)
    · subst q8; rw [f84]; exact fo_84 (by decide)
    · subst q8; rw [f85]; exact fo_85 (by decide)
    · subst q8; rw [f86]; exact fo_86 (by decide)
    · subst q8; rw [f87]; exact fo_87 (by decide)
  exact tn_vret rfl dX9_init_31 ⟨rfl, tT_eq, cx45.2.1.tag cx45.1 (by decide) hf9 (fun h => absurd h (by decide)), cx45.2.2.1.tag (by rw [cx45.1]; decide) (by decide), cx45.2.2.2.1.tag, cx45.2.2.2.2.1, cx45.2.2.2.2.2, nx7.tag, nx41.tag⟩
end
section
theorem cd_X10_init : Cond.code yX10_init cX10_init 1 none ∈ pWW := pw2 (List.mem_of_getElem? (i := 3) rfl) rfl
abbrev m_X10_init : MT := (yX10_init, cX10_init, 1, none)
theorem ok_X10_init : pOk m_X10_init := ⟨⟨cd_X10_init, ini_10⟩, by decide +kernel, ⟨by decide +kernel, by decide +kernel⟩, Nat.le_of_ble_eq_true rfl⟩
theorem np_X10_init : (parseMethodDescriptor yX10_init.desc).map (fun d => d.parameters.length) = some 0 := by decide +kernel
theorem im_X10_init : Cond.instanceMethod yX10_init ∈ pWW := pw2 (List.mem_of_getElem? (i := 2) rfl) rfl
theorem mlo10_3 : Cond.methodLink RX10 3 objectInit ∈ pWW := pw2 (List.mem_of_getElem? (i := 4) rfl) rfl
theorem cl10_9 : Cond.classLink RX10 9 "[I" ∈ pWW := pw2 (List.mem_of_getElem? (i := 5) rfl) rfl
theorem dX10_init_0 : decode cX10_init 0 = .ok (.aload_n 0, 1) := by decide +kernel
theorem dX10_init_1 : decode cX10_init 1 = .ok (.invokespecial 3, 3) := by decide +kernel
theorem dX10_init_4 : decode cX10_init 4 = .ok (.aload_n 0, 1) := by decide +kernel
theorem dX10_init_5 : decode cX10_init 5 = .ok (.bipush 6, 2) := by decide +kernel
theorem dX10_init_7 : decode cX10_init 7 = .ok (.anewarray 9, 3) := by decide +kernel
theorem dX10_init_10 : decode cX10_init 10 = .ok (.putfield 11, 3) := by decide +kernel
theorem dX10_init_13 : decode cX10_init 13 = .ok (.aload_n 0, 1) := by decide +kernel
theorem dX10_init_14 : decode cX10_init 14 = .ok (.bipush 6, 2) := by decide +kernel
theorem dX10_init_16 : decode cX10_init 16 = .ok (.newarray .int, 2) := by decide +kernel
theorem dX10_init_18 : decode cX10_init 18 = .ok (.putfield 17, 3) := by decide +kernel
theorem dX10_init_21 : decode cX10_init 21 = .ok (.aload_n 0, 1) := by decide +kernel
theorem dX10_init_22 : decode cX10_init 22 = .ok (.sipush 200, 3) := by decide +kernel
theorem dX10_init_25 : decode cX10_init 25 = .ok (.newarray .int, 2) := by decide +kernel
theorem dX10_init_27 : decode cX10_init 27 = .ok (.putfield 20, 3) := by decide +kernel
theorem dX10_init_30 : decode cX10_init 30 = .ok (.aload_n 0, 1) := by decide +kernel
theorem dX10_init_31 : decode cX10_init 31 = .ok (.sipush 145, 3) := by decide +kernel
theorem dX10_init_34 : decode cX10_init 34 = .ok (.newarray .int, 2) := by decide +kernel
theorem dX10_init_36 : decode cX10_init 36 = .ok (.putfield 23, 3) := by decide +kernel
theorem dX10_init_39 : decode cX10_init 39 = .ok (.return_, 1) := by decide +kernel
set_option maxRecDepth 20000 in
theorem kc_X10_init_40 (d : Nat) {T : CT} {σ : MS} {a : Nat} {K : List Nat} (hraw : T a = (80 + 10, 0)) (hb : WTn T σ) (hcd : CD K T) (hdf : ∀ j, j < 200 → σ.2.1 j (a : Int) = dfF j) (h9 : σ.2.1 900 = fun _ => -1) (h7 : ∀ c, (T c).1 ≠ 7) : Tn (d + 1) m_X10_init 0 T σ [(0, .ref a)] [] (fun ro T2 σ2 => ro = none ∧ T2 a = (40, 0) ∧ WTn T2 σ2 ∧ CD K T2 ∧ KPx a T σ T2 σ2 ∧ σ2.1 0 = σ.1 0 + (357 : Nat) ∧ σ2.1 1 = σ.1 1 + (4 : Nat) ∧ NX 41 a T T2) := by
  have cx0 : CX a 10 K 0 0 T σ T σ := CX.begin hraw hb hcd
  have nx41 : NX 41 a T T := NX.begin (by decide)
  have f88 : σ.2.1 88 a = -1 := (hdf 88 (by decide)).trans (by decide)
  have f89 : σ.2.1 89 a = -1 := (hdf 89 (by decide)).trans (by decide)
  have f90 : σ.2.1 90 a = -1 := (hdf 90 (by decide)).trans (by decide)
  have f91 : σ.2.1 91 a = -1 := (hdf 91 (by decide)).trans (by decide)
  have f92 : σ.2.1 92 a = -1 := (hdf 92 (by decide)).trans (by decide)
  have f93 : σ.2.1 93 a = 0 := (hdf 93 (by decide)).trans (by decide)
  have f94 : σ.2.1 94 a = 0 := (hdf 94 (by decide)).trans (by decide)
  refine tn_aload_n dX10_init_0 rfl 0 rfl ?_
  refine tn_objInit dX10_init_1 mlo10_3 oiI oiC (by omega) (Nat.le_of_ble_eq_true rfl) ?_
  refine tn_aload_n dX10_init_4 rfl 0 rfl ?_
  refine tn_bipush dX10_init_5 (by decide) ?_
  refine tn_anM (N := 6) h7 dX10_init_7 cl10_9 rfl (by decide) (fun x1 hx2 => ?_)
  have ne3 := cx0.ne hx2
  obtain ⟨T4, σ5, eT6, eS7, cx8, f88, f89, f90, f91, f92, f93, f94, o9, nx41⟩ : ∃ (T4 : CT) (σ5 : MS), T4 = (tT T x1 7 6) ∧ σ5 = (rowS 900 (fun _ => -1) (gh 6 σ)) ∧ CX a 10 K 6 1 T σ T4 σ5 ∧ (σ5.2.1 88 a = -1) ∧ (σ5.2.1 89 a = -1) ∧ (σ5.2.1 90 a = -1) ∧ (σ5.2.1 91 a = -1) ∧ (σ5.2.1 92 a = -1) ∧ (σ5.2.1 93 a = 0) ∧ (σ5.2.1 94 a = 0) ∧ (T4 x1 = (7, 6)) ∧ NX 41 a T T4 := ⟨_, _, rfl, rfl, (cx0.newM hx2 h9 h7), (by rw [rowS_ne (by omega)]; exact f88), (by rw [rowS_ne (by omega)]; exact f89), (by rw [rowS_ne (by omega)]; exact f90), (by rw [rowS_ne (by omega)]; exact f91), (by rw [rowS_ne (by omega)]; exact f92), (by rw [rowS_ne (by omega)]; exact f93), (by rw [rowS_ne (by omega)]; exact f94), tT_eq, (nx41.mk9 (by decide))⟩
  rw [← eT6]
  rw [← eS7]
  refine tn_putFr (ci := 10) (i := 0) (n := 88) (r := true) (v := (x1 : Int)) tyX10 tyX10_ok nmX10 dX10_init_10 rfl lay_10 (by decide) fl10_11 rfl rfl rfl (tyX10_ok 0 (by decide)) (vl_ref rfl).symm rfl rfl (cx8.r (by decide)) rfl rfl ?_
  obtain ⟨σ11, eS13, cx14, f88, f89, f90, f91, f92, f93, f94⟩ : ∃ (σ11 : MS), σ11 = (sA 88 a ((x1 : Int)) σ5) ∧ CX a 10 K 6 1 T σ T4 σ11 ∧ (σ11.2.1 88 a = (x1 : Int)) ∧ (σ11.2.1 89 a = -1) ∧ (σ11.2.1 90 a = -1) ∧ (σ11.2.1 91 a = -1) ∧ (σ11.2.1 92 a = -1) ∧ (σ11.2.1 93 a = 0) ∧ (σ11.2.1 94 a = 0) := ⟨_, rfl, (cx8.put (by decide)), ra_eq, (rc_o (by decide) f89), (rc_o (by decide) f90), (rc_o (by decide) f91), (rc_o (by decide) f92), (rc_o (by decide) f93), (rc_o (by decide) f94)⟩
  rw [← eS13]
  refine tn_aload_n dX10_init_13 rfl 0 rfl ?_
  refine tn_bipush dX10_init_14 (by decide) ?_
  refine tn_newI (N := 6) (k := 1) dX10_init_16 arC_int (by decide) rfl (by decide) (fun x15 hx16 => ?_)
  have ne17 := cx14.ne hx16
  obtain ⟨T18, σ19, eT20, eS21, cx22, f88, f89, f90, f91, f92, f93, f94, o23, o24, nx41⟩ : ∃ (T18 : CT) (σ19 : MS), T18 = (tT T4 x15 1 6) ∧ σ19 = (rowS (1000 + x15) (fun _ => 0) (gh 6 σ11)) ∧ CX a 10 K 12 2 T σ T18 σ19 ∧ (σ19.2.1 88 a = (x1 : Int)) ∧ (σ19.2.1 89 a = -1) ∧ (σ19.2.1 90 a = -1) ∧ (σ19.2.1 91 a = -1) ∧ (σ19.2.1 92 a = -1) ∧ (σ19.2.1 93 a = 0) ∧ (σ19.2.1 94 a = 0) ∧ (T18 x1 = (7, 6)) ∧ (T18 x15 = (1, 6)) ∧ NX 41 a T T18 := ⟨_, _, rfl, rfl, (cx14.newI hx16 (by decide)), (by rw [rowS_ne (by omega)]; exact f88), (by rw [rowS_ne (by omega)]; exact f89), (by rw [rowS_ne (by omega)]; exact f90), (by rw [rowS_ne (by omega)]; exact f91), (by rw [rowS_ne (by omega)]; exact f92), (by rw [rowS_ne (by omega)]; exact f93), (by rw [rowS_ne (by omega)]; exact f94), (tk_keep o9 (by decide) hx16), tT_eq, (nx41.mk9 (by decide))⟩
  rw [← eT20]
  rw [← eS21]
  refine tn_putFr (ci := 10) (i := 1) (n := 89) (r := true) (v := (x15 : Int)) tyX10 tyX10_ok nmX10 dX10_init_18 rfl lay_10 (by decide) fl10_17 rfl rfl rfl (tyX10_ok 1 (by decide)) (vl_ref rfl).symm rfl rfl (cx22.r (by decide)) rfl rfl ?_
  obtain ⟨σ26, eS28, cx29, f88, f89, f90, f91, f92, f93, f94⟩ : ∃ (σ26 : MS), σ26 = (sA 89 a ((x15 : Int)) σ19) ∧ CX a 10 K 12 2 T σ T18 σ26 ∧ (σ26.2.1 88 a = (x1 : Int)) ∧ (σ26.2.1 89 a = (x15 : Int)) ∧ (σ26.2.1 90 a = -1) ∧ (σ26.2.1 91 a = -1) ∧ (σ26.2.1 92 a = -1) ∧ (σ26.2.1 93 a = 0) ∧ (σ26.2.1 94 a = 0) := ⟨_, rfl, (cx22.put (by decide)), (rc_o (by decide) f88), ra_eq, (rc_o (by decide) f90), (rc_o (by decide) f91), (rc_o (by decide) f92), (rc_o (by decide) f93), (rc_o (by decide) f94)⟩
  rw [← eS28]
  refine tn_aload_n dX10_init_21 rfl 0 rfl ?_
  refine tn_sipush dX10_init_22 (by decide) ?_
  refine tn_newI (N := 200) (k := 1) dX10_init_25 arC_int (by decide) rfl (by decide) (fun x30 hx31 => ?_)
  have ne32 := cx29.ne hx31
  obtain ⟨T33, σ34, eT35, eS36, cx37, f88, f89, f90, f91, f92, f93, f94, o38, o39, o40, nx41⟩ : ∃ (T33 : CT) (σ34 : MS), T33 = (tT T18 x30 1 200) ∧ σ34 = (rowS (1000 + x30) (fun _ => 0) (gh 200 σ26)) ∧ CX a 10 K 212 3 T σ T33 σ34 ∧ (σ34.2.1 88 a = (x1 : Int)) ∧ (σ34.2.1 89 a = (x15 : Int)) ∧ (σ34.2.1 90 a = -1) ∧ (σ34.2.1 91 a = -1) ∧ (σ34.2.1 92 a = -1) ∧ (σ34.2.1 93 a = 0) ∧ (σ34.2.1 94 a = 0) ∧ (T33 x1 = (7, 6)) ∧ (T33 x15 = (1, 6)) ∧ (T33 x30 = (1, 200)) ∧ NX 41 a T T33 := ⟨_, _, rfl, rfl, (cx29.newI hx31 (by decide)), (by rw [rowS_ne (by omega)]; exact f88), (by rw [rowS_ne (by omega)]; exact f89), (by rw [rowS_ne (by omega)]; exact f90), (by rw [rowS_ne (by omega)]; exact f91), (by rw [rowS_ne (by omega)]; exact f92), (by rw [rowS_ne (by omega)]; exact f93), (by rw [rowS_ne (by omega)]; exact f94), (tk_keep o23 (by decide) hx31), (tk_keep o24 (by decide) hx31), tT_eq, (nx41.mk9 (by decide))⟩
  rw [← eT35]
  rw [← eS36]
  refine tn_putFr (ci := 10) (i := 2) (n := 90) (r := true) (v := (x30 : Int)) tyX10 tyX10_ok nmX10 dX10_init_27 rfl lay_10 (by decide) fl10_20 rfl rfl rfl (tyX10_ok 2 (by decide)) (vl_ref rfl).symm rfl rfl (cx37.r (by decide)) rfl rfl ?_
  obtain ⟨σ42, eS44, cx45, f88, f89, f90, f91, f92, f93, f94⟩ : ∃ (σ42 : MS), σ42 = (sA 90 a ((x30 : Int)) σ34) ∧ CX a 10 K 212 3 T σ T33 σ42 ∧ (σ42.2.1 88 a = (x1 : Int)) ∧ (σ42.2.1 89 a = (x15 : Int)) ∧ (σ42.2.1 90 a = (x30 : Int)) ∧ (σ42.2.1 91 a = -1) ∧ (σ42.2.1 92 a = -1) ∧ (σ42.2.1 93 a = 0) ∧ (σ42.2.1 94 a = 0) := ⟨_, rfl, (cx37.put (by decide)), (rc_o (by decide) f88), (rc_o (by decide) f89), ra_eq, (rc_o (by decide) f91), (rc_o (by decide) f92), (rc_o (by decide) f93), (rc_o (by decide) f94)⟩
  rw [← eS44]
  refine tn_aload_n dX10_init_30 rfl 0 rfl ?_
  refine tn_sipush dX10_init_31 (by decide) ?_
  refine tn_newI (N := 145) (k := 1) dX10_init_34 arC_int (by decide) rfl (by decide) (fun x46 hx47 => ?_)
  have ne48 := cx45.ne hx47
  obtain ⟨T49, σ50, eT51, eS52, cx53, f88, f89, f90, f91, f92, f93, f94, o54, o55, o56, o57, nx41⟩ : ∃ (T49 : CT) (σ50 : MS), T49 = (tT T33 x46 1 145) ∧ σ50 = (rowS (1000 + x46) (fun _ => 0) (gh 145 σ42)) ∧ CX a 10 K 357 4 T σ T49 σ50 ∧ (σ50.2.1 88 a = (x1 : Int)) ∧ (σ50.2.1 89 a = (x15 : Int)) ∧ (σ50.2.1 90 a = (x30 : Int)) ∧ (σ50.2.1 91 a = -1) ∧ (σ50.2.1 92 a = -1) ∧ (σ50.2.1 93 a = 0) ∧ (σ50.2.1 94 a = 0) ∧ (T49 x1 = (7, 6)) ∧ (T49 x15 = (1, 6)) ∧ (T49 x30 = (1, 200)) ∧ (T49 x46 = (1, 145)) ∧ NX 41 a T T49 := ⟨_, _, rfl, rfl, (cx45.newI hx47 (by decide)), (by rw [rowS_ne (by omega)]; exact f88), (by rw [rowS_ne (by omega)]; exact f89), (by rw [rowS_ne (by omega)]; exact f90), (by rw [rowS_ne (by omega)]; exact f91), (by rw [rowS_ne (by omega)]; exact f92), (by rw [rowS_ne (by omega)]; exact f93), (by rw [rowS_ne (by omega)]; exact f94), (tk_keep o38 (by decide) hx47), (tk_keep o39 (by decide) hx47), (tk_keep o40 (by decide) hx47), tT_eq, (nx41.mk9 (by decide))⟩
  rw [← eT51]
  rw [← eS52]
  refine tn_putFr (ci := 10) (i := 3) (n := 91) (r := true) (v := (x46 : Int)) tyX10 tyX10_ok nmX10 dX10_init_36 rfl lay_10 (by decide) fl10_23 rfl rfl rfl (tyX10_ok 3 (by decide)) (vl_ref rfl).symm rfl rfl (cx53.r (by decide)) rfl rfl ?_
  obtain ⟨σ59, eS61, cx62, f88, f89, f90, f91, f92, f93, f94⟩ : ∃ (σ59 : MS), σ59 = (sA 91 a ((x46 : Int)) σ50) ∧ CX a 10 K 357 4 T σ T49 σ59 ∧ (σ59.2.1 88 a = (x1 : Int)) ∧ (σ59.2.1 89 a = (x15 : Int)) ∧ (σ59.2.1 90 a = (x30 : Int)) ∧ (σ59.2.1 91 a = (x46 : Int)) ∧ (σ59.2.1 92 a = -1) ∧ (σ59.2.1 93 a = 0) ∧ (σ59.2.1 94 a = 0) := ⟨_, rfl, (cx53.put (by decide)), (rc_o (by decide) f88), (rc_o (by decide) f89), (rc_o (by decide) f90), ra_eq, (rc_o (by decide) f92), (rc_o (by decide) f93), (rc_o (by decide) f94)⟩
  rw [← eS61]
  refine tn_tag (ci := 10) (k := 40) (by decide) cx62.1 (by decide) ?_
  have hf9 : ∀ m, m < 111 → cls m = 10 → FO m 40 T49 (σ59.2.1 m a) := fun m hm9 hc9 => by
    have q9 := clsR_10 m hm9 hc9
    have q8 : m = 88 ∨ m = 89 ∨ m = 90 ∨ m = 91 ∨ m = 92 ∨ m = 93 ∨ m = 94 := by omega
    rcases q8 with q8 | q8 | q8 | q8 | q8 | q8 | q8
    · subst q8; rw [f88]; exact fo_88 (⟨_, rfl, AR.of o54 (by decide) (by decide)⟩)
    · subst q8; rw [f89]; exact fo_89 (⟨_, rfl, AR.of o55 (by decide) (by decide)⟩)
    · subst q8; rw [f90]; exact fo_90 (⟨_, rfl, AR.of o56 (by decide) (by decide)⟩)
    · subst q8; rw [f91]; exact fo_91 (⟨_, rfl, AR.of o57 (by decide) (by decide)⟩)
    · subst q8; rw [f92]; exact fo_92 (Or.inl (by decide))
    · subst q8; rw [f93]; exact fo_93 (by decide)
    · subst q8; rw [f94]; exact fo_94 (by decide)
  exact tn_vret rfl dX10_init_39 ⟨rfl, tT_eq, cx62.2.1.tag cx62.1 (by decide) hf9 (fun h => absurd h (by decide)), cx62.2.2.1.tag (by rw [cx62.1]; decide) (by decide), cx62.2.2.2.1.tag, cx62.2.2.2.2.1, cx62.2.2.2.2.2, nx41.tag⟩
end
section
/-- the pair's torn run is another than the keeper's -/
def SEP (σ : MS) (a : Nat) : Prop := ∀ p : Nat, σ.2.1 110 a = (p : Int) → σ.2.1 0 p ≠ σ.2.1 103 a
theorem SEP.frc {T : CT} {ks : List Nat} {σ τ : MS} {a : Nat} (h : SEP σ a) (f : FrC T ks σ τ) (h0 : 0 ∉ ks) (h1 : 103 ∉ ks) (h2 : 110 ∉ ks) : SEP τ a := fun p q => by
  rw [f.1 110 (by omega) h2] at q
  rw [f.1 0 (by omega) h0, f.1 103 (by omega) h1]
  exact h p q
theorem TR.fa {σ τ : MS} {a x : Nat} {B : Int} (h : TR σ a B) (f : FA x σ τ) (hx : ∀ t : Nat, σ.2.1 103 a = (t : Int) → t ≠ x) (h3 : τ.2.1 103 a = σ.2.1 103 a) : TR τ a B := fun t q => by
  rw [h3] at q
  rw [f 57 t (by decide) (hx t q)]
  exact h t q
theorem TR.f57 {σ τ : MS} {a p t0 p0 : Nat} {B : Int} (h : TR σ a B) (f : F57 p σ τ) (h0 : σ.2.1 0 p = (t0 : Int)) (h1 : σ.2.1 1 p = (p0 : Int)) (hx : ∀ t : Nat, σ.2.1 103 a = (t : Int) → t ≠ t0 ∧ t ≠ p0) (h3 : τ.2.1 103 a = σ.2.1 103 a) : TR τ a B := fun t q => by
  rw [h3] at q
  obtain ⟨q1, q2⟩ := hx t q
  rw [f t t0 p0 h0 h1 q1 q2]
  exact h t q
end
section
theorem cd_X11_beside : Cond.code yX11_beside cX11_beside 8 (some .int) ∈ pWW := pw6 (List.mem_of_getElem? (i := 171) rfl) rfl
abbrev m_X11_beside : MT := (yX11_beside, cX11_beside, 8, (some .int))
theorem ok_X11_beside : pOk m_X11_beside := ⟨⟨cd_X11_beside, ini_11⟩, by decide +kernel, ⟨by decide +kernel, by decide +kernel⟩, Nat.le_of_ble_eq_true rfl⟩
theorem np_X11_beside : (parseMethodDescriptor yX11_beside.desc).map (fun d => d.parameters.length) = some 6 := by decide +kernel
theorem im_X11_beside : Cond.instanceMethod yX11_beside ∈ pWW := pw6 (List.mem_of_getElem? (i := 169) rfl) rfl
theorem se_X11_beside : Cond.selects RX11 yX11_beside yX11_beside ∈ pWW := pw6 (List.mem_of_getElem? (i := 170) rfl) rfl
theorem dX11_beside_50 : decode cX11_beside 50 = .ok (.iconst 0, 1) := by decide +kernel
theorem dX11_beside_51 : decode cX11_beside 51 = .ok (.istore 7, 2) := by decide +kernel
theorem dX11_beside_53 : decode cX11_beside 53 = .ok (.iload 7, 2) := by decide +kernel
theorem dX11_beside_55 : decode cX11_beside 55 = .ok (.aload_n 0, 1) := by decide +kernel
theorem dX11_beside_56 : decode cX11_beside 56 = .ok (.getfield 116, 3) := by decide +kernel
theorem dX11_beside_59 : decode cX11_beside 59 = .ok (.if_icmp .ge 24, 3) := by decide +kernel
theorem dX11_beside_62 : decode cX11_beside 62 = .ok (.aload_n 0, 1) := by decide +kernel
theorem dX11_beside_63 : decode cX11_beside 63 = .ok (.getfield 39, 3) := by decide +kernel
theorem dX11_beside_66 : decode cX11_beside 66 = .ok (.iload 7, 2) := by decide +kernel
theorem dX11_beside_68 : decode cX11_beside 68 = .ok (.aload_n 0, 1) := by decide +kernel
theorem dX11_beside_69 : decode cX11_beside 69 = .ok (.iload 7, 2) := by decide +kernel
theorem dX11_beside_71 : decode cX11_beside 71 = .ok (.invokevirtual 123, 3) := by decide +kernel
theorem dX11_beside_74 : decode cX11_beside 74 = .ok (.invokevirtual 176, 3) := by decide +kernel
theorem dX11_beside_77 : decode cX11_beside 77 = .ok (.iinc 7 1, 3) := by decide +kernel
theorem dX11_beside_80 : decode cX11_beside 80 = .ok (.goto (-27), 3) := by decide +kernel
set_option maxRecDepth 20000 in
theorem l_X11_beside_50_53 (d : Nat) {T0 : CT} {σ0 : MS} {a : Nat} {c1 : Int} {c2 : Int} {c3 : Int} {c4 : Int} {c5 : Int} {c6 : Int} {B : Int} {post : Option Value → CT → MS → Prop} (r_c1 : -2147483648 ≤ c1 ∧ c1 ≤ 2147483647) (r_c2 : -2147483648 ≤ c2 ∧ c2 ≤ 2147483647) (r_c3 : -2147483648 ≤ c3 ∧ c3 ≤ 2147483647) (r_c4 : -2147483648 ≤ c4 ∧ c4 ≤ 2147483647) (r_c5 : -2147483648 ≤ c5 ∧ c5 ≤ 2147483647) (r_c6 : 1 ≤ c6 ∧ c6 ≤ 20000) (hw0 : WT T0 σ0) (h110 : 0 ≤ σ0.2.1 110 a) (hx_83 : ∀ (T : CT) (i7 : Int) (σ : MS) , (GT T0 T) → (WT T σ) → (FrC T0 [92, 93, 94, 900] σ0 σ) → (OB T a 11) → (0 ≤ i7 ∧ i7 ≤ 2147483647) → (TR σ a B) → (SEP σ a) → Tn (d + 8) m_X11_beside 83 T σ [(0, .ref a), (1, .int (iI c1)), (2, .int (iI c2)), (3, .int (iI c3)), (4, .int (iI c4)), (5, .int (iI c5)), (6, .int (iI c6)), (7, .int (iI i7))] [] post) : ∀ (n : Nat) (T : CT) (i7 : Int) (σ : MS) , (GT T0 T) → (WT T σ) → (FrC T0 [92, 93, 94, 900] σ0 σ) → (OB T a 11) → (0 ≤ i7 ∧ i7 ≤ 2147483647) → (TR σ a B) → (SEP σ a) → (2147483700 - i7).toNat = n → Tn (d + 8) m_X11_beside 53 T σ [(0, .ref a), (1, .int (iI c1)), (2, .int (iI c2)), (3, .int (iI c3)), (4, .int (iI c4)), (5, .int (iI c5)), (6, .int (iI c6)), (7, .int (iI i7))] [] post := by
  intro n
  induction n using Nat.strongRecOn with
  | _ n ih =>
    intro T i7 σ hG hw hF h_a r_i7 htr hsep hm
    refine tn_iload dX11_beside_53 7 rfl ?_
    refine tn_aload_n dX11_beside_55 rfl 0 rfl ?_
    refine tn_getI (ci := 11) (i := 2) (n := 97) (t := σ.2.1 97 a) dX11_beside_56 rfl lay_11 (by decide) fl11_116 h_a rfl rfl (rfl) ?_
    have g1 : ((0 : Int) ≤ σ.2.1 97 a ∧ σ.2.1 97 a ≤ 6) := wf_97 hw h_a
    refine tn_icmp_ge (tgt := 83) dX11_beside_59 (by decide) ⟨by omega, by omega⟩ ⟨by omega, by omega⟩ (fun h2 => ?_) (fun h2 => ?_)
    · exact tn_sub [0, 1, 2, 3, 4, 5, 6, 7] rfl (hx_83 T (i7) σ hG hw (FrC.rfl.trans (FrC.sub hF (by decide))) h_a (by omega) htr hsep)
    · refine tn_aload_n dX11_beside_62 rfl 0 rfl ?_
      obtain ⟨x3, hx4, hk5⟩ : ∃ x : Nat, σ.2.1 102 a = (x : Int) ∧ (T x).1 = 40 := wf_102 hw h_a
      have hk5o : OB T x3 10 := ⟨by omega, by rw [hk5]; rfl, by omega⟩
      refine tn_getR (ci := 11) (i := 7) (n := 102) (x := x3) dX11_beside_63 rfl lay_11 (by decide) fl11_39 h_a rfl rfl (hx4) ?_
      refine tn_iload dX11_beside_66 7 rfl ?_
      refine tn_aload_n dX11_beside_68 rfl 0 rfl ?_
      refine tn_iload dX11_beside_69 7 rfl ?_
      refine tn_callV (M := m_X11_beside) (pc := 71) (ix := 123) (ci := 11) (M' := m_X11_codeOf) (As := [.int (iI i7)]) (rest := [.int (iI i7), .ref x3]) dX11_beside_71 ok_X11_codeOf im_X11_codeOf se_X11_codeOf ml11_123 np_X11_codeOf rfl rfl h_a rfl (Nat.le_of_ble_eq_true rfl) (Nat.le_of_ble_eq_true rfl) rfl (k_X11_codeOf (d + 6) (T := T) (σ := σ) (a := a) (r := i7) h_a (by omega) hw ) (fun r7 T9 σ8 gt10 hp => ?_)
      obtain ⟨v11, rfl, rfl, rfl, rv12⟩ := hp
      clear gt10
      rcases rv12 with rv12 | ⟨x13, rfl, hk14⟩
      · show Tn _ _ 74 T σ [(0, .ref a), (1, .int (iI c1)), (2, .int (iI c2)), (3, .int (iI c3)), (4, .int (iI c4)), (5, .int (iI c5)), (6, .int (iI c6)), (7, .int (iI i7))] (vl true v11 :: [.int (iI i7), .ref x3]) _
        rw [vl_null rv12]
        refine tn_callV (M := m_X11_beside) (pc := 74) (ix := 176) (ci := 10) (M' := m_X10_refresh) (As := [.int (iI i7), .null]) (rest := []) dX11_beside_74 ok_X10_refresh im_X10_refresh se_X10_refresh ml11_176 np_X10_refresh rfl rfl hk5o rfl (Nat.le_of_ble_eq_true rfl) (Nat.le_of_ble_eq_true rfl) rfl (k_X10_refresh_0 (d + 2) (T := T) (σ := σ) (a := x3) (r := i7) hk5o (by omega) hw ) (fun r15 T17 σ16 gt18 hp => ?_)
        obtain ⟨rfl, w20, F21⟩ := hp
        replace h_a : OB T17 a 11 := gt18.ob h_a
        show Tn _ _ 77 T17 σ16 [(0, .ref a), (1, .int (iI c1)), (2, .int (iI c2)), (3, .int (iI c3)), (4, .int (iI c4)), (5, .int (iI c5)), (6, .int (iI c6)), (7, .int (iI i7))] [] _
        refine tn_iinc (q0 := 7) (L' := [(7, .int (iI (i7 + 1))), (0, .ref a), (1, .int (iI c1)), (2, .int (iI c2)), (3, .int (iI c3)), (4, .int (iI c4)), (5, .int (iI c5)), (6, .int (iI c6))]) dX11_beside_77 rfl (by decide) rfl ?_
        refine tn_goto (tgt := 53) dX11_beside_80 (by decide) ?_
        exact tn_sub [1, 2, 3, 4, 5, 6, 7, 0] rfl (ih _ (by omega) T17 (i7 + 1) σ16 (GT.trans hG gt18) w20 ((FrC.rfl.trans (FrC.sub hF (by decide))).trans (FrC.sub (FrC.old F21 hG) (by decide))) h_a (by omega) (TR.frc htr F21 (by decide) (by decide)) (SEP.frc hsep F21 (by decide) (by decide) (by decide)) rfl)
      · show Tn _ _ 74 T σ [(0, .ref a), (1, .int (iI c1)), (2, .int (iI c2)), (3, .int (iI c3)), (4, .int (iI c4)), (5, .int (iI c5)), (6, .int (iI c6)), (7, .int (iI i7))] (vl true (x13 : Int) :: [.int (iI i7), .ref x3]) _
        rw [vl_ref rfl]
        have hk14o : OB T x13 1 := ⟨by omega, by rw [hk14]; rfl, by omega⟩
        refine tn_callV (M := m_X11_beside) (pc := 74) (ix := 176) (ci := 10) (M' := m_X10_refresh) (As := [.int (iI i7), .ref x13]) (rest := []) dX11_beside_74 ok_X10_refresh im_X10_refresh se_X10_refresh ml11_176 np_X10_refresh rfl rfl hk5o rfl (Nat.le_of_ble_eq_true rfl) (Nat.le_of_ble_eq_true rfl) rfl (k_X10_refresh (d + 2) (T := T) (σ := σ) (a := x3) (r := i7) (c := x13) hk5o (by omega) hk14o hk14 hw ) (fun r22 T24 σ23 gt25 hp => ?_)
        obtain ⟨rfl, w27, F28⟩ := hp
        replace h_a : OB T24 a 11 := gt25.ob h_a
        show Tn _ _ 77 T24 σ23 [(0, .ref a), (1, .int (iI c1)), (2, .int (iI c2)), (3, .int (iI c3)), (4, .int (iI c4)), (5, .int (iI c5)), (6, .int (iI c6)), (7, .int (iI i7))] [] _
        refine tn_iinc (q0 := 7) (L' := [(7, .int (iI (i7 + 1))), (0, .ref a), (1, .int (iI c1)), (2, .int (iI c2)), (3, .int (iI c3)), (4, .int (iI c4)), (5, .int (iI c5)), (6, .int (iI c6))]) dX11_beside_77 rfl (by decide) rfl ?_
        refine tn_goto (tgt := 53) dX11_beside_80 (by decide) ?_
        exact tn_sub [1, 2, 3, 4, 5, 6, 7, 0] rfl (ih _ (by omega) T24 (i7 + 1) σ23 (GT.trans hG gt25) w27 ((FrC.rfl.trans (FrC.sub hF (by decide))).trans (FrC.sub (FrC.old F28 hG) (by decide))) h_a (by omega) (TR.frc htr F28 (by decide) (by decide)) (SEP.frc hsep F28 (by decide) (by decide) (by decide)) rfl)
theorem fl11_267 : Cond.fieldLink RX11 267 (TX0 0).1 (TX0 0).2.1 (TX0 0).2.2.1 ∈ pWW := pw6 (List.mem_of_getElem? (i := 181) rfl) rfl
theorem fl11_270 : Cond.fieldLink RX11 270 (TX0 1).1 (TX0 1).2.1 (TX0 1).2.2.1 ∈ pWW := pw6 (List.mem_of_getElem? (i := 183) rfl) rfl
theorem ml11_273 : Cond.methodLink RX11 273 yX0_together ∈ pWW := pw6 (List.mem_of_getElem? (i := 201) rfl) rfl
theorem dX11_beside_83 : decode cX11_beside 83 = .ok (.aload_n 0, 1) := by decide +kernel
theorem dX11_beside_84 : decode cX11_beside 84 = .ok (.getfield 258, 3) := by decide +kernel
theorem dX11_beside_87 : decode cX11_beside 87 = .ok (.getfield 267, 3) := by decide +kernel
theorem dX11_beside_90 : decode cX11_beside 90 = .ok (.iload_n 1, 1) := by decide +kernel
theorem dX11_beside_91 : decode cX11_beside 91 = .ok (.iload_n 2, 1) := by decide +kernel
theorem dX11_beside_92 : decode cX11_beside 92 = .ok (.iload_n 3, 1) := by decide +kernel
theorem dX11_beside_93 : decode cX11_beside 93 = .ok (.iload 4, 2) := by decide +kernel
theorem dX11_beside_95 : decode cX11_beside 95 = .ok (.iload 5, 2) := by decide +kernel
theorem dX11_beside_97 : decode cX11_beside 97 = .ok (.invokevirtual 204, 3) := by decide +kernel
theorem dX11_beside_100 : decode cX11_beside 100 = .ok (.aload_n 0, 1) := by decide +kernel
theorem dX11_beside_101 : decode cX11_beside 101 = .ok (.getfield 258, 3) := by decide +kernel
theorem dX11_beside_104 : decode cX11_beside 104 = .ok (.getfield 270, 3) := by decide +kernel
theorem dX11_beside_107 : decode cX11_beside 107 = .ok (.iload_n 1, 1) := by decide +kernel
theorem dX11_beside_108 : decode cX11_beside 108 = .ok (.iload_n 2, 1) := by decide +kernel
theorem dX11_beside_109 : decode cX11_beside 109 = .ok (.iload_n 3, 1) := by decide +kernel
theorem dX11_beside_110 : decode cX11_beside 110 = .ok (.iload 4, 2) := by decide +kernel
theorem dX11_beside_112 : decode cX11_beside 112 = .ok (.iload 5, 2) := by decide +kernel
theorem dX11_beside_114 : decode cX11_beside 114 = .ok (.invokevirtual 204, 3) := by decide +kernel
theorem dX11_beside_117 : decode cX11_beside 117 = .ok (.aload_n 0, 1) := by decide +kernel
theorem dX11_beside_118 : decode cX11_beside 118 = .ok (.getfield 258, 3) := by decide +kernel
theorem dX11_beside_121 : decode cX11_beside 121 = .ok (.aload_n 0, 1) := by decide +kernel
theorem dX11_beside_122 : decode cX11_beside 122 = .ok (.getfield 39, 3) := by decide +kernel
theorem dX11_beside_125 : decode cX11_beside 125 = .ok (.iload 6, 2) := by decide +kernel
theorem dX11_beside_127 : decode cX11_beside 127 = .ok (.invokevirtual 273, 3) := by decide +kernel
theorem dX11_beside_130 : decode cX11_beside 130 = .ok (.ireturn, 1) := by decide +kernel
set_option maxRecDepth 20000 in
theorem k_X11_beside_50 (d : Nat) {T : CT} {σ : MS} {a : Nat} {r : Int} {p : Int} {q : Int} {s : Int} {t : Int} {n : Int} {B : Int} (ha : OB T a 11) (h_r : -2147483648 ≤ r ∧ r ≤ 2147483647) (h_p : -2147483648 ≤ p ∧ p ≤ 2147483647) (h_q : -2147483648 ≤ q ∧ q ≤ 2147483647) (h_s : -2147483648 ≤ s ∧ s ≤ 2147483647) (h_t : -2147483648 ≤ t ∧ t ≤ 2147483647) (h_n : -2147483648 ≤ n ∧ n ≤ 2147483647) (hw : WT T σ) (h110 : 0 ≤ σ.2.1 110 a) (hn : 1 ≤ n ∧ n ≤ 20000) (htr : TR σ a B) (hsep : SEP σ a) : Tn (d + 8) m_X11_beside 50 T σ [(0, .ref a), (1, .int (iI r)), (2, .int (iI p)), (3, .int (iI q)), (4, .int (iI s)), (5, .int (iI t)), (6, .int (iI n))] [] (fun ro T2 σ2 => ∃ v : Int, ro = some (.int (iI v)) ∧ WT T2 σ2 ∧ FrC T [2, 3, 4, 55, 56, 57, 58, 59, 60, 61, 62, 63, 64, 65, 66, 67, 68, 69, 70, 71, 92, 93, 94, 515, 900] σ σ2 ∧ (-2147483648 ≤ v ∧ v ≤ 2147483647) ∧ (TR σ2 a B) ∧ (SEP σ2 a) ∧ (σ2.2.1 96 a = σ.2.1 96 a)) := by
  refine tn_iconst dX11_beside_50 ?_
  refine tn_istore (L' := [(7, .int (iI 0)), (0, .ref a), (1, .int (iI r)), (2, .int (iI p)), (3, .int (iI q)), (4, .int (iI s)), (5, .int (iI t)), (6, .int (iI n))]) dX11_beside_51 (by decide) rfl ?_
  refine tn_sub [1, 2, 3, 4, 5, 6, 7, 0] rfl (l_X11_beside_50_53 (d) (σ0 := σ) (T0 := T) (a := a) (c1 := r) (c2 := p) (c3 := q) (c4 := s) (c5 := t) (c6 := n) (B := B) (by omega) (by omega) (by omega) (by omega) (by omega) (by omega) hw (by omega) (fun T3 i71 σ2 gt4 w5 F6 q7 r8 f9 f10 => ?_) _ T (0) σ GT.rfl hw FrC.rfl ha (by omega) htr hsep rfl)
  show Tn _ _ 83 T3 σ2 [(0, .ref a), (1, .int (iI r)), (2, .int (iI p)), (3, .int (iI q)), (4, .int (iI s)), (5, .int (iI t)), (6, .int (iI n)), (7, .int (iI i71))] [] _
  refine tn_aload_n dX11_beside_83 rfl 0 rfl ?_
  have nn18 : 0 ≤ σ2.2.1 110 a := (by rw [show σ2.2.1 110 a = σ.2.1 110 a from rc_F F6 (Or.inl (by decide)) (by decide) (rfl)]; omega)
  obtain ⟨x15, hx16, hk17⟩ := (wf_110 w5 q7).resolve_left (by omega)
  have hk17o : OB T3 x15 0 := ⟨by omega, by rw [hk17]; rfl, by omega⟩
  refine tn_getR (ci := 11) (i := 15) (n := 110) (x := x15) dX11_beside_84 rfl lay_11 (by decide) fl11_258 q7 rfl rfl (hx16) ?_
  obtain ⟨x19, hx20, hk21⟩ : ∃ x : Nat, σ2.2.1 0 x15 = (x : Int) ∧ (T3 x).1 = 37 := wf_0 w5 hk17o
  have hk21o : OB T3 x19 7 := ⟨by omega, by rw [hk21]; rfl, by omega⟩
  refine tn_getR (ci := 0) (i := 0) (n := 0) (x := x19) dX11_beside_87 rfl lay_0 (by decide) fl11_267 hk17o rfl rfl (hx20) ?_
  refine tn_iload_n dX11_beside_90 rfl 1 rfl ?_
  refine tn_iload_n dX11_beside_91 rfl 2 rfl ?_
  refine tn_iload_n dX11_beside_92 rfl 3 rfl ?_
  refine tn_iload dX11_beside_93 4 rfl ?_
  refine tn_iload dX11_beside_95 5 rfl ?_
  refine tn_callV (M := m_X11_beside) (pc := 97) (ix := 204) (ci := 7) (M' := m_X7_begin) (As := [.int (iI r), .int (iI p), .int (iI q), .int (iI s), .int (iI t)]) (rest := []) dX11_beside_97 ok_X7_begin im_X7_begin se_X7_begin ml11_204 np_X7_begin rfl rfl hk21o rfl (Nat.le_of_ble_eq_true rfl) (Nat.le_of_ble_eq_true rfl) rfl (k_X7_begin (d + 3) (T := T3) (σ := σ2) (a := x19) (p1 := r) (p2 := p) (p3 := q) (p4 := s) (p5 := t) hk21o hk21 (by omega) (by omega) (by omega) (by omega) (by omega) w5 ) (fun r23 T25 σ24 gt26 hp => ?_)
  obtain ⟨rfl, rfl, w30, F31, f27, f28⟩ := hp
  clear gt26
  obtain ⟨x33, hx34, hk35⟩ : ∃ x : Nat, σ2.2.1 103 a = (x : Int) ∧ (T3 x).1 = 37 := wf_103 w5 q7
  have hk35o : OB T3 x33 7 := ⟨by omega, by rw [hk35]; rfl, by omega⟩
  obtain ⟨x37, hx38, hk39⟩ : ∃ x : Nat, σ2.2.1 1 x15 = (x : Int) ∧ (T3 x).1 = 57 := wf_1 w5 hk17o
  have hk39o : OB T3 x37 7 := ⟨by omega, by rw [hk39]; rfl, by omega⟩
  have ne41 : x33 ≠ x19 := fun e => f10 x15 ((hx16)) (by rw [show σ2.2.1 0 x15 = _ from (hx20), show σ2.2.1 103 a = _ from (hx34), e])
  have tr32 : TR σ24 a B := TR.fa f9 f28 (fun t9 q9 => by have w9 : t9 = x33 := by { have w8 := (hx34); omega }; rw [w9]; exact ne41) (rc_F F31 (Or.inl (by decide)) (by decide) rfl)
  have tr32s : SEP σ24 a := SEP.frc f10 F31 (by decide) (by decide) (by decide)
  show Tn _ _ 100 T3 σ24 [(0, .ref a), (1, .int (iI r)), (2, .int (iI p)), (3, .int (iI q)), (4, .int (iI s)), (5, .int (iI t)), (6, .int (iI n)), (7, .int (iI i71))] [] _
  refine tn_aload_n dX11_beside_100 rfl 0 rfl ?_
  refine tn_getR (ci := 11) (i := 15) (n := 110) (x := x15) dX11_beside_101 rfl lay_11 (by decide) fl11_258 q7 rfl rfl (rc_F F31 (Or.inl (by decide)) (by decide) (hx16)) ?_
  refine tn_getR (ci := 0) (i := 1) (n := 1) (x := x37) dX11_beside_104 rfl lay_0 (by decide) fl11_270 hk17o rfl rfl (rc_F F31 (Or.inl (by decide)) (by decide) (hx38)) ?_
  refine tn_iload_n dX11_beside_107 rfl 1 rfl ?_
  refine tn_iload_n dX11_beside_108 rfl 2 rfl ?_
  refine tn_iload_n dX11_beside_109 rfl 3 rfl ?_
  refine tn_iload dX11_beside_110 4 rfl ?_
  refine tn_iload dX11_beside_112 5 rfl ?_
  refine tn_callV (M := m_X11_beside) (pc := 114) (ix := 204) (ci := 7) (M' := m_X7_begin) (As := [.int (iI r), .int (iI p), .int (iI q), .int (iI s), .int (iI t)]) (rest := []) dX11_beside_114 ok_X7_begin im_X7_begin se_X7_begin ml11_204 np_X7_begin rfl rfl hk39o rfl (Nat.le_of_ble_eq_true rfl) (Nat.le_of_ble_eq_true rfl) rfl (k_X7_begin_57 (d + 3) (T := T3) (σ := σ24) (a := x37) (p1 := r) (p2 := p) (p3 := q) (p4 := s) (p5 := t) hk39o hk39 (by omega) (by omega) (by omega) (by omega) (by omega) w30 ) (fun r42 T44 σ43 gt45 hp => ?_)
  obtain ⟨rfl, rfl, w51, F52, f46, f47, f48, f49⟩ := hp
  clear gt45
  have ne54 : x33 ≠ x37 := fun e => by rw [e] at hk35; omega
  have ne54t : σ43.2.1 57 x19 = σ24.2.1 57 x19 := f49 57 x19 (by decide) (fun e => by rw [e] at hk21; omega)
  have tr53 : TR σ43 a B := TR.fa tr32 f49 (fun t9 q9 => by have w9 : t9 = x33 := by { have w8 := (rc_F F31 (Or.inl (by decide)) (by decide) (hx34)); omega }; rw [w9]; exact ne54) (rc_F F52 (Or.inl (by decide)) (by decide) rfl)
  have tr53s : SEP σ43 a := SEP.frc tr32s F52 (by decide) (by decide) (by decide)
  show Tn _ _ 117 T3 σ43 [(0, .ref a), (1, .int (iI r)), (2, .int (iI p)), (3, .int (iI q)), (4, .int (iI s)), (5, .int (iI t)), (6, .int (iI n)), (7, .int (iI i71))] [] _
  refine tn_aload_n dX11_beside_117 rfl 0 rfl ?_
  refine tn_getR (ci := 11) (i := 15) (n := 110) (x := x15) dX11_beside_118 rfl lay_11 (by decide) fl11_258 q7 rfl rfl (rc_F F52 (Or.inl (by decide)) (by decide) (rc_F F31 (Or.inl (by decide)) (by decide) (hx16))) ?_
  refine tn_aload_n dX11_beside_121 rfl 0 rfl ?_
  obtain ⟨x55, hx56, hk57⟩ : ∃ x : Nat, σ2.2.1 102 a = (x : Int) ∧ (T3 x).1 = 40 := wf_102 w5 q7
  have hk57o : OB T3 x55 10 := ⟨by omega, by rw [hk57]; rfl, by omega⟩
  refine tn_getR (ci := 11) (i := 7) (n := 102) (x := x55) dX11_beside_122 rfl lay_11 (by decide) fl11_39 q7 rfl rfl (rc_F F52 (Or.inl (by decide)) (by decide) (rc_F F31 (Or.inl (by decide)) (by decide) (hx56))) ?_
  refine tn_iload dX11_beside_125 6 rfl ?_
  refine tn_callV (M := m_X11_beside) (pc := 127) (ix := 273) (ci := 0) (M' := m_X0_together) (As := [.ref x55, .int (iI n)]) (rest := []) dX11_beside_127 ok_X0_together im_X0_together se_X0_together ml11_273 np_X0_together rfl rfl hk17o rfl (Nat.le_of_ble_eq_true rfl) (Nat.le_of_ble_eq_true rfl) rfl (k_X0_together_f (d) (T := T3) (σ := σ43) (a := x15) (t := x55) (n := n) hk17o hk57o (by omega) w51 (by omega) (TB.of (rc_F F52 (Or.inl (by decide)) (by decide) (rc_F F31 (Or.inl (by decide)) (by decide) (hx20))) (by omega)) (PB.of (rc_F F52 (Or.inl (by decide)) (by decide) (rc_F F31 (Or.inl (by decide)) (by decide) (hx38))) (by unfold PIv; omega))) (fun r59 T61 σ60 gt62 hp => ?_)
  obtain ⟨v65, rfl, rfl, w66, F67, f63, f64⟩ := hp
  clear gt62
  have tr68 : TR σ60 a B := TR.f57 tr53 f64 (rc_F F52 (Or.inl (by decide)) (by decide) (rc_F F31 (Or.inl (by decide)) (by decide) (hx20))) (rc_F F52 (Or.inl (by decide)) (by decide) (rc_F F31 (Or.inl (by decide)) (by decide) (hx38))) (fun t9 q9 => by have w9 : t9 = x33 := by { have w8 := (rc_F F52 (Or.inl (by decide)) (by decide) (rc_F F31 (Or.inl (by decide)) (by decide) (hx34))); omega }; rw [w9]; exact ⟨ne41, ne54⟩) (rc_F F67 (Or.inl (by decide)) (by decide) rfl)
  have tr68s : SEP σ60 a := SEP.frc tr53s F67 (by decide) (by decide) (by decide)
  show Tn _ _ 130 T3 σ60 [(0, .ref a), (1, .int (iI r)), (2, .int (iI p)), (3, .int (iI q)), (4, .int (iI s)), (5, .int (iI t)), (6, .int (iI n)), (7, .int (iI i71))] [.int (iI v65)] _
  have q69 : σ60.2.1 96 a = σ.2.1 96 a := rc_F F67 (Or.inl (by decide)) (by decide) (rc_F F52 (Or.inl (by decide)) (by decide) (rc_F F31 (Or.inl (by decide)) (by decide) (rc_F F6 (Or.inl (by decide)) (by decide) (rfl))))
  exact tn_iret rfl dX11_beside_130 ⟨_, rfl, w66, ((((FrC.rfl.trans (FrC.sub F6 (by decide))).trans (FrC.sub (FrC.old F31 gt4) (by decide))).trans (FrC.sub (FrC.old F52 gt4) (by decide))).trans (FrC.sub (FrC.old F67 gt4) (by decide))), by omega, tr68, tr68s, by omega⟩
end
section
theorem cl11_262 : Cond.classLink RX11 262 RX0 ∈ pWW := pw6 (List.mem_of_getElem? (i := 172) rfl) rfl
theorem ist_0 : Cond.instantiable RX0 5 ∈ pWW := pw6 (List.mem_of_getElem? (i := 173) rfl) rfl
theorem ml11_264 : Cond.methodLink RX11 264 yX0_init ∈ pWW := pw6 (List.mem_of_getElem? (i := 174) rfl) rfl
theorem dX11_beside_31 : decode cX11_beside 31 = .ok (.aload_n 0, 1) := by decide +kernel
theorem dX11_beside_32 : decode cX11_beside 32 = .ok (.new 262, 3) := by decide +kernel
theorem dX11_beside_35 : decode cX11_beside 35 = .ok (.dup, 1) := by decide +kernel
theorem dX11_beside_36 : decode cX11_beside 36 = .ok (.aload_n 0, 1) := by decide +kernel
theorem dX11_beside_37 : decode cX11_beside 37 = .ok (.getfield 19, 3) := by decide +kernel
theorem dX11_beside_40 : decode cX11_beside 40 = .ok (.aload_n 0, 1) := by decide +kernel
theorem dX11_beside_41 : decode cX11_beside 41 = .ok (.getfield 15, 3) := by decide +kernel
theorem dX11_beside_44 : decode cX11_beside 44 = .ok (.invokespecial 264, 3) := by decide +kernel
theorem dX11_beside_47 : decode cX11_beside 47 = .ok (.putfield 258, 3) := by decide +kernel
theorem ht_all : ∀ q, HT q → 500 + q ∈ [0, 1, 2, 3, 4, 5, 6, 7, 8, 9, 10, 11, 12, 13, 14, 15, 16, 17, 18, 19, 20, 21, 22, 23, 24, 25, 26, 27, 28, 29, 30, 31, 32, 33, 34, 35, 36, 37, 38, 39, 40, 41, 42, 43, 44, 45, 46, 47, 48, 49, 50, 51, 52, 53, 54, 55, 56, 57, 58, 59, 60, 61, 62, 63, 64, 65, 66, 67, 68, 69, 70, 71, 72, 73, 74, 75, 76, 77, 78, 79, 80, 81, 82, 83, 84, 85, 86, 87, 88, 89, 90, 91, 92, 93, 94, 95, 96, 97, 98, 99, 100, 101, 102, 103, 104, 105, 106, 107, 108, 109, 110, 111, 112, 113, 114, 115, 116, 117, 118, 119, 120, 121, 122, 123, 124, 125, 126, 127, 128, 129, 130, 131, 132, 133, 134, 135, 136, 137, 138, 139, 140, 141, 142, 143, 144, 145, 146, 147, 148, 149, 150, 151, 152, 153, 154, 155, 156, 157, 158, 159, 160, 161, 162, 163, 164, 165, 166, 167, 168, 169, 170, 171, 172, 173, 174, 175, 176, 177, 178, 179, 180, 181, 182, 183, 184, 185, 186, 187, 188, 189, 190, 191, 192, 193, 194, 195, 196, 197, 198, 199, 900, 502, 512, 515, 516, 517, 518, 519, 520, 521, 522, 523, 524] := fun q h => by
  have w : q = 2 ∨ q = 12 ∨ q = 15 ∨ q = 16 ∨ q = 17 ∨ q = 18 ∨ q = 19 ∨ q = 20 ∨ q = 21 ∨ q = 22 ∨ q = 23 ∨ q = 24 := by unfold HT at h; omega
  rcases w with rfl | rfl | rfl | rfl | rfl | rfl | rfl | rfl | rfl | rfl | rfl | rfl <;> decide
theorem FrC.all {T : CT} {σ τ : MS} {ks : List Nat} (h : ∀ k, k < 200 → k ∈ ks) (h9 : 900 ∈ ks) (h5 : ∀ q, HT q → 500 + q ∈ ks) : FrC T ks σ τ := ⟨fun k q r => absurd (q.elim (h k) (fun e => by rw [e]; exact h9)) r, fun x q r => absurd (h5 _ q) r⟩
theorem WT.pair {T T1 T2 : CT} {σ S1 S2 : MS} {a x : Nat} (hw : WT T σ) (ha : OB T a 11) (h110 : σ.2.1 110 a < 0) (hx : (T x).1 = 0) (hT1 : ∀ c, c ≠ x → T1 c = T c) (hx1 : T1 x = (80, 0)) (hf1 : ∀ n c, n < 200 → c ≠ x → S1.2.1 n (c : Int) = σ.2.1 n c) (h91 : S1.2.1 900 = σ.2.1 900) (e0 : S1.1 0 = σ.1 0 + (5 : Nat)) (e1 : S1.1 1 = σ.1 1 + 1) (w1 : WTn T2 S2) (hr : T2 x = (30, 0)) (k1 : KPx x T1 S1 T2 S2) (g0 : S2.1 0 = S1.1 0 + (4160 : Nat)) (g1 : S2.1 1 = S1.1 1 + (14 : Nat)) (n41 : NX 41 x T1 T2) (cd : ∀ K, CD K T → CD K T2) : WT T2 (sA 110 a x S2) := by
  obtain ⟨b, K, hb11, hbud⟩ := hw.2.2.2.2.2
  have hba : a = b := hb11 a ha
  have hax : a ≠ x := fun e => by have := ha.1; rw [e] at this; omega
  have kp : ∀ c, (T c).1 ≠ 0 → c ≠ x ∧ T2 c = T c ∧ ∀ n, n < 200 → S2.2.1 n (c : Int) = σ.2.1 n c := fun c p => by
    have e : c ≠ x := fun e => p (by rw [e]; exact hx)
    obtain ⟨y1, y2, -⟩ := k1.1 c (by rw [hT1 c e]; exact p) e
    exact ⟨e, y1.trans (hT1 c e), fun n hn => (y2 n hn).trans (hf1 n c hn e)⟩
  have kd : CD K T2 := cd K (fun c => (hbud.2.1 c).symm)
  obtain ⟨u1, u2, u3, u4, u5⟩ := w1
  have ka := kp a (by have := ha.1; omega)
  have oa : OB T2 a 11 := by unfold OB; rw [ka.2.1]; exact ha
  have cl : ∀ c, c ∈ K → cLen T2 (sA 110 a x S2) c = cLen T σ c := fun c hc => by
    have oc := (hbud.2.1 c).mp hc
    obtain ⟨y, q1, q2, -⟩ := cells_at hw.1 oc
    have kc := kp c (by have := oc.1; omega)
    have ky := kp y (by omega)
    unfold cLen
    rw [sA_k (by omega), kc.2.2 5 (by omega), q1]
    show (T2 y).2 = (T y).2
    rw [ky.2.1]
  have tl : ∀ i : Int, 0 ≤ i → i < 6 → tLen T2 (sA 110 a x S2) i = tLen T σ i := fun i i0 i1 => by
    unfold tLen
    rw [sA_k (by omega), k1.2, h91]
    rcases hw.2.2.2.2.1.2 i i0 i1 with q | ⟨y, q1, q2⟩
    · rw [if_pos q, if_pos q]
    · rw [q1, if_neg (by omega), if_neg (by omega)]
      show (T2 y).2 = (T y).2
      rw [(kp y (by have := q2.1; omega)).2.1]
  have es : tSum (tLen T2 (sA 110 a x S2)) = tSum (tLen T σ) := by unfold tSum; rw [tl 0 (by omega) (by omega), tl 1 (by omega) (by omega), tl 2 (by omega) (by omega), tl 3 (by omega) (by omega), tl 4 (by omega) (by omega), tl 5 (by omega) (by omega)]
  have ep : prS (sA 110 a x S2) a = 5000 := by unfold prS; rw [show (sA 110 a x S2).2.1 110 a = (x : Int) from ra_eq, if_neg (by omega)]
  have eo : prS σ b = 0 := by unfold prS; rw [← hba, if_pos h110]
  have m1 : (K.map (fun c => phL (cLen T2 (sA 110 a x S2) c))) = K.map (fun c => phL (cLen T σ c)) := List.map_congr_left (fun c hc => by rw [cl c hc])
  have m2 : (K.map (fun c => cLen T2 (sA 110 a x S2) c)) = K.map (fun c => cLen T σ c) := List.map_congr_left (fun c hc => cl c hc)
  refine ⟨fun m c q w => ?_, fun c y q r => ?_, fun c q => ?_, ⟨fun c q => ?_, fun c q => ?_⟩, ⟨u5.1, ?_⟩, a, K, fun c hc => ?_, hbud.1, fun c => (kd c).symm, ?_, ?_⟩
  · by_cases e : m = 110
    · by_cases f : c = a
      · rw [e, f, show (sA 110 a x S2).2.1 110 a = (x : Int) from ra_eq]; exact fo_110 (Or.inr ⟨x, rfl, by rw [hr]⟩)
      · rw [sA_ne (by omega)]; exact u1 m c q w
    · rw [sA_k e]; exact u1 m c q w
  · rw [sA_k (by omega)] at r; rw [sA_k (by omega)]; exact u2 c y q r
  · rw [sA_k (by omega)]; exact u3 c q
  · rw [sA_k (by omega)]; exact u4.1 c q
  · rw [sA_k (by omega)]; exact u4.2 c q
  · rw [sA_k (by omega)]; exact u5.2
  · by_cases z : (T c).1 = 0
    · by_cases e : c = x
      · have w := hc.2.1; rw [e, hr] at w; exact absurd w (by decide)
      · have w := n41 c (by rw [hT1 c e]; exact z) e
        have w2 := hc.2.1; have w3 := hc.1; have w4 := hc.2.2
        unfold kC at w2
        exfalso
        by_cases q1 : (T2 c).1 = 50
        · rw [if_pos q1] at w2; omega
        · rw [if_neg q1] at w2
          by_cases q2 : (T2 c).1 = 57
          · rw [if_pos q2] at w2; omega
          · rw [if_neg q2, if_neg (by omega)] at w2; omega
    · have kc := kp c z
      rw [hba]
      exact hb11 c (by unfold OB at hc ⊢; rw [← kc.2.1]; exact hc)
  · rw [m1, es, ep]
    show S2.1 0 ≤ _
    have := hbud.2.2.1
    rw [eo] at this
    omega
  · rw [m2, es, ep]
    show S2.1 1 ≤ _
    have := hbud.2.2.2
    rw [eo] at this
    omega
end
section
set_option maxRecDepth 20000 in
theorem bs_new (d : Nat) {T : CT} {σ : MS} {a : Nat} {r p q s t n B : Int} {post : Option Value → CT → MS → Prop} (ha : OB T a 11) (hw : WT T σ) (h110 : σ.2.1 110 a < 0) (htr : TR σ a B) (kk : ∀ (T2 : CT) (σ2 : MS), GT T T2 → WT T2 σ2 → 0 ≤ σ2.2.1 110 a → TR σ2 a B → SEP σ2 a → σ2.2.1 96 a = σ.2.1 96 a → Tn (d + 8) m_X11_beside 50 T2 σ2 [(0, .ref a), (1, .int (iI r)), (2, .int (iI p)), (3, .int (iI q)), (4, .int (iI s)), (5, .int (iI t)), (6, .int (iI n))] [] post) : Tn (d + 8) m_X11_beside 31 T σ [(0, .ref a), (1, .int (iI r)), (2, .int (iI p)), (3, .int (iI q)), (4, .int (iI s)), (5, .int (iI t)), (6, .int (iI n))] [] post := by
  refine tn_aload_n dX11_beside_31 rfl 0 rfl ?_
  refine tn_newO (ci := 0) (N := 5) tyX0 tyX0_ok dX11_beside_32 rfl lay_0 cl11_262 ist_0 ini_0 df_0 rfl (by decide) hfd_0 (fun x hx => ?_)
  have hax : a ≠ x := fun e => by have := ha.1; rw [e] at this; omega
  obtain ⟨y5, hy5, hk5, hl5⟩ := wf_99 hw ha
  obtain ⟨y4, hy4, hk4, hl4⟩ := wf_98 hw ha
  obtain ⟨rr, hrr, hkr⟩ := wf_103 hw ha
  have t5 : T y5 = (5, 6) := Prod.ext hk5 (by show (T y5).2 = 6; omega)
  have t4 : T y4 = (4, 6) := Prod.ext hk4 (by show (T y4).2 = 6; omega)
  obtain ⟨T1, S1, hT1, hx1, hf1, h91, e0, e1, hdf, wn, cd, eT, eS⟩ : ∃ (T1 : CT) (S1 : MS), (∀ c, c ≠ x → T1 c = T c) ∧ T1 x = (80, 0) ∧ (∀ n c, n < 200 → c ≠ x → S1.2.1 n (c : Int) = σ.2.1 n c) ∧ S1.2.1 900 = σ.2.1 900 ∧ S1.1 0 = σ.1 0 + (5 : Nat) ∧ S1.1 1 = σ.1 1 + 1 ∧ (∀ j, j < 200 → S1.2.1 j (x : Int) = dfF j) ∧ WTn T1 S1 ∧ (∀ K, CD K T → CD K T1) ∧ T1 = tT T x (80 + 0) 0 ∧ S1 = objS x (gh 5 σ) := by
    have e : (tT T x (80 + 0) 0 x).1 = 80 := by rw [tT_eq]
    have f1 : ∀ n c, n < 200 → c ≠ x → (objS x (gh 5 σ)).2.1 n (c : Int) = σ.2.1 n c := fun n c hn hc => by rw [objS_ne (by omega)]; rfl
    have f9 : (objS x (gh 5 σ)).2.1 900 = σ.2.1 900 := by rw [objS_hi (by omega)]; rfl
    exact ⟨_, _, fun c hc => tT_ne hc, tT_eq, f1, f9, rfl, rfl, fun j hj => objS_eq hj, hw.n.new hx (fun c hc => tT_ne hc) f1 (fun c hc => by rw [objS_hi (by omega)]; rfl) f9 (by rw [e]; omega) (by rw [e]; omega) (fun q => by unfold IA at q; rw [e] at q; omega), fun K h => h.new (fun c hc => tT_ne hc) hx (by rw [e]; omega), rfl, rfl⟩
  rw [← eT, ← eS]
  have a1 : T1 a = T a := hT1 a hax
  have oa1 : OB T1 a 11 := by unfold OB; rw [a1]; exact ha
  have n5 : y5 ≠ x := fun e => by rw [e] at hk5; omega
  have n4 : y4 ≠ x := fun e => by rw [e] at hk4; omega
  have nr : rr ≠ x := fun e => by rw [e] at hkr; omega
  refine tn_dup dX11_beside_35 rfl ?_
  refine tn_aload_n dX11_beside_36 rfl 0 rfl ?_
  refine tn_getR (ci := 11) (i := 4) (n := 99) (x := y5) dX11_beside_37 rfl lay_11 (by decide) fl11_19 oa1 rfl rfl ((hf1 99 a (by decide) hax).trans hy5) ?_
  refine tn_aload_n dX11_beside_40 rfl 0 rfl ?_
  refine tn_getR (ci := 11) (i := 3) (n := 98) (x := y4) dX11_beside_41 rfl lay_11 (by decide) fl11_15 oa1 rfl rfl ((hf1 98 a (by decide) hax).trans hy4) ?_
  refine tn_callI (M := m_X11_beside) (pc := 44) (ix := 264) (M' := m_X0_init) (As := [.ref y5, .ref y4]) (rest := [.ref x, .ref a]) dX11_beside_44 ok_X0_init rfl rfl im_X0_init ml11_264 np_X0_init rfl (Nat.le_of_ble_eq_true rfl) (Nat.le_of_ble_eq_true rfl) rfl (kc_X0_init_30 (d + 5) (T := T1) (σ := S1) (a := x) (K := (hw.2.2.2.2.2).choose_spec.choose) (cs := y5) (mc := y4) hx1 wn (cd _ (fun c => ((hw.2.2.2.2.2).choose_spec.choose_spec.2.2.1 c).symm)) hdf ((hT1 y5 n5).trans t5) ((hT1 y4 n4).trans t4)) (fun r2 T2 S2 g hp => ?_)
  obtain ⟨rfl, hr, w1, c1, k1, g0, g1, n7, n41, tt, htt, htz⟩ := hp
  show Tn _ _ 47 T2 S2 [(0, .ref a), (1, .int (iI r)), (2, .int (iI p)), (3, .int (iI q)), (4, .int (iI s)), (5, .int (iI t)), (6, .int (iI n))] [.ref x, .ref a] _
  have ka := k1.1 a (by rw [a1]; have := ha.1; omega) hax
  have oa2 : OB T2 a 11 := by unfold OB; rw [ka.1]; exact oa1
  have kr := k1.1 rr (by rw [hT1 rr nr]; omega) nr
  refine tn_putV (ci := 11) (i := 15) (n := 110) (r := true) (v := (x : Int)) tyX11 tyX11_ok nmX11 dX11_beside_47 rfl lay_11 (by decide) fl11_258 rfl (tyX11_ok 15 (by decide)) (vl_ref rfl).symm rfl rfl oa2 rfl rfl ?_
  have gT : GT T T2 := fun c z1 z2 => by
    have e : c ≠ x := fun e => z1 (by rw [e]; exact hx)
    exact ((k1.1 c (by rw [hT1 c e]; exact z1) e).1).trans (hT1 c e)
  have v3 : ∀ m, m < 200 → m ≠ 110 → (sA 110 a x S2).2.1 m a = σ.2.1 m a := fun m h1 h2 => by rw [sA_k h2, ka.2.1 m h1, hf1 m a h1 hax]
  refine kk T2 (sA 110 a x S2) gT (WT.pair hw ha h110 hx hT1 hx1 hf1 h91 e0 e1 w1 hr k1 g0 g1 n41 (fun K9 h9 => ?_)) (by rw [show (sA 110 a x S2).2.1 110 a = (x : Int) from ra_eq]; omega) (TR.of (x := rr) ((v3 103 (by decide) (by decide)).trans hrr) ?_) (fun p9 q9 => ?_) (v3 96 (by decide) (by decide))
  · intro c
    rw [c1 c, ← h9 c]
    exact (hw.2.2.2.2.2).choose_spec.choose_spec.2.2.1 c
  · rw [sA_k (by omega), kr.2.1 57 (by decide), hf1 57 rr (by decide) nr]; exact htr rr hrr
  · rw [show (sA 110 a x S2).2.1 110 a = (x : Int) from ra_eq] at q9
    have e9 : p9 = x := by omega
    rw [e9, sA_k (by omega), htt, v3 103 (by decide) (by decide), hrr]
    intro e8
    have e7 : tt = rr := by omega
    rw [e7, hT1 rr nr] at htz
    omega
end
section
theorem dX11_beside_0 : decode cX11_beside 0 = .ok (.aload_n 0, 1) := by decide +kernel
theorem dX11_beside_1 : decode cX11_beside 1 = .ok (.iload_n 1, 1) := by decide +kernel
theorem dX11_beside_2 : decode cX11_beside 2 = .ok (.invokevirtual 123, 3) := by decide +kernel
theorem dX11_beside_5 : decode cX11_beside 5 = .ok (.ifnull 17, 3) := by decide +kernel
theorem dX11_beside_22 : decode cX11_beside 22 = .ok (.iconst (-1), 1) := by decide +kernel
theorem dX11_beside_23 : decode cX11_beside 23 = .ok (.ireturn, 1) := by decide +kernel
theorem dX11_beside_8 : decode cX11_beside 8 = .ok (.iload 6, 2) := by decide +kernel
theorem dX11_beside_10 : decode cX11_beside 10 = .ok (.iconst 1, 1) := by decide +kernel
theorem dX11_beside_11 : decode cX11_beside 11 = .ok (.if_icmp .lt 11, 3) := by decide +kernel
theorem dX11_beside_14 : decode cX11_beside 14 = .ok (.iload 6, 2) := by decide +kernel
theorem dX11_beside_16 : decode cX11_beside 16 = .ok (.sipush 20000, 3) := by decide +kernel
theorem dX11_beside_19 : decode cX11_beside 19 = .ok (.if_icmp .le 5, 3) := by decide +kernel
theorem dX11_beside_24 : decode cX11_beside 24 = .ok (.aload_n 0, 1) := by decide +kernel
theorem dX11_beside_25 : decode cX11_beside 25 = .ok (.getfield 258, 3) := by decide +kernel
theorem dX11_beside_28 : decode cX11_beside 28 = .ok (.ifnonnull 22, 3) := by decide +kernel
set_option maxRecDepth 20000 in
theorem k_X11_beside (d : Nat) {T : CT} {σ : MS} {a : Nat} {r : Int} {p : Int} {q : Int} {s : Int} {t : Int} {n : Int} {B : Int} (ha : OB T a 11) (h_r : -2147483648 ≤ r ∧ r ≤ 2147483647) (h_p : -2147483648 ≤ p ∧ p ≤ 2147483647) (h_q : -2147483648 ≤ q ∧ q ≤ 2147483647) (h_s : -2147483648 ≤ s ∧ s ≤ 2147483647) (h_t : -2147483648 ≤ t ∧ t ≤ 2147483647) (h_n : -2147483648 ≤ n ∧ n ≤ 2147483647) (hw : WT T σ) (htr : TR σ a B) (hsep : SEP σ a) : Tn (d + 8) m_X11_beside 0 T σ [(0, .ref a), (1, .int (iI r)), (2, .int (iI p)), (3, .int (iI q)), (4, .int (iI s)), (5, .int (iI t)), (6, .int (iI n))] [] (fun ro T2 σ2 => ∃ v : Int, ro = some (.int (iI v)) ∧ WT T2 σ2 ∧ FrC T [0, 1, 2, 3, 4, 5, 6, 7, 8, 9, 10, 11, 12, 13, 14, 15, 16, 17, 18, 19, 20, 21, 22, 23, 24, 25, 26, 27, 28, 29, 30, 31, 32, 33, 34, 35, 36, 37, 38, 39, 40, 41, 42, 43, 44, 45, 46, 47, 48, 49, 50, 51, 52, 53, 54, 55, 56, 57, 58, 59, 60, 61, 62, 63, 64, 65, 66, 67, 68, 69, 70, 71, 72, 73, 74, 75, 76, 77, 78, 79, 80, 81, 82, 83, 84, 85, 86, 87, 88, 89, 90, 91, 92, 93, 94, 95, 96, 97, 98, 99, 100, 101, 102, 103, 104, 105, 106, 107, 108, 109, 110, 111, 112, 113, 114, 115, 116, 117, 118, 119, 120, 121, 122, 123, 124, 125, 126, 127, 128, 129, 130, 131, 132, 133, 134, 135, 136, 137, 138, 139, 140, 141, 142, 143, 144, 145, 146, 147, 148, 149, 150, 151, 152, 153, 154, 155, 156, 157, 158, 159, 160, 161, 162, 163, 164, 165, 166, 167, 168, 169, 170, 171, 172, 173, 174, 175, 176, 177, 178, 179, 180, 181, 182, 183, 184, 185, 186, 187, 188, 189, 190, 191, 192, 193, 194, 195, 196, 197, 198, 199, 900, 502, 512, 515, 516, 517, 518, 519, 520, 521, 522, 523, 524] σ σ2 ∧ (-2147483648 ≤ v ∧ v ≤ 2147483647) ∧ (TR σ2 a B) ∧ (SEP σ2 a) ∧ (σ2.2.1 96 a = σ.2.1 96 a)) := by
  refine tn_aload_n dX11_beside_0 rfl 0 rfl ?_
  refine tn_iload_n dX11_beside_1 rfl 1 rfl ?_
  refine tn_callV (M := m_X11_beside) (pc := 2) (ix := 123) (ci := 11) (M' := m_X11_codeOf) (As := [.int (iI r)]) (rest := []) dX11_beside_2 ok_X11_codeOf im_X11_codeOf se_X11_codeOf ml11_123 np_X11_codeOf rfl rfl ha rfl (Nat.le_of_ble_eq_true rfl) (Nat.le_of_ble_eq_true rfl) rfl (k_X11_codeOf (d + 6) (T := T) (σ := σ) (a := a) (r := r) ha (by omega) hw ) (fun r1 T3 σ2 gt4 hp => ?_)
  obtain ⟨v5, rfl, rfl, rfl, rv6⟩ := hp
  clear gt4
  rcases rv6 with rv6 | ⟨x7, rfl, hk8⟩
  · show Tn _ _ 5 T σ [(0, .ref a), (1, .int (iI r)), (2, .int (iI p)), (3, .int (iI q)), (4, .int (iI s)), (5, .int (iI t)), (6, .int (iI n))] (vl true v5 :: []) _
    rw [vl_null rv6]
    refine tn_ifnullN (tgt := 22) dX11_beside_5 (by decide) ?_
    refine tn_iconst dX11_beside_22 ?_
    exact tn_iret rfl dX11_beside_23 ⟨_, rfl, hw, FrC.rfl, by omega, htr, hsep, rfl⟩
  · show Tn _ _ 5 T σ [(0, .ref a), (1, .int (iI r)), (2, .int (iI p)), (3, .int (iI q)), (4, .int (iI s)), (5, .int (iI t)), (6, .int (iI n))] (vl true (x7 : Int) :: []) _
    rw [vl_ref rfl]
    have hk8o : OB T x7 1 := ⟨by omega, by rw [hk8]; rfl, by omega⟩
    refine tn_ifnull dX11_beside_5 ?_
    refine tn_iload dX11_beside_8 6 rfl ?_
    refine tn_iconst dX11_beside_10 ?_
    refine tn_icmp_lt (tgt := 22) dX11_beside_11 (by decide) ⟨by omega, by omega⟩ ⟨by decide, by decide⟩ (fun h9 => ?_) (fun h9 => ?_)
    · refine tn_iconst dX11_beside_22 ?_
      exact tn_iret rfl dX11_beside_23 ⟨_, rfl, hw, FrC.rfl, by omega, htr, hsep, rfl⟩
    · refine tn_iload dX11_beside_14 6 rfl ?_
      refine tn_sipush dX11_beside_16 (by decide) ?_
      refine tn_icmp_le (tgt := 24) dX11_beside_19 (by decide) ⟨by omega, by omega⟩ ⟨by decide, by decide⟩ (fun h10 => ?_) (fun h10 => ?_)
      · refine tn_aload_n dX11_beside_24 rfl 0 rfl ?_
        rcases wf_110 hw ha with hx11 | ⟨x12, hx11, hk13⟩
        · refine tn_getN (ci := 11) (i := 15) (n := 110) dX11_beside_25 rfl lay_11 (by decide) fl11_258 ha rfl rfl (Int.lt_of_le_of_lt (Int.le_of_eq (Eq.refl _)) hx11) ?_
          refine tn_ifnonnullN dX11_beside_28 ?_
          exact bs_new d ha hw hx11 htr (fun T2 σ2 g w p0 tr sp h96 => Tn.mono (k_X11_beside_50 (d) (T := T2) (σ := σ2) (a := a) (r := r) (p := p) (q := q) (s := s) (t := t) (n := n) (B := B) (g.ob ha) h_r h_p h_q h_s h_t h_n w p0 (by omega) tr sp) (fun ro t1 s1 h => by obtain ⟨v, h1, h2, h3, h4, h5, h6, h7⟩ := h; exact ⟨v, h1, h2, FrC.all (by decide) (by decide) ht_all, h4, h5, h6, h7.trans h96⟩))
        · have hk13o : OB T x12 0 := ⟨by omega, by rw [hk13]; rfl, by omega⟩
          refine tn_getR (ci := 11) (i := 15) (n := 110) (x := x12) dX11_beside_25 rfl lay_11 (by decide) fl11_258 ha rfl rfl (hx11) ?_
          refine tn_ifnonnull (tgt := 50) dX11_beside_28 (by decide) ?_
          exact Tn.mono (k_X11_beside_50 (d) (T := T) (σ := σ) (a := a) (r := r) (p := p) (q := q) (s := s) (t := t) (n := n) (B := B) ha h_r h_p h_q h_s h_t h_n hw (by omega) (by omega) htr hsep) (fun ro t1 s1 h => by obtain ⟨v, h1, h2, h3, h4⟩ := h; exact ⟨v, h1, h2, FrC.all (by decide) (by decide) ht_all, h4⟩)
      · refine tn_iconst dX11_beside_22 ?_
        exact tn_iret rfl dX11_beside_23 ⟨_, rfl, hw, FrC.rfl, by omega, htr, hsep, rfl⟩
end
section
section TQ
variable {d : Nat} {M : MT} {pc : Nat} {T T0 : CT} {σ σ0 : MS} {L : List (Nat × Value)} {st : List Value} {post : Option Value → CT → MS → Prop} {a x k N ci G G1 : Nat} {K : List Nat} {v z : Int}
/-- a row of codes is told finished -/
theorem tn_tagQ (hx : T x = (k + 90, N)) (hk : k = 4 ∨ k = 5) (kk : Tn d M pc (tT T x k N) σ L st post) : Tn d M pc T σ L st post := fun P0 sz hs => by
  have hd2 : DOM (tT T x k N) sz := fun c hc => by
    by_cases e : c = x
    · rw [e]; exact hs x (by rw [hx]; show k + 90 ≠ 0; omega)
    · rw [tT_ne e] at hc; exact hs c hc
  obtain ⟨r, T2, σ2, sz2, n9, w, g, hp⟩ := kk P0 sz hd2
  have e : ovC (tT T x k N) σ P0 = ovC T σ P0 := by
    funext q
    by_cases hq : q = x
    · rw [hq, ovC_q (by rw [tT_eq]; show k = 4 ∨ k = 5 ∨ k = 94 ∨ k = 95; omega), ovC_q (by rw [hx]; show k + 90 = 4 ∨ k + 90 = 5 ∨ k + 90 = 94 ∨ k + 90 = 95; omega), tT_eq, hx]
    · unfold ovC; rw [tT_ne hq]
  rw [e] at w
  refine ⟨r, T2, σ2, sz2, n9, w, ⟨g.1, g.2.1, fun c q r => ?_, g.2.2.2.1, g.2.2.2.2⟩, hp⟩
  have hne : c ≠ x := fun h => by rw [h, hx] at r; have : k + 90 < 80 := r; omega
  have e4 : tT T x k N c = T c := tT_ne hne
  rw [g.2.2.1 c q (by rw [e4]; exact r), e4]
theorem CX.row (h : CX a ci K G G1 T0 σ0 T σ) (hx : 80 ≤ (T x).1) (hz : (T0 x).1 = 0) : CX a ci K G G1 T0 σ0 T (sA (1000 + x) z v σ) :=
  ⟨h.1, h.2.1.rawrow hx, h.2.2.1, ⟨fun c p q => by
    obtain ⟨w1, w2, w3⟩ := h.2.2.2.1.1 c p q
    have e : c ≠ x := fun e => p (by rw [e]; exact hz)
    exact ⟨w1, fun n hn => by rw [sA_k (by omega)]; exact w2 n hn, by rw [sA_k (by omega)]; exact w3⟩, by rw [sA_k (by omega)]; exact h.2.2.2.1.2⟩, h.2.2.2.2.1, h.2.2.2.2.2⟩
theorem CX.tagQ (h : CX a ci K G G1 T0 σ0 T σ) (hx : T x = (k + 90, N)) (hk : k = 4 ∨ k = 5) (hz : (T0 x).1 = 0) (hc : ci < 12) (he : ∀ i, 0 ≤ i → i < (N : Int) → ∃ y : Nat, σ.2.1 (1000 + x) i = (y : Int) ∧ T y = ((if k = 4 then 31 else 50), 0)) : CX a ci K G G1 T0 σ0 (tT T x k N) σ := by
  have hne : a ≠ x := fun e => by have w := h.1; rw [e, hx] at w; have w2 : k + 90 = 80 + ci := congrArg Prod.fst w; omega
  obtain ⟨h1, h2, h3, h4, h5⟩ := h.2.1
  have xk : (T x).1 = k + 90 := by rw [hx]
  have bk : ∀ c, c ≠ x → tT T x k N c = T c := fun c e => tT_ne e
  have gk : ∀ c, (T c).1 < 80 → tT T x k N c = T c := fun c r => tT_ne (fun e => by rw [e] at r; omega)
  have g : GT T (tT T x k N) := fun c _ r => gk c r
  have ob : ∀ c cj, OB (tT T x k N) c cj → c ≠ x ∧ OB T c cj := fun c cj w => by
    have e : c ≠ x := fun e => by have w1 := w.1; rw [e, tT_eq] at w1; have w2 : 30 ≤ k := w1; omega
    exact ⟨e, by unfold OB at w ⊢; rw [bk c e] at w; exact w⟩
  refine ⟨by rw [bk a hne]; exact h.1, ⟨fun m c q w => ?_, fun c y q r => ?_, fun c q i => ?_, ⟨fun c q i i0 i1 => ?_, fun c q i i0 i1 => ?_⟩, ⟨fun c c' q q' => ?_, fun i i0 i1 => ?_⟩⟩, fun c => ?_, ⟨fun c p q => ?_, h.2.2.2.1.2⟩, h.2.2.2.2.1, h.2.2.2.2.2⟩
  · obtain ⟨e, w2⟩ := ob c _ w
    rw [bk c e]; exact fo_mono m q g (h1 m c q w2)
  · obtain ⟨e, w2⟩ := ob c _ q
    obtain ⟨y2, e1, e2, -⟩ := cells_at h1 w2
    have e3 : y2 = y := by omega
    rw [gk y (by rw [← e3]; omega)]
    exact h2 c y w2 r
  · have e : c ≠ x := fun e => by unfold IA at q; rw [e, tT_eq] at q; simp only at q; omega
    rw [bk c e]; exact h3 c (by unfold IA at q ⊢; rw [bk c e] at q; exact q) i
  · by_cases e : c = x
    · rw [e] at q i1 ⊢
      rw [tT_eq] at q i1
      have q2 : k = 4 := q
      obtain ⟨y, w1, w2⟩ := he i i0 i1
      rw [if_pos q2] at w2
      exact ⟨y, w1, by rw [gk y (by rw [w2]; decide), w2]⟩
    · rw [bk c e] at q i1
      obtain ⟨y, w1, w2⟩ := h4.1 c q i i0 i1
      exact ⟨y, w1, by rw [gk y (by omega)]; exact w2⟩
  · by_cases e : c = x
    · rw [e] at q i1 ⊢
      rw [tT_eq] at q i1
      have q2 : k = 5 := q
      obtain ⟨y, w1, w2⟩ := he i i0 i1
      rw [if_neg (by omega)] at w2
      exact ⟨y, w1, by rw [gk y (by rw [w2]; decide), w2]⟩
    · rw [bk c e] at q i1
      obtain ⟨y, w1, w2⟩ := h4.2 c q i i0 i1
      exact ⟨y, w1, by rw [gk y (by omega)]; exact w2⟩
  · have e : ∀ c, (tT T x k N c).1 = 7 → (T c).1 = 7 := fun c q => by
      have e : c ≠ x := fun e => by rw [e, tT_eq] at q; have q9 : k = 7 := q; omega
      rw [bk c e] at q; exact q
    exact h5.1 c c' (e c q) (e c' q')
  · rcases h5.2 i i0 i1 with q | ⟨y, q1, q2⟩
    · exact Or.inl q
    · exact Or.inr ⟨y, q1, by unfold AR; rw [gk y (by have := q2.1; omega)]; exact q2⟩
  · rw [← h.2.2.1 c]
    constructor
    · intro w; exact (ob c _ w).2
    · intro w
      have e : c ≠ x := fun e => by have := w.2.2; rw [e] at this; omega
      unfold OB at w ⊢; rw [bk c e]; exact w
  · obtain ⟨w1, w2⟩ := h.2.2.2.1.1 c p q
    exact ⟨(bk c (fun e => p (by rw [e]; exact hz))).trans w1, w2⟩
theorem NX.tagQ {q : Nat} (h : NX q a T0 T) (hq : k ≠ q) : NX q a T0 (tT T x k N) := h.mk9 hq
theorem n7_now (h : NX 7 a T0 T) (g : KPx a T0 σ0 T σ) (ha : T a = (80 + ci, 0)) (hc : ci < 12) (h0 : ∀ c, (T0 c).1 ≠ 7) : ∀ c, (T c).1 ≠ 7 := fun c => by
  by_cases e : c = a
  · rw [e, ha]; show 80 + ci ≠ 7; omega
  · by_cases z : (T0 c).1 = 0
    · exact h c z e
    · rw [(g.1 c z e).1]; exact h0 c
end TQ
end
