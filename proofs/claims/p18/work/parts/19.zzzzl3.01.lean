section
set_option maxHeartbeats 1000000 in
set_option maxRecDepth 20000 in
theorem kk_X0_init_30 (d : Nat) {T : CT} {σ : MS} {a : Nat} {K : List Nat} {cs : Nat} {mc : Nat} (hraw : T a = (80 + 0, 0)) (hb : WTn T σ) (hcd : CD K T) (hdf : ∀ j, j < 200 → σ.2.1 j (a : Int) = dfF j) {S0 : Nat → Prop} (hij : INJT S0 T σ) (h_cs : T cs = (5, 6)) (h_mc : T mc = (4, 6)) : Tn (d + 2) m_X0_init 0 T σ [(0, .ref a), (1, .ref cs), (2, .ref mc)] [] (fun ro T2 σ2 => ro = none ∧ T2 a = (30, 0) ∧ WTn T2 σ2 ∧ CD K T2 ∧ KPx a T σ T2 σ2 ∧ σ2.1 0 = σ.1 0 + (4160 : Nat) ∧ σ2.1 1 = σ.1 1 + (14 : Nat) ∧ INJT S0 T2 σ2 ∧ FRN T T2 σ2 ∧ NX 7 a T T2 ∧ NX 41 a T T2 ∧ ∃ t t1 : Nat, σ2.2.1 0 (a : Int) = (t : Int) ∧ σ2.2.1 1 (a : Int) = (t1 : Int) ∧ (T t).1 = 0 ∧ (T t1).1 = 0 ∧ σ2.2.1 55 (t : Int) = (cs : Int) ∧ σ2.2.1 55 (t1 : Int) = (mc : Int)) := by
  have cx0 : CX a 0 K 0 0 T σ T σ := CX.begin hraw hb hcd
  have cj : CXJ S0 a 0 T T σ := CXJ.begin hraw (fun f9 h9 c9 => (hdf f9 (by have := afl_lt h9; omega)).trans ((by decide : ∀ f ∈ AFL, dfF f = -1) f9 h9)) hij
  have nx7 : NX 7 a T T := NX.begin (by decide)
  have nx41 : NX 41 a T T := NX.begin (by decide)
  have f0 : σ.2.1 0 a = -1 := (hdf 0 (by decide)).trans (by decide)
  have f1 : σ.2.1 1 a = -1 := (hdf 1 (by decide)).trans (by decide)
  have f2 : σ.2.1 2 a = 0 := (hdf 2 (by decide)).trans (by decide)
  have f3 : σ.2.1 3 a = 0 := (hdf 3 (by decide)).trans (by decide)
  have f4 : σ.2.1 4 a = 0 := (hdf 4 (by decide)).trans (by decide)
  refine tn_aload_n dX0_init_0 rfl 0 rfl ?_
  refine tn_objInit dX0_init_1 mlo0_3 oiI oiC (by omega) (Nat.le_of_ble_eq_true rfl) ?_
  refine tn_aload_n dX0_init_4 rfl 0 rfl ?_
  refine tn_newO (ci := 7) (N := 17) tyX7 tyX7_ok dX0_init_5 rfl lay_7 cl0_9 ist_7 ini_7 df_7 rfl (by decide) hfd_7 (fun x1 hx2 => ?_)
  have ne3 := cx0.ne hx2
  have df4z := (cx0.fresh hx2).resolve_right (fun e => ne3 e.symm)
  have df4 : ∀ j, j < 200 → (objS x1 (gh 17 σ)).2.1 j (x1 : Int) = dfF j := fun j hj => objS_eq hj
  have ne3j := CXJ.new (T2 := (tT T x1 (80 + 7) 0)) (σ2 := (objS x1 (gh 17 σ))) cj cx0.1 cx0.2.1 hx2 (by rw [tT_eq]; decide) (fun b9 e9 => tT_ne e9) (fun n9 c9 hn9 hc9 => by rw [objS_ne (by omega)]; rfl)
  obtain ⟨T5, σ6, eT7, eS8, cx9, f0, f1, f2, f3, f4, o10, o11, o12, nx7, nx41, cj⟩ : ∃ (T5 : CT) (σ6 : MS), T5 = (tT T x1 (80 + 7) 0) ∧ σ6 = (objS x1 (gh 17 σ)) ∧ CX a 0 K 17 1 T σ T5 σ6 ∧ (σ6.2.1 0 a = -1) ∧ (σ6.2.1 1 a = -1) ∧ (σ6.2.1 2 a = 0) ∧ (σ6.2.1 3 a = 0) ∧ (σ6.2.1 4 a = 0) ∧ (T5 cs = (5, 6)) ∧ (T5 mc = (4, 6)) ∧ (T5 x1 = (87, 0)) ∧ NX 7 a T T5 ∧ NX 41 a T T5 ∧ CXJ S0 a 0 T T5 σ6 := ⟨_, _, rfl, rfl, (cx0.newO hx2 (by decide)), (by rw [objS_ne (by omega)]; exact f0), (by rw [objS_ne (by omega)]; exact f1), (by rw [objS_ne (by omega)]; exact f2), (by rw [objS_ne (by omega)]; exact f3), (by rw [objS_ne (by omega)]; exact f4), (tk_keep h_cs (by decide) hx2), (tk_keep h_mc (by decide) hx2), tT_eq, (nx7.mk9 (by decide)), (nx41.mk9 (by decide)), ne3j.1⟩
  rw [← eT7]
  rw [← eS8]
  rw [← eS8] at df4
  refine tn_dup dX0_init_8 rfl ?_
  refine tn_aload_n dX0_init_9 rfl 1 rfl ?_
  refine tn_callI (M := m_X0_init) (pc := 10) (ix := 11) (M' := m_X7_init) (As := [.ref cs]) (rest := [.ref x1, .ref a]) dX0_init_10 ok_X7_init rfl rfl im_X7_init ml0_11 np_X7_init rfl (Nat.le_of_ble_eq_true rfl) (Nat.le_of_ble_eq_true rfl) rfl (kj_X7_init_37 (d) (T := T5) (σ := σ6) (a := x1) (K := K) (cs := cs) o12 cx9.2.1 cx9.2.2.1 df4 cj.1 o10) (fun r13 T14 σ15 gt16 hp => ?_)
  obtain ⟨rfl, hr17, w18, cd19, kp20, ga21, gb22, hr17i, hr17f, hr17n7, hr17n41, -, hr17g, -⟩ := hp
  have ne3b : a ≠ x1 := ne_of cx9.1 o12 (by decide)
  have kp20a := kp20.1 a (by rw [cx9.1]; decide) ne3b
  obtain ⟨T23, σ24, eT25, eS26, cx27, f0, f1, f2, f3, f4, o28, o29, o30, nx7, nx41, cj, hr17g⟩ : ∃ (T23 : CT) (σ24 : MS), T23 = T14 ∧ σ24 = σ15 ∧ CX a 0 K 2080 7 T σ T23 σ24 ∧ (σ24.2.1 0 a = -1) ∧ (σ24.2.1 1 a = -1) ∧ (σ24.2.1 2 a = 0) ∧ (σ24.2.1 3 a = 0) ∧ (σ24.2.1 4 a = 0) ∧ (T23 cs = (5, 6)) ∧ (T23 mc = (4, 6)) ∧ (T23 x1 = (37, 0)) ∧ NX 7 a T T23 ∧ NX 41 a T T23 ∧ CXJ S0 a 0 T T23 σ24 ∧ (σ24.2.1 55 x1 = (cs : Int)) := ⟨_, _, rfl, rfl, (cx9.call ne3b w18 cd19 kp20 ga21 gb22 df4z), ((kp20a.2.1 0 (by decide)).trans f0), ((kp20a.2.1 1 (by decide)).trans f1), ((kp20a.2.1 2 (by decide)).trans f2), ((kp20a.2.1 3 (by decide)).trans f3), ((kp20a.2.1 4 (by decide)).trans f4), ((kp20.1 cs (by rw [o10]; decide) (ne_of o10 o12 (by decide))).1.trans o10), ((kp20.1 mc (by rw [o11]; decide) (ne_of o11 o12 (by decide))).1.trans o11), hr17, (nx7.call kp20 hr17 (by decide) hr17n7), (nx41.call kp20 hr17 (by decide) hr17n41), (CXJ.call cj cx9.1 cx9.2.1 cx9.2.2.2.1 ne3b kp20 (by rw [o12]; decide) hr17i hr17f), hr17g⟩
  rw [← eT25]
  rw [← eS26]
  show Tn _ _ 13 T23 σ24 [(0, .ref a), (1, .ref cs), (2, .ref mc)] [.ref x1, .ref a] _
  refine tn_putFr (ci := 0) (i := 0) (n := 0) (r := true) (v := (x1 : Int)) tyX0 tyX0_ok nmX0 dX0_init_13 rfl lay_0 (by decide) fl0_14 rfl rfl rfl (tyX0_ok 0 (by decide)) (vl_ref rfl).symm rfl rfl (cx27.r (by decide)) rfl rfl ?_
  obtain ⟨σ32, eS34, cx35, f0, f1, f2, f3, f4, cj, hr17g⟩ : ∃ (σ32 : MS), σ32 = (sA 0 a ((x1 : Int)) σ24) ∧ CX a 0 K 2080 7 T σ T23 σ32 ∧ (σ32.2.1 0 a = (x1 : Int)) ∧ (σ32.2.1 1 a = -1) ∧ (σ32.2.1 2 a = 0) ∧ (σ32.2.1 3 a = 0) ∧ (σ32.2.1 4 a = 0) ∧ CXJ S0 a 0 T T23 σ32 ∧ (σ32.2.1 55 x1 = (cs : Int)) := ⟨_, rfl, (cx27.put (by decide)), ra_eq, (rc_o (by decide) f1), (rc_o (by decide) f2), (rc_o (by decide) f3), (rc_o (by decide) f4), (CXJ.put cj cx27.1 cx27.2.1 (by decide)), (rc_o (by decide) hr17g)⟩
  rw [← eS34]
  refine tn_aload_n dX0_init_16 rfl 0 rfl ?_
  refine tn_newO (ci := 7) (N := 17) tyX7 tyX7_ok dX0_init_17 rfl lay_7 cl0_9 ist_7 ini_7 df_7 rfl (by decide) hfd_7 (fun x36 hx37 => ?_)
  have ne38 := cx35.ne hx37
  have df39z := (cx35.fresh hx37).resolve_right (fun e => ne38 e.symm)
  have hr17gne : x1 ≠ x36 := fun e9 => by rw [e9] at o30; rw [o30] at hx37; exact absurd hx37 (by decide)
  have df39 : ∀ j, j < 200 → (objS x36 (gh 17 σ32)).2.1 j (x36 : Int) = dfF j := fun j hj => objS_eq hj
  have ne38j := CXJ.new (T2 := (tT T23 x36 (80 + 7) 0)) (σ2 := (objS x36 (gh 17 σ32))) cj cx35.1 cx35.2.1 hx37 (by rw [tT_eq]; decide) (fun b9 e9 => tT_ne e9) (fun n9 c9 hn9 hc9 => by rw [objS_ne (by omega)]; rfl)
  obtain ⟨T40, σ41, eT42, eS43, cx44, f0, f1, f2, f3, f4, o45, o46, o47, o48, nx7, nx41, cj, hr17g⟩ : ∃ (T40 : CT) (σ41 : MS), T40 = (tT T23 x36 (80 + 7) 0) ∧ σ41 = (objS x36 (gh 17 σ32)) ∧ CX a 0 K 2097 8 T σ T40 σ41 ∧ (σ41.2.1 0 a = (x1 : Int)) ∧ (σ41.2.1 1 a = -1) ∧ (σ41.2.1 2 a = 0) ∧ (σ41.2.1 3 a = 0) ∧ (σ41.2.1 4 a = 0) ∧ (T40 cs = (5, 6)) ∧ (T40 mc = (4, 6)) ∧ (T40 x1 = (37, 0)) ∧ (T40 x36 = (87, 0)) ∧ NX 7 a T T40 ∧ NX 41 a T T40 ∧ CXJ S0 a 0 T T40 σ41 ∧ (σ41.2.1 55 x1 = (cs : Int)) := ⟨_, _, rfl, rfl, (cx35.newO hx37 (by decide)), (by rw [objS_ne (by omega)]; exact f0), (by rw [objS_ne (by omega)]; exact f1), (by rw [objS_ne (by omega)]; exact f2), (by rw [objS_ne (by omega)]; exact f3), (by rw [objS_ne (by omega)]; exact f4), (tk_keep o28 (by decide) hx37), (tk_keep o29 (by decide) hx37), (tk_keep o30 (by decide) hx37), tT_eq, (nx7.mk9 (by decide)), (nx41.mk9 (by decide)), ne38j.1, (by rw [objS_ne (by omega)]; exact hr17g)⟩
  rw [← eT42]
  rw [← eS43]
  rw [← eS43] at df39
  refine tn_dup dX0_init_20 rfl ?_
  refine tn_aload_n dX0_init_21 rfl 2 rfl ?_
  refine tn_callI (M := m_X0_init) (pc := 22) (ix := 11) (M' := m_X7_init) (As := [.ref mc]) (rest := [.ref x36, .ref a]) dX0_init_22 ok_X7_init rfl rfl im_X7_init ml0_11 np_X7_init rfl (Nat.le_of_ble_eq_true rfl) (Nat.le_of_ble_eq_true rfl) rfl (kj_X7_init_57 (d) (T := T40) (σ := σ41) (a := x36) (K := K) (cs := mc) o48 cx44.2.1 cx44.2.2.1 df39 cj.1 o46) (fun r49 T50 σ51 gt52 hp => ?_)
  obtain ⟨rfl, hr53, w54, cd55, kp56, ga57, gb58, hr53i, hr53f, hr53n7, hr53n41, -, hr53g, -⟩ := hp
  have ne38b : a ≠ x36 := ne_of cx44.1 o48 (by decide)
  have kp56a := kp56.1 a (by rw [cx44.1]; decide) ne38b
  obtain ⟨T59, σ60, eT61, eS62, cx63, f0, f1, f2, f3, f4, o64, o65, o66, o67, nx7, nx41, cj, hr17g, hr53g⟩ : ∃ (T59 : CT) (σ60 : MS), T59 = T50 ∧ σ60 = σ51 ∧ CX a 0 K 4160 14 T σ T59 σ60 ∧ (σ60.2.1 0 a = (x1 : Int)) ∧ (σ60.2.1 1 a = -1) ∧ (σ60.2.1 2 a = 0) ∧ (σ60.2.1 3 a = 0) ∧ (σ60.2.1 4 a = 0) ∧ (T59 cs = (5, 6)) ∧ (T59 mc = (4, 6)) ∧ (T59 x1 = (37, 0)) ∧ (T59 x36 = (57, 0)) ∧ NX 7 a T T59 ∧ NX 41 a T T59 ∧ CXJ S0 a 0 T T59 σ60 ∧ (σ60.2.1 55 x1 = (cs : Int)) ∧ (σ60.2.1 55 x36 = (mc : Int)) := ⟨_, _, rfl, rfl, (cx44.call ne38b w54 cd55 kp56 ga57 gb58 df39z), ((kp56a.2.1 0 (by decide)).trans f0), ((kp56a.2.1 1 (by decide)).trans f1), ((kp56a.2.1 2 (by decide)).trans f2), ((kp56a.2.1 3 (by decide)).trans f3), ((kp56a.2.1 4 (by decide)).trans f4), ((kp56.1 cs (by rw [o45]; decide) (ne_of o45 o48 (by decide))).1.trans o45), ((kp56.1 mc (by rw [o46]; decide) (ne_of o46 o48 (by decide))).1.trans o46), ((kp56.1 x1 (by rw [o47]; decide) (ne_of o47 o48 (by decide))).1.trans o47), hr53, (nx7.call kp56 hr53 (by decide) hr53n7), (nx41.call kp56 hr53 (by decide) hr53n41), (CXJ.call cj cx44.1 cx44.2.1 cx44.2.2.2.1 ne38b kp56 (by rw [o48]; decide) hr53i hr53f), (((kp56.1 x1 (by rw [o47]; decide) (ne_of o47 o48 (by decide))).2.1 55 (by decide)).trans hr17g), hr53g⟩
  rw [← eT61]
  rw [← eS62]
  show Tn _ _ 25 T59 σ60 [(0, .ref a), (1, .ref cs), (2, .ref mc)] [.ref x36, .ref a] _
  refine tn_putFr (ci := 0) (i := 1) (n := 1) (r := true) (v := (x36 : Int)) tyX0 tyX0_ok nmX0 dX0_init_25 rfl lay_0 (by decide) fl0_20 rfl rfl rfl (tyX0_ok 1 (by decide)) (vl_ref rfl).symm rfl rfl (cx63.r (by decide)) rfl rfl ?_
  obtain ⟨σ69, eS71, cx72, f0, f1, f2, f3, f4, cj, hr17g, hr53g⟩ : ∃ (σ69 : MS), σ69 = (sA 1 a ((x36 : Int)) σ60) ∧ CX a 0 K 4160 14 T σ T59 σ69 ∧ (σ69.2.1 0 a = (x1 : Int)) ∧ (σ69.2.1 1 a = (x36 : Int)) ∧ (σ69.2.1 2 a = 0) ∧ (σ69.2.1 3 a = 0) ∧ (σ69.2.1 4 a = 0) ∧ CXJ S0 a 0 T T59 σ69 ∧ (σ69.2.1 55 x1 = (cs : Int)) ∧ (σ69.2.1 55 x36 = (mc : Int)) := ⟨_, rfl, (cx63.put (by decide)), (rc_o (by decide) f0), ra_eq, (rc_o (by decide) f2), (rc_o (by decide) f3), (rc_o (by decide) f4), (CXJ.put cj cx63.1 cx63.2.1 (by decide)), (rc_o (by decide) hr17g), (rc_o (by decide) hr53g)⟩
  rw [← eS71]
  refine tn_tag (ci := 0) (k := 30) (by decide) cx72.1 (by decide) ?_
  have hf9 : ∀ m, m < 111 → cls m = 0 → FO m 30 T59 (σ69.2.1 m a) := fun m hm9 hc9 => by
    have q9 := clsR_0 m hm9 hc9
    have q8 : m = 0 ∨ m = 1 ∨ m = 2 ∨ m = 3 ∨ m = 4 := by omega
    rcases q8 with q8 | q8 | q8 | q8 | q8
    · subst q8; rw [f0]; exact fo_0 (⟨_, rfl, tg1 o66⟩)
    · subst q8; rw [f1]; exact fo_1 (⟨_, rfl, tg1 o67⟩)
    · subst q8; rw [f2]; exact fo_2 (by decide)
    · subst q8; rw [f3]; exact fo_3 (by decide)
    · subst q8; rw [f4]; exact fo_4 (by decide)
  have jq9 : ∀ f ∈ AFL, cls f = 0 → False := by decide
  have cjf := CXJ.fin (k := 30) cj cx72.1 (by decide) (fun f9 h9 c9 => by exact (jq9 f9 h9 c9).elim)
  exact tn_vret rfl dX0_init_28 ⟨rfl, tT_eq, cx72.2.1.tag cx72.1 (by decide) hf9 (fun h => absurd h (by decide)), cx72.2.2.1.tag (by rw [cx72.1]; decide) (by decide), cx72.2.2.2.1.tag, cx72.2.2.2.2.1, cx72.2.2.2.2.2, cjf.1, cjf.2, nx7.tag, nx41.tag, ⟨_, _, f0, f1, df4z, df39z, hr17g, hr53g⟩⟩
end
