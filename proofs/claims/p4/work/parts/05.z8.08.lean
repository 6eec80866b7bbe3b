theorem cd_X2_init : Cond.code yX2_init cX2_init 2 none ∈ pWW := pw2 (List.mem_of_getElem? (i := 49) rfl) rfl
abbrev m_X2_init : MT := (yX2_init, cX2_init, 2, none)
theorem ok_X2_init : pOk m_X2_init := ⟨⟨cd_X2_init, ini_2⟩, by decide +kernel, ⟨by decide +kernel, by decide +kernel⟩, Nat.le_of_ble_eq_true rfl⟩
theorem np_X2_init : (parseMethodDescriptor yX2_init.desc).map (fun d => d.parameters.length) = some 1 := by decide +kernel
theorem im_X2_init : Cond.instanceMethod yX2_init ∈ pWW := pw2 (List.mem_of_getElem? (i := 48) rfl) rfl
theorem mlo2_3 : Cond.methodLink RX2 3 objectInit ∈ pWW := pw2 (List.mem_of_getElem? (i := 50) rfl) rfl
theorem dX2_init_0 : decode cX2_init 0 = .ok (.aload_n 0, 1) := by decide +kernel
theorem dX2_init_1 : decode cX2_init 1 = .ok (.invokespecial 3, 3) := by decide +kernel
theorem dX2_init_4 : decode cX2_init 4 = .ok (.aload_n 0, 1) := by decide +kernel
theorem dX2_init_5 : decode cX2_init 5 = .ok (.aload_n 1, 1) := by decide +kernel
theorem dX2_init_6 : decode cX2_init 6 = .ok (.putfield 9, 3) := by decide +kernel
theorem dX2_init_9 : decode cX2_init 9 = .ok (.return_, 1) := by decide +kernel
set_option maxRecDepth 20000 in
theorem kc_X2_init_32 (d : Nat) {T : CT} {σ : MS} {a : Nat} {K : List Nat} {fl : Nat} (hraw : T a = (80 + 2, 0)) (hb : WTn T σ) (hcd : CD K T) (hdf : ∀ j, j < 200 → σ.2.1 j (a : Int) = dfF j) (h_fl : T fl = (33, 0)) : Tn (d + 1) m_X2_init 0 T σ [(0, .ref a), (1, .ref fl)] [] (fun ro T2 σ2 => ro = none ∧ T2 a = (32, 0) ∧ WTn T2 σ2 ∧ CD K T2 ∧ KPx a T σ T2 σ2 ∧ σ2.1 0 = σ.1 0 + (0 : Nat) ∧ σ2.1 1 = σ.1 1 + (0 : Nat) ∧ NX 7 a T T2 ∧ NX 41 a T T2) := by
  have cx0 : CX a 2 K 0 0 T σ T σ := CX.begin hraw hb hcd
  have nx7 : NX 7 a T T := NX.begin (by decide)
  have nx41 : NX 41 a T T := NX.begin (by decide)
  have f17 : σ.2.1 17 a = -1 := (hdf 17 (by decide)).trans (by decide)
  refine tn_aload_n dX2_init_0 rfl 0 rfl ?_
  refine tn_objInit dX2_init_1 mlo2_3 oiI oiC (by omega) (Nat.le_of_ble_eq_true rfl) ?_
  refine tn_aload_n dX2_init_4 rfl 0 rfl ?_
  refine tn_aload_n dX2_init_5 rfl 1 rfl ?_
  refine tn_putFr (ci := 2) (i := 0) (n := 17) (r := true) (v := (fl : Int)) tyX2 tyX2_ok nmX2 dX2_init_6 rfl lay_2 (by decide) fl2_9 rfl rfl rfl (tyX2_ok 0 (by decide)) (vl_ref rfl).symm rfl rfl (cx0.r (by decide)) rfl rfl ?_
  obtain ⟨σ2, eS4, cx5, f17⟩ : ∃ (σ2 : MS), σ2 = (sA 17 a ((fl : Int)) σ) ∧ CX a 2 K 0 0 T σ T σ2 ∧ (σ2.2.1 17 a = (fl : Int)) := ⟨_, rfl, (cx0.put (by decide)), ra_eq⟩
  rw [← eS4]
  refine tn_tag (ci := 2) (k := 32) (by decide) cx5.1 (by decide) ?_
  have hf9 : ∀ m, m < 111 → cls m = 2 → FO m 32 T (σ2.2.1 m a) := fun m hm9 hc9 => by
    have q9 := clsR_2 m hm9 hc9
    have q8 : m = 17 := by omega
    subst q8; rw [f17]; exact fo_17 (⟨_, rfl, tg1 h_fl⟩)
  exact tn_vret rfl dX2_init_9 ⟨rfl, tT_eq, cx5.2.1.tag cx5.1 (by decide) hf9 (fun h => absurd h (by decide)), cx5.2.2.1.tag (by rw [cx5.1]; decide) (by decide), cx5.2.2.2.1.tag, cx5.2.2.2.2.1, cx5.2.2.2.2.2, nx7.tag, nx41.tag⟩
