theorem mlL_9 : Cond.methodLink RL 9 yX11_init ∈ pWW := pw1 (List.mem_of_getElem? (i := 24) rfl) rfl
theorem mlL_12 : Cond.methodLink RL 12 yX12_init ∈ pWW := pw7 (List.mem_of_getElem? (i := 0) rfl) rfl
theorem clL_7 : Cond.classLink RL 7 RX11 ∈ pWW := pw1 (List.mem_of_getElem? (i := 22) rfl) rfl
theorem clL_10 : Cond.classLink RL 10 RX12 ∈ pWW := pw6 (List.mem_of_getElem? (i := 238) rfl) rfl
theorem ist_11 : Cond.instantiable RX11 16 ∈ pWW := pw1 (List.mem_of_getElem? (i := 23) rfl) rfl
theorem ist_12 : Cond.instantiable RX12 87 ∈ pWW := pw6 (List.mem_of_getElem? (i := 239) rfl) rfl
theorem dL_law_0 : decode cL_law 0 = .ok (.new 7, 3) := by decide +kernel
theorem dL_law_3 : decode cL_law 3 = .ok (.dup, 1) := by decide +kernel
theorem dL_law_4 : decode cL_law 4 = .ok (.invokespecial 9, 3) := by decide +kernel
theorem dL_law_7 : decode cL_law 7 = .ok (.astore_n 1, 1) := by decide +kernel
theorem dL_law_8 : decode cL_law 8 = .ok (.new 10, 3) := by decide +kernel
theorem dL_law_11 : decode cL_law 11 = .ok (.dup, 1) := by decide +kernel
theorem dL_law_12 : decode cL_law 12 = .ok (.invokespecial 12, 3) := by decide +kernel
theorem dL_law_15 : decode cL_law 15 = .ok (.astore_n 2, 1) := by decide +kernel
theorem dL_law_16 : decode cL_law 16 = .ok (.iconst 0, 1) := by decide +kernel
theorem dL_law_17 : decode cL_law 17 = .ok (.istore_n 3, 1) := by decide +kernel
def sI : MS := (fun _ => 0, fun j _ => if j = 900 then -1 else 0, fun _ _ => 0)
def tI (a : Nat) : CT := tT (fun _ => (0, 0)) a 91 0
def gI (a : Nat) : MS := objS a (gh 16 sI)
theorem tI_k (a c : Nat) : (tI a c).1 = 0 ∨ (tI a c).1 = 91 := by
  unfold tI tT
  by_cases e : c = a
  · rw [if_pos e]; exact Or.inr rfl
  · rw [if_neg e]; exact Or.inl rfl
theorem tI_ob {a c ci : Nat} : ¬ OB (tI a) c ci := fun h => by
  have h1 := h.1
  have h2 := h.2.2
  rcases tI_k a c with e | e <;> rw [e] at h1 h2 <;> omega
theorem gI_9 {a : Nat} : (gI a).2.1 900 = fun _ => -1 := by
  unfold gI
  rw [objS_hi (by decide)]
  rfl
theorem tI_wt {a : Nat} : WTn (tI a) (gI a) := ⟨fun _ _ _ h => absurd h tI_ob, fun _ _ h => absurd h tI_ob, fun c h => by
  unfold IA at h
  rcases tI_k a c with e | e <;> rw [e] at h <;> omega, ⟨fun c h => by rcases tI_k a c with e | e <;> rw [e] at h <;> omega, fun c h => by rcases tI_k a c with e | e <;> rw [e] at h <;> omega⟩, fun c d h => by rcases tI_k a c with e | e <;> rw [e] at h <;> omega, fun i _ _ => Or.inl (by rw [gI_9]; show (-1 : Int) < 0; decide)⟩
theorem tI_ij {a : Nat} : INJT (fun _ => True) (tI a) (gI a) := ⟨fun b h => h.1, fun _ _ c _ _ _ hc => by
  have z := hc.1
  unfold FIN at z
  rcases tI_k a c with e | e <;> rw [e] at z <;> omega⟩
theorem tI_cd {a : Nat} : CD [] (tI a) := fun c => ⟨fun h => absurd h tI_ob, fun h => absurd h (by simp)⟩
theorem tI_ov {a : Nat} {P0 : PH} : pS P0 a (.inr (11, [.null, .int 0, .int 0, .null, .null, .null, .null, .null, .null, .int 0, .int 0, .null, .null, .null, .null, .null])) = ovC (tI a) (gI a) P0 := by
  have e : ovC (fun _ => (0, 0)) sI P0 = P0 := rfl
  have e2 := ovC_new (x := a) (P0 := P0) (T := fun _ => (0, 0)) (σ := sI) (T2 := tI a) (σ2 := gI a) (e := .inr (11, [.null, .int 0, .int 0, .null, .null, .null, .null, .null, .null, .int 0, .int 0, .null, .null, .null, .null, .null])) (fun c h => tT_ne h) (fun j c hj h => by unfold gI; rw [objS_ne (by omega)]; rfl) (fun c h h2 => absurd rfl h2) (fun h => by obtain ⟨c, -, h⟩ := h; exact absurd h (by decide)) (fun c h => rfl) (by
    rw [ovC_o (by unfold tI; rw [tT_eq]; decide)]
    have e3 : tI a a = (91, 0) := tT_eq
    rw [e3]
    show some (Sum.inr (11, cF 11 (gI a) a)) = _
    rw [hfd_11 _ _ (fun j hj => by unfold gI; exact objS_eq hj)])
  rw [e] at e2
  exact e2
theorem tI_dom {a : Nat} : DOM (tI a) (a + 1) := fun c h => by
  by_cases e : c = a
  · omega
  · unfold tI at h; rw [tT_ne e] at h; exact absurd rfl h
set_option maxHeartbeats 4000000 in
theorem law_start {b n0 : Nat} {xs : Nat → Int32} (hn0 : n0 ≤ 3584) (a : Nat) : Wl b n0 xs 0 (fun _ => none) a 0 0 [(0, .ref b)] [] := by
  refine wl_new (ci := 11) (N := 16) tyX11 tyX11_ok dL_law_0 rfl lay_11 clL_7 ist_11 ini_11 df_11 rfl (by decide) (by decide) ?_
  rw [tI_ov]
  refine wl_dup dL_law_3 rfl ?_
  obtain ⟨r, T2, σ2, sz2, n9, w, g, rfl, ht, hw, ⟨K2, hK, hcd⟩, hkp, g0, g1, hij, hfrn, hnx, h96, h110, h97, h104, h105, t, h103, h57, hkl, h55⟩ := kj2_X11_init_41 1297 (T := tI a) (σ := gI a) (a := a) (K := []) tT_eq tI_wt tI_cd (fun j hj => by unfold gI; exact objS_eq hj) (S0 := fun _ => True) tI_ij gI_9 (fun c h => by rcases tI_k a c with e | e <;> rw [e] at h <;> omega) (fun _ => none) (a + 1) tI_dom
  have z0' : (gI a).1 0 = 16 := rfl
  have z1' : (gI a).1 1 = 1 := rfl
  have g4 := g.2.2.2.1
  have g5 := g.2.2.2.2
  have g6 := g.1
  rw [z0'] at g0 g4
  rw [z1'] at g1 g5
  refine wl_I (M' := m_X11_init) (ix := 9) (As := []) (rest := [.ref a]) (k1 := sz2 - (a + 1)) (o1 := (none, ovC T2 σ2 (fun _ => none), sz2, n9)) dL_law_4 ok_X11_init rfl rfl im_X11_init mlL_9 np_X11_init rfl (Nat.le_of_ble_eq_true rfl) (Nat.le_of_ble_eq_true rfl) rfl w (by show sz2 = a + 1 + (sz2 - (a + 1)); omega) (by omega) (by show 0 + 16 + n9 ≤ 7334070; omega) ?_
  show Wl b n0 xs 7 (ovC T2 σ2 (fun _ => none)) sz2 (0 + 1 + (sz2 - (a + 1))) (0 + 16 + n9) [(0, .ref b)] [.ref a]
  refine wl_astore_n (L' := [(1, .ref a), (0, .ref b)]) dL_law_7 rfl (by decide) rfl ?_
  refine wl_new (ci := 12) (N := 87) (fs := mFk sz2 0) tyX12 tyX12_ok dL_law_8 rfl lay_12 clL_10 ist_12 ini_12 df_12 rfl (by omega) (by omega) ?_
  rw [ovK_0]
  refine wl_dup dL_law_11 rfl ?_
  refine wl_I (M' := m_X12_init) (ix := 12) (As := []) (rest := [.ref sz2]) (k1 := 55) (o1 := (none, ovM sz2 z0 (ovC T2 σ2 (fun _ => none)), sz2 + 56, 1125718)) dL_law_12 ok_X12_init rfl rfl im_X12_init mlL_12 np_X12_init rfl (Nat.le_of_ble_eq_true rfl) (Nat.le_of_ble_eq_true rfl) rfl (wi_M 1299) rfl (by omega) (by show 0 + 16 + n9 + 87 + 1125718 ≤ 7334070; omega) ?_
  have hd2 : DOM T2 sz2 := g.2.1
  have hfr : ∀ q, sz2 ≤ q → q < sz2 + 56 → (T2 q).1 = 0 := fun q u _ => by
    by_cases e : (T2 q).1 = 0
    · exact e
    · exact absurd (hd2 q e) (by omega)
  show Wl b n0 xs 15 (ovM sz2 z0 (ovC T2 σ2 (fun _ => none))) (sz2 + 56) (0 + 1 + (sz2 - (a + 1)) + 1 + 55) (0 + 16 + n9 + 87 + 1125718) [(1, .ref a), (0, .ref b)] [.ref sz2]
  rw [← ov_swap hfr]
  refine wl_astore_n (L' := [(2, .ref sz2), (1, .ref a), (0, .ref b)]) dL_law_15 rfl (by decide) rfl ?_
  refine wl_iconst (v := iI 0) dL_law_16 rfl ?_
  refine wl_istore_n (L' := LL 0 sz2 a b) dL_law_17 rfl (by decide) rfl ?_
  have hob : OB T2 a 11 := by unfold OB; rw [ht]; exact ⟨by decide, by decide, by decide⟩
  have h11 : ∀ c, OB T2 c 11 → c = a := fun c hc => by
    by_cases e : c = a
    · exact e
    · have z : (tI a c).1 = 0 := by unfold tI; rw [tT_ne e]
      have q := hnx c z e
      obtain ⟨q1, q2, q3⟩ := hc
      unfold kC at q2
      split at q2
      · omega
      · split at q2
        · omega
        · split at q2 <;> omega
  have hwt : WT T2 σ2 := WT.first hw hcd (by rw [hK]; decide) h11 (by rw [g0]; decide) (by rw [g1]; decide)
  have hx : INVX 0 T2 σ2 a := INVX.first hwt h110 h103 h57
  have hli : LI 0 a sz2 (sz2 + 56) (0 + 1 + (sz2 - (a + 1)) + 1 + 55) (0 + 16 + n9 + 87 + 1125718) T2 σ2 z0 := ⟨hx, hob, INVM.first, h96.trans rfl, fun c h => Nat.lt_of_lt_of_le (hd2 c h) (by omega), Nat.le_refl _, hfr, by omega, by omega⟩
  have e : (0 : Int) = 7 * ((0 : Nat) : Int) := by decide
  rw [e]
  have hl4 : L4 σ2 z0 a := ⟨fun x g => fun k k0 k1 => absurd k1 (by omega), h97.trans rfl, h104.trans rfl, h105.trans rfl⟩
  obtain ⟨C6, E6, M6, k6⟩ := KB6.first hwt hob hij hkl (fun i _ _ => by rw [hkp.2, gI_9]; show (-1 : Int) < 0; decide) (by rw [h110]; decide)
  have h9 : ∀ i, 0 ≤ i → i < 6 → σ2.2.1 900 i < 0 := fun i _ _ => by rw [hkp.2, gI_9]; show (-1 : Int) < 0; decide
  have hl6 : L9 T2 σ2 z0 a := ⟨⟨hl4, _, C6, E6, M6, k6, (cda_first (σ := σ2) (τ := z0) (C := C6) rfl).1, (cda_first (σ := σ2) (τ := z0) (C := C6) rfl).2, l7_first rfl rfl h55, TGK.first h9 rfl k6, cdw_first rfl, sch_first rfl (fun _ => rfl) (fun _ => rfl) INVM.first.sca⟩, xi9_first rfl (by rw [h110]; decide)⟩
  exact law_loop hn0 n0 0 _ _ _ _ _ _ hli hl6 (by omega) (by omega)
