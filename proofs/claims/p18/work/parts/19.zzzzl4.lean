section
theorem PR5.mk {σ : MS} {a x tt tt1 y4 y5 : Nat} (h : (sA 110 a x σ).2.1 110 a = (x : Int)) (h0 : σ.2.1 0 x = (tt : Int)) (h1 : σ.2.1 1 x = (tt1 : Int)) (h5 : σ.2.1 55 tt = (y5 : Int)) (h4 : σ.2.1 55 tt1 = (y4 : Int)) (h99 : (sA 110 a x σ).2.1 99 a = (y5 : Int)) (h98 : (sA 110 a x σ).2.1 98 a = (y4 : Int)) : PR5 (sA 110 a x σ) a := fun p hp => by
  have e : p = x := by omega
  subst e
  rw [h99, h98, adN_of ((congrFun (sA_k (by decide)) _).trans h0), adN_of ((congrFun (sA_k (by decide)) _).trans h1), sA_k (by decide)]
  exact ⟨h5, h4⟩
set_option maxHeartbeats 1000000 in
set_option maxRecDepth 20000 in
theorem bs7_new (d : Nat) {T : CT} {σ : MS} {a : Nat} {r p q s t n B : Int} {post : Option Value → CT → MS → Prop} (ha : OB T a 11) (hw : WT T σ) (h110 : σ.2.1 110 a < 0) (htr : TR σ a B) {S : Nat → Prop} (hI : INJ S T σ) (kk : ∀ (T2 : CT) (σ2 : MS), GT T T2 → WT T2 σ2 → 0 ≤ σ2.2.1 110 a → TR σ2 a B → SEP σ2 a → σ2.2.1 96 a = σ.2.1 96 a → PRQ T σ T2 σ2 a → PRI S T T2 σ2 a → PR5 σ2 a → Tn (d + 8) m_X11_beside 50 T2 σ2 [(0, .ref a), (1, .int (iI r)), (2, .int (iI p)), (3, .int (iI q)), (4, .int (iI s)), (5, .int (iI t)), (6, .int (iI n))] [] post) : Tn (d + 8) m_X11_beside 31 T σ [(0, .ref a), (1, .int (iI r)), (2, .int (iI p)), (3, .int (iI q)), (4, .int (iI s)), (5, .int (iI t)), (6, .int (iI n))] [] post := by
  refine tn_aload_n dX11_beside_31 rfl 0 rfl ?_
  refine tn_newO (ci := 0) (N := 5) tyX0 tyX0_ok dX11_beside_32 rfl lay_0 cl11_262 ist_0 ini_0 df_0 rfl (by decide) hfd_0 (fun x hx => ?_)
  have hax : a ≠ x := fun e => by have := ha.1; rw [e] at this; omega
  obtain ⟨y5, hy5, hk5, hl5⟩ := wf_99 hw ha
  obtain ⟨y4, hy4, hk4, hl4⟩ := wf_98 hw ha
  obtain ⟨rr, hrr, hkr⟩ := wf_103 hw ha
  have t5 : T y5 = (5, 6) := Prod.ext hk5 (by show (T y5).2 = 6; omega)
  have t4 : T y4 = (4, 6) := Prod.ext hk4 (by show (T y4).2 = 6; omega)
  obtain ⟨T1, S1, hT1, hx1, hf1, h91, e0, e1, hdf, wn, cd, eT, eS⟩ : ∃ (T1 : CT) (S1 : MS), (∀ c, c ≠ x → T1 c = T c) ∧ T1 x = (80, 0) ∧ (∀ n c, n < 200 → c ≠ x → S1.2.1 n (c : Int) = σ.2.1 n c) ∧ S1.2.1 900 = σ.2.1 900 ∧ S1.1 0 = σ.1 0 + (5 : Nat) ∧ S1.1 1 = σ.1 1 + 1 ∧ (∀ j, j < 200 → S1.2.1 j (x : Int) = dfF j) ∧ WTn T1 S1 ∧ (∀ K, CD K T → CD K T1) ∧ T1 = tT T x (80 + 0) 0 ∧ S1 = objS x (gh 5 σ) := by
    have e : (tT T x (80 + 0) 0 x).1 = 80 := by rw [tT_eq]
    have f1 : ∀ n c, n < 200 → c ≠ x → (objS x (gh 5 σ)).2.1 n (c : Int) = σ.2.1 n c := fun n c hn hc => by rw [objS_ne (by omega)]; rfl
    have f9 : (objS x (gh 5 σ)).2.1 900 = σ.2.1 900 := by rw [objS_hi (by omega)]; rfl
    exact ⟨_, _, fun c hc => tT_ne hc, tT_eq, f1, f9, rfl, rfl, fun j hj => objS_eq hj, hw.n.new hx (fun c hc => tT_ne hc) f1 (fun c hc => by rw [objS_hi (by omega)]; rfl) f9 (by rw [e]; omega) (by rw [e]; omega) (fun q => by unfold IA at q; rw [e] at q; omega), fun K h => h.new (fun c hc => tT_ne hc) hx (by rw [e]; omega), rfl, rfl⟩
  rw [← eT, ← eS]
  have a1 : T1 a = T a := hT1 a hax
  have oa1 : OB T1 a 11 := by unfold OB; rw [a1]; exact ha
  have n5 : y5 ≠ x := fun e => by rw [e] at hk5; omega
  have n4 : y4 ≠ x := fun e => by rw [e] at hk4; omega
  have nr : rr ≠ x := fun e => by rw [e] at hkr; omega
  refine tn_dup dX11_beside_35 rfl ?_
  refine tn_aload_n dX11_beside_36 rfl 0 rfl ?_
  refine tn_getR (ci := 11) (i := 4) (n := 99) (x := y5) dX11_beside_37 rfl lay_11 (by decide) fl11_19 oa1 rfl rfl ((hf1 99 a (by decide) hax).trans hy5) ?_
  refine tn_aload_n dX11_beside_40 rfl 0 rfl ?_
  refine tn_getR (ci := 11) (i := 3) (n := 98) (x := y4) dX11_beside_41 rfl lay_11 (by decide) fl11_15 oa1 rfl rfl ((hf1 98 a (by decide) hax).trans hy4) ?_
  refine tn_callI (M := m_X11_beside) (pc := 44) (ix := 264) (M' := m_X0_init) (As := [.ref y5, .ref y4]) (rest := [.ref x, .ref a]) dX11_beside_44 ok_X0_init rfl rfl im_X0_init ml11_264 np_X0_init rfl (Nat.le_of_ble_eq_true rfl) (Nat.le_of_ble_eq_true rfl) rfl (kk_X0_init_30 (S0 := fun b => S b ∨ (T b).1 = 0) (d + 5) (T := T1) (σ := S1) (a := x) (K := (hw.2.2.2.2.2).choose_spec.choose) (cs := y5) (mc := y4) hx1 wn (cd _ (fun c => ((hw.2.2.2.2.2).choose_spec.choose_spec.2.2.1 c).symm)) hdf (inj_new hI hT1 hx1 hf1) ((hT1 y5 n5).trans t5) ((hT1 y4 n4).trans t4)) (fun r2 T2 S2 g hp => ?_)
  obtain ⟨rfl, hr, w1, c1, k1, g0, g1, hij2, hfr2, n7, n41, tt, tt1, htt, htt1, htz, htz1, h5a, h5b⟩ := hp
  show Tn _ _ 47 T2 S2 [(0, .ref a), (1, .int (iI r)), (2, .int (iI p)), (3, .int (iI q)), (4, .int (iI s)), (5, .int (iI t)), (6, .int (iI n))] [.ref x, .ref a] _
  have ka := k1.1 a (by rw [a1]; have := ha.1; omega) hax
  have oa2 : OB T2 a 11 := by unfold OB; rw [ka.1]; exact oa1
  have kr := k1.1 rr (by rw [hT1 rr nr]; omega) nr
  refine tn_putV (ci := 11) (i := 15) (n := 110) (r := true) (v := (x : Int)) tyX11 tyX11_ok nmX11 dX11_beside_47 rfl lay_11 (by decide) fl11_258 rfl (tyX11_ok 15 (by decide)) (vl_ref rfl).symm rfl rfl oa2 rfl rfl ?_
  have gT : GT T T2 := fun c z1 z2 => by
    have e : c ≠ x := fun e => z1 (by rw [e]; exact hx)
    exact ((k1.1 c (by rw [hT1 c e]; exact z1) e).1).trans (hT1 c e)
  have v3 : ∀ m, m < 200 → m ≠ 110 → (sA 110 a x S2).2.1 m a = σ.2.1 m a := fun m h1 h2 => by rw [sA_k h2, ka.2.1 m h1, hf1 m a h1 hax]
  refine kk T2 (sA 110 a x S2) gT (WT.pair hw ha h110 hx hT1 hx1 hf1 h91 e0 e1 w1 hr k1 g0 g1 n41 (fun K9 h9 => ?_)) (by rw [show (sA 110 a x S2).2.1 110 a = (x : Int) from ra_eq]; omega) (TR.of (x := rr) ((v3 103 (by decide) (by decide)).trans hrr) ?_) (fun p9 q9 => ?_) (v3 96 (by decide) (by decide)) (PRQ.mk hx hT1 hf1 h91 eS k1) (pair_inj hI hx hT1 k1 hx1 hij2 hfr2 htt htt1 htz htz1) (PR5.mk ra_eq htt htt1 h5a h5b ((v3 99 (by decide) (by decide)).trans hy5) ((v3 98 (by decide) (by decide)).trans hy4))
  · intro c
    rw [c1 c, ← h9 c]
    exact (hw.2.2.2.2.2).choose_spec.choose_spec.2.2.1 c
  · rw [sA_k (by omega), kr.2.1 57 (by decide), hf1 57 rr (by decide) nr]; exact htr rr hrr
  · rw [show (sA 110 a x S2).2.1 110 a = (x : Int) from ra_eq] at q9
    have e9 : p9 = x := by omega
    rw [e9, sA_k (by omega), htt, v3 103 (by decide) (by decide), hrr]
    intro e8
    have e7 : tt = rr := by omega
    rw [e7, hT1 rr nr] at htz
    omega
end
