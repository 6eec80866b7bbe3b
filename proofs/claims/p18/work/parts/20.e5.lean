theorem x6_feed (d : Nat) {N : Nat} {T : CT} {σ : MS} {a : Nat} {p q r s t : Int} {S : Nat → Prop} {C E M : Int → Nat}  {Cn : Int} (hT : TGK S T σ a C Cn) (h97 : σ.2.1 97 a = Cn) (ha : OB T a 11) (h_p : -2147483648 ≤ p ∧ p ≤ 2147483647) (h_q : -2147483648 ≤ q ∧ q ≤ 2147483647) (h_r : -2147483648 ≤ r ∧ r ≤ 2147483647) (h_s : -2147483648 ≤ s ∧ s ≤ 2147483647) (h_t : -2147483648 ≤ t ∧ t ≤ 2147483647) (hN : N ≤ 512) (h : INVX N T σ a) (hK : KB6 S T σ a C E M) : Tn (d + 80) m_X11_feed 0 T σ [(0, .ref a), (1, .int (iI p)), (2, .int (iI q)), (3, .int (iI r)), (4, .int (iI s)), (5, .int (iI t))] [] (fun ro T2 σ2 => ∃ v : Int, ro = some (.int (iI v)) ∧ INVX (N + 1) T2 σ2 a ∧ ((σ.2.1 96 a ≤ 1180 ∧ v = σ.2.1 96 a + 20 ∧ σ2.2.1 96 a = σ.2.1 96 a + 20) ∨ (1180 < σ.2.1 96 a ∧ v = -1 ∧ σ2.2.1 96 a = σ.2.1 96 a)) ∧ FWQ σ σ2 a p q r s t ∧ (σ2.2.1 95 a = σ.2.1 95 a ∧ σ2.2.1 97 a = σ.2.1 97 a ∧ σ2.2.1 104 a = σ.2.1 104 a ∧ σ2.2.1 105 a = σ.2.1 105 a) ∧ Q6 σ T2 σ2 a C E M ∧ RK7 σ σ2 a ∧ TGK S T2 σ2 a C Cn) := by
  obtain ⟨xt, hxt, -⟩ := wf_95 h.1 ha
  have e : d + 80 = d + 78 + 2 := by omega
  rw [e]
  refine Tn.mono (k_X11_feed_hg (d + 78) (xt := xt) ha h_p h_q h_r h_s h_t h.1 hxt) (fun ro T2 σ2 hp => ?_)
  obtain ⟨v, rfl, rfl, w, F, q0, q1, q2, q3⟩ := hp
  exact ⟨v, rfl, INVX.step h w F (by decide) (by decide) (by decide) (by decide), q2, q3, ⟨rc_F F (Or.inl (by decide)) (by decide) rfl, rc_F F (Or.inl (by decide)) (by decide) rfl, rc_F F (Or.inl (by decide)) (by decide) rfl, rc_F F (Or.inl (by decide)) (by decide) rfl⟩, (L6Q.tape ha h.1 hxt q1) S C E M hK, rk_tape ha h.1 hxt q1, TGK.tape hT hK.2.1 h.1 ha hxt q1⟩
theorem x6_end (d : Nat) {N : Nat} {T : CT} {σ : MS} {a : Nat} {n : Int} {S : Nat → Prop} {C E M : Int → Nat}  {Cn : Int} (hT : TGK S T σ a C Cn) (h97 : σ.2.1 97 a = Cn) (ha : OB T a 11) (h_n : -2147483648 ≤ n ∧ n ≤ 2147483647) (hN : N ≤ 512) (h : INVX N T σ a) (hK : KB6 S T σ a C E M) : Tn (d + 80) m_X11_end 0 T σ [(0, .ref a), (1, .int (iI n))] [] (fun ro T2 σ2 => ∃ v : Int, ro = some (.int (iI v)) ∧ INVX (N + 1) T2 σ2 a ∧ (((n < 0 ∨ σ.2.1 96 a < n) ∧ v = -1 ∧ σ2.2.1 96 a = σ.2.1 96 a) ∨ (0 ≤ n ∧ n ≤ σ.2.1 96 a ∧ v = n ∧ σ2.2.1 96 a = n)) ∧ K4 σ σ2 a ∧ Q6 σ T2 σ2 a C E M ∧ RK7 σ σ2 a ∧ TGK S T2 σ2 a C Cn) := by
  have e : d + 80 = d + 79 + 1 := by omega
  rw [e]
  refine Tn.mono (k_X11_end_h (d + 79)  ha h_n h.1 ) (fun ro T2 σ2 hp => ?_)
  obtain ⟨v, rfl, rfl, w, F, q0, q1, q2⟩ := hp
  exact ⟨v, rfl, INVX.step h w F (by decide) (by decide) (by decide) (by decide), q2, K4.of F h.1 ha (by decide), (L6Q.fld ha h.1 q1) S C E M hK, rk_fld ha h.1 q1, TGK.chx hT hK.2.1 h.1 ha q1 (fun p hp => by rw [List.mem_singleton.mp hp]; simp) (fun x hx => absurd hx (by simp))⟩
theorem x6_read (d : Nat) {N : Nat} {T : CT} {σ : MS} {a : Nat}  {S : Nat → Prop} {C E M : Int → Nat} {fT Sx : Int → Int} (hrw : ∀ x : Nat, σ.2.1 95 a = (x : Int) → RWE σ x fT (σ.2.1 96 a)) (hB : BYT fT) (hSx : Sx = svC fT (σ.2.1 96 a)) {Cn : Int} (hT : TGK S T σ a C Cn) (h97 : σ.2.1 97 a = Cn) (ha : OB T a 11)  (hN : N ≤ 512) (h : INVX N T σ a) (hK : KB6 S T σ a C E M) : Tn (d + 80) m_X11_read 0 T σ [(0, .ref a)] [] (fun ro T2 σ2 => ∃ v : Int, ro = some (.int (iI v)) ∧ INVX (N + 1) T2 σ2 a ∧ (σ2.2.1 96 a = 0) ∧ RQ9 Sx v (σ2.2.1 104 a) (σ2.2.1 105 a) (σ.2.1 97 a) (σ2.2.1 97 a) ∧ FrC T [5, 6, 7, 8, 9, 10, 35, 38, 42, 43, 44, 45, 46, 47, 50, 51, 56, 84, 85, 86, 87, 96, 97, 104, 105, 512, 516, 517, 518, 519, 520, 521, 522, 523] σ σ2 ∧ RDM S C (nmQ6 Sx) (mk00 (σ.2.1 50 (adN σ 100 a)) (σ.2.1 51 (adN σ 100 a))) T σ T2 σ2 a Sx v ∧ (RP8 σ σ2 a v)) := by
  have e : d + 80 = d + 0 + 80 := by omega
  rw [e]
  refine Tn.mono (k_X11_read_m (d + 0) (fT := fT) (Sx := Sx) (Sj := S) (C := C) (E := E) (M := M) (nm := nmQ6 Sx) (z0 := mk00 (σ.2.1 50 (adN σ 100 a)) (σ.2.1 51 (adN σ 100 a))) ha  h.1 hrw hB hSx hK.1 ⟨rfl, rfl, rfl, rfl⟩) (fun ro T2 σ2 hp => ?_)
  obtain ⟨v, rfl, w, F, q0, q1, q2, q3, q4⟩ := hp
  exact ⟨v, rfl, INVX.step h w F (by decide) (by decide) (by decide) (by decide), q2, q3, F, q4, q1⟩
theorem x6_fault (d : Nat) {N : Nat} {T : CT} {σ : MS} {a : Nat} {w : Int} {S : Nat → Prop} {C E M : Int → Nat}  {Cn : Int} (hT : TGK S T σ a C Cn) (h97 : σ.2.1 97 a = Cn) (ha : OB T a 11) (h_w : -2147483648 ≤ w ∧ w ≤ 2147483647) (hN : N ≤ 512) (h : INVX N T σ a) (hK : KB6 S T σ a C E M) : Tn (d + 80) m_X11_fault 0 T σ [(0, .ref a), (1, .int (iI w))] [] (fun ro T2 σ2 => ∃ v : Int, ro = some (.int (iI v)) ∧ INVX (N + 1) T2 σ2 a ∧ (σ2.2.1 96 a = σ.2.1 96 a) ∧ K4 σ σ2 a ∧ ((w = 0 ∧ v = σ.2.1 104 a) ∨ (w = 1 ∧ v = σ.2.1 105 a) ∨ (w ≠ 0 ∧ w ≠ 1 ∧ v = -1)) ∧ Q6 σ T2 σ2 a C E M ∧ RK7 σ σ2 a ∧ TGK S T2 σ2 a C Cn) := by
  have e : d + 80 = d + 79 + 1 := by omega
  rw [e]
  refine Tn.mono (k_X11_fault_g (d + 79)  ha h_w h.1 ) (fun ro T2 σ2 hp => ?_)
  obtain ⟨v, rfl, rfl, rfl, q0, q1⟩ := hp
  exact ⟨v, rfl, INVX.step h h.1 (FrC.rfl (ks := [])) (by decide) (by decide) (by decide) (by decide), rfl, K4.rfl, q1, ⟨S, hK, fun _ _ _ => ⟨CSM.rf, CSM.rf⟩, id⟩, RK7.rf, hT⟩
theorem x6_routine (d : Nat) {N : Nat} {T : CT} {σ : MS} {a : Nat} {r w : Int} {S : Nat → Prop} {C E M : Int → Nat} {NM PM : Int → Int} (hO : KOK S T σ a C NM PM) {Cn : Int} (hT : TGK S T σ a C Cn) (h97 : σ.2.1 97 a = Cn) (ha : OB T a 11) (h_r : -2147483648 ≤ r ∧ r ≤ 2147483647) (h_w : -2147483648 ≤ w ∧ w ≤ 2147483647) (hN : N ≤ 512) (h : INVX N T σ a) (hK : KB6 S T σ a C E M) : Tn (d + 80) m_X11_routine 0 T σ [(0, .ref a), (1, .int (iI r)), (2, .int (iI w))] [] (fun ro T2 σ2 => ∃ v : Int, ro = some (.int (iI v)) ∧ INVX (N + 1) T2 σ2 a ∧ (σ2.2.1 96 a = σ.2.1 96 a) ∧ K4 σ σ2 a ∧ RTA (σ.2.1 97 a) (cdS σ (C r)) (σ.2.1 8 (C r)) (σ.2.1 7 (C r)) (σ.2.1 9 (C r)) NM r w v ∧ Q6 σ T2 σ2 a C E M ∧ RK7 σ σ2 a ∧ TGK S T2 σ2 a C Cn) := by
  have e : d + 80 = d + 75 + 5 := by omega
  rw [e]
  refine Tn.mono (k_X11_routine_x (d + 75) (S := S) (C := C) (NM := NM) (PM := PM) ha h_r h_w h.1 hO) (fun ro T2 σ2 hp => ?_)
  obtain ⟨v, rfl, rfl, rfl, q0, q1⟩ := hp
  exact ⟨v, rfl, INVX.step h h.1 (FrC.rfl (ks := [])) (by decide) (by decide) (by decide) (by decide), rfl, K4.rfl, q1, ⟨S, hK, fun _ _ _ => ⟨CSM.rf, CSM.rf⟩, id⟩, RK7.rf, hT⟩
theorem x6_item (d : Nat) {N : Nat} {T : CT} {σ : MS} {a : Nat} {r k w : Int} {S : Nat → Prop} {C E M : Int → Nat}  {Cn : Int} (hT : TGK S T σ a C Cn) (h97 : σ.2.1 97 a = Cn) (ha : OB T a 11) (h_r : -2147483648 ≤ r ∧ r ≤ 2147483647) (h_k : -2147483648 ≤ k ∧ k ≤ 2147483647) (h_w : -2147483648 ≤ w ∧ w ≤ 2147483647) (hN : N ≤ 512) (h : INVX N T σ a) (hK : KB6 S T σ a C E M) : Tn (d + 80) m_X11_item 0 T σ [(0, .ref a), (1, .int (iI r)), (2, .int (iI k)), (3, .int (iI w))] [] (fun ro T2 σ2 => ∃ v : Int, ro = some (.int (iI v)) ∧ INVX (N + 1) T2 σ2 a ∧ (σ2.2.1 96 a = σ.2.1 96 a) ∧ K4 σ σ2 a ∧ Q6 σ T2 σ2 a C E M ∧ RK7 σ σ2 a ∧ TGK S T2 σ2 a C Cn) := by
  have e : d + 80 = d + 78 + 2 := by omega
  rw [e]
  refine Tn.mono (k_X11_item (d + 78)  ha h_r h_k h_w h.1 ) (fun ro T2 σ2 hp => ?_)
  obtain ⟨v, rfl, rfl, rfl, q0⟩ := hp
  exact ⟨v, rfl, INVX.step h h.1 (FrC.rfl (ks := [])) (by decide) (by decide) (by decide) (by decide), rfl, K4.rfl, ⟨S, hK, fun _ _ _ => ⟨CSM.rf, CSM.rf⟩, id⟩, RK7.rf, hT⟩
theorem x6_frame (d : Nat) {N : Nat} {T : CT} {σ : MS} {a : Nat} {r f w : Int} {S : Nat → Prop} {C E M : Int → Nat} {NM PM : Int → Int} (hO : KOK S T σ a C NM PM) {Cn : Int} (hT : TGK S T σ a C Cn) (h97 : σ.2.1 97 a = Cn) (ha : OB T a 11) (h_r : -2147483648 ≤ r ∧ r ≤ 2147483647) (h_f : -2147483648 ≤ f ∧ f ≤ 2147483647) (h_w : -2147483648 ≤ w ∧ w ≤ 2147483647) (hN : N ≤ 512) (h : INVX N T σ a) (hK : KB6 S T σ a C E M) : Tn (d + 80) m_X11_frame 0 T σ [(0, .ref a), (1, .int (iI r)), (2, .int (iI f)), (3, .int (iI w))] [] (fun ro T2 σ2 => ∃ v : Int, ro = some (.int (iI v)) ∧ INVX (N + 1) T2 σ2 a ∧ (σ2.2.1 96 a = σ.2.1 96 a) ∧ K4 σ σ2 a ∧ FRB9 (σ.2.1 97 a) (cdS σ (C r)) r f w v ∧ Q6 σ T2 σ2 a C E M ∧ RK7 σ σ2 a ∧ TGK S T2 σ2 a C Cn) := by
  have e : d + 80 = d + 78 + 2 := by omega
  rw [e]
  refine Tn.mono (k_X11_frame_x (d + 78) (S := S) (C := C) (NM := NM) (PM := PM) ha h_r h_f h_w h.1 hO) (fun ro T2 σ2 hp => ?_)
  obtain ⟨v, rfl, rfl, rfl, q0, q1⟩ := hp
  exact ⟨v, rfl, INVX.step h h.1 (FrC.rfl (ks := [])) (by decide) (by decide) (by decide) (by decide), rfl, K4.rfl, q1, ⟨S, hK, fun _ _ _ => ⟨CSM.rf, CSM.rf⟩, id⟩, RK7.rf, hT⟩
theorem x6_told (d : Nat) {N : Nat} {T : CT} {σ : MS} {a : Nat} {r k f m w : Int} {S : Nat → Prop} {C E M : Int → Nat}  {Cn : Int} (hT : TGK S T σ a C Cn) (h97 : σ.2.1 97 a = Cn) (ha : OB T a 11) (h_r : -2147483648 ≤ r ∧ r ≤ 2147483647) (h_k : -2147483648 ≤ k ∧ k ≤ 2147483647) (h_f : -2147483648 ≤ f ∧ f ≤ 2147483647) (h_m : -2147483648 ≤ m ∧ m ≤ 2147483647) (h_w : -2147483648 ≤ w ∧ w ≤ 2147483647) (hN : N ≤ 512) (h : INVX N T σ a) (hK : KB6 S T σ a C E M) : Tn (d + 80) m_X11_told 0 T σ [(0, .ref a), (1, .int (iI r)), (2, .int (iI k)), (3, .int (iI f)), (4, .int (iI m)), (5, .int (iI w))] [] (fun ro T2 σ2 => ∃ v : Int, ro = some (.int (iI v)) ∧ INVX (N + 1) T2 σ2 a ∧ (σ2.2.1 96 a = σ.2.1 96 a) ∧ K4 σ σ2 a ∧ Q6 σ T2 σ2 a C E M ∧ RK7 σ σ2 a ∧ TGK S T2 σ2 a C Cn) := by
  obtain ⟨tl, htl, ktl⟩ := wf_102 h.1 ha
  have otl : OB T tl 10 := ⟨by omega, by rw [ktl]; rfl, by omega⟩
  have hbb : σ.2.1 90 tl = (adN σ 90 tl : Int) := (ad_ex (Q := fun x => AR T x 1 200 200) (wf_90 h.1 otl)).1
  have hbs : σ.2.1 91 tl = (adN σ 91 tl : Int) := (ad_ex (Q := fun x => AR T x 1 145 145) (wf_91 h.1 otl)).1
  have hbf : σ.2.1 89 tl = (adN σ 89 tl : Int) := (ad_ex (Q := fun x => AR T x 1 6 6) (wf_89 h.1 otl)).1
  have e : d + 80 = d + 74 + 6 := by omega
  rw [e]
  refine Tn.mono (k_X11_told_t (d + 74)  ha h_r h_k h_f h_m h_w h.1 htl hbb hbs hbf (TGK.tlh hT hK.2.1 h.1 ha h97 htl hbb hbs hbf)) (fun ro T2 σ2 hp => ?_)
  obtain ⟨v, rfl, w, F, q0, q1, q2⟩ := hp
  exact ⟨v, rfl, INVX.step h w F (by decide) (by decide) (by decide) (by decide), rc_F F (Or.inl (by decide)) (by decide) rfl, K4.of F h.1 ha (by decide), (L6Q.tlq ha h.1 q2 (tlq_of htl hbb hbs hbf q1)) S C E M hK, rk_tlq ha h.1 hK (tlq_of htl hbb hbs hbf q1), TGK.tlt hT hK.2.1 h.1 w ha q2 h97 htl hbb hbs hbf q1⟩
theorem x6_pass (d : Nat) {N : Nat} {T : CT} {σ : MS} {a : Nat} {k r : Int} {S : Nat → Prop} {C E M : Int → Nat} {NM PM : Int → Int} (hO : KOK S T σ a C NM PM) {Cn : Int} (hT : TGK S T σ a C Cn) (h97 : σ.2.1 97 a = Cn) (ha : OB T a 11) (h_k : -2147483648 ≤ k ∧ k ≤ 2147483647) (h_r : -2147483648 ≤ r ∧ r ≤ 2147483647) (hN : N ≤ 512) (h : INVX N T σ a) (hK : KB6 S T σ a C E M) : Tn (d + 80) m_X11_pass 0 T σ [(0, .ref a), (1, .int (iI k)), (2, .int (iI r))] [] (fun ro T2 σ2 => ∃ v : Int, ro = some (.int (iI v)) ∧ INVX (N + 1) T2 σ2 a ∧ (σ2.2.1 96 a = σ.2.1 96 a) ∧ K4 σ σ2 a ∧ FrC T [5, 6, 10, 22, 25, 26, 27, 28, 29, 30, 31, 32, 56, 80] σ σ2 ∧ PAC S T σ T2 σ2 a C NM PM k r v ∧ (RP7 σ σ2 a k r)) := by
  have e : d + 80 = d + 71 + 9 := by omega
  rw [e]
  refine Tn.mono (k_X11_pass_x (d + 71) (S := S) (C := C) (NM := NM) (PM := PM) ha h_k h_r h.1 hO) (fun ro T2 σ2 hp => ?_)
  obtain ⟨v, rfl, w, F, q0, q1, q2⟩ := hp
  exact ⟨v, rfl, INVX.step h w F (by decide) (by decide) (by decide) (by decide), rc_F F (Or.inl (by decide)) (by decide) rfl, K4.of F h.1 ha (by decide), F, q1, q2⟩
theorem x6_start (d : Nat) {N : Nat} {T : CT} {σ : MS} {a : Nat} {r p q s t : Int} {S : Nat → Prop} {C E M : Int → Nat}  {Cn : Int} (hT : TGK S T σ a C Cn) (h97 : σ.2.1 97 a = Cn) (ha : OB T a 11) (h_r : -2147483648 ≤ r ∧ r ≤ 2147483647) (h_p : -2147483648 ≤ p ∧ p ≤ 2147483647) (h_q : -2147483648 ≤ q ∧ q ≤ 2147483647) (h_s : -2147483648 ≤ s ∧ s ≤ 2147483647) (h_t : -2147483648 ≤ t ∧ t ≤ 2147483647) (hN : N ≤ 512) (h : INVX N T σ a) (hK : KB6 S T σ a C E M) : Tn (d + 80) m_X11_start 0 T σ [(0, .ref a), (1, .int (iI r)), (2, .int (iI p)), (3, .int (iI q)), (4, .int (iI s)), (5, .int (iI t))] [] (fun ro T2 σ2 => ∃ v : Int, ro = some (.int (iI v)) ∧ INVX (N + 1) T2 σ2 a ∧ (σ2.2.1 96 a = σ.2.1 96 a) ∧ K4 σ σ2 a ∧ ((v = 1 ∧ 0 ≤ r ∧ r < σ.2.1 97 a) ∨ (v = 0 ∧ (r < 0 ∨ σ.2.1 97 a ≤ r))) ∧ Q6 σ T2 σ2 a C E M ∧ (∃ rn y : Nat, (σ.2.1 103 a = (rn : Int) ∧ σ.2.1 55 rn = (y : Int)) ∧ CHX (RNL rn) [adN σ 59 rn, adN σ 60 rn, adN σ 61 rn, adN σ 62 rn, adN σ 63 rn, adN σ 64 rn] [] σ σ2 ∧ ((v = 0 ∧ σ2 = σ) ∨ (v = 1 ∧ JBG T σ rn (adN σ 59 rn) (adN σ 60 rn) (adN σ 61 rn) (adN σ 62 rn) (adN σ 63 rn) y r p q s t σ2))) ∧ TGK S T2 σ2 a C Cn) := by
  obtain ⟨rn, hrn, krn⟩ := wf_103 h.1 ha
  have on9 : OB T rn 7 := ⟨by omega, by rw [krn]; rfl, by omega⟩
  have hxa : σ.2.1 59 rn = (adN σ 59 rn : Int) := by obtain ⟨z9, z8, -⟩ := wf_59 h.1 on9; rw [adN_of z8]; exact z8
  have hxb : σ.2.1 60 rn = (adN σ 60 rn : Int) := by obtain ⟨z9, z8, -⟩ := wf_60 h.1 on9; rw [adN_of z8]; exact z8
  have hxc : σ.2.1 61 rn = (adN σ 61 rn : Int) := by obtain ⟨z9, z8, -⟩ := wf_61 h.1 on9; rw [adN_of z8]; exact z8
  have hxd : σ.2.1 62 rn = (adN σ 62 rn : Int) := by obtain ⟨z9, z8, -⟩ := wf_62 h.1 on9; rw [adN_of z8]; exact z8
  have hxe : σ.2.1 63 rn = (adN σ 63 rn : Int) := by obtain ⟨z9, z8, -⟩ := wf_63 h.1 on9; rw [adN_of z8]; exact z8
  have hxf : σ.2.1 64 rn = (adN σ 64 rn : Int) := by obtain ⟨z9, z8, -⟩ := wf_64 h.1 on9; rw [adN_of z8]; exact z8
  obtain ⟨y, hy, -⟩ := wf_55 h.1 on9
  have e : d + 80 = d + 75 + 5 := by omega
  rw [e]
  refine Tn.mono (k_X11_start_jg (d + 75) (B := 20001 * (N : Int)) ha h_r h_p h_q h_s h_t h.1 hrn hxa hxb hxc hxd hxe hxf hy h.2.1 (by omega)) (fun ro T2 σ2 hp => ?_)
  obtain ⟨v, rfl, rfl, w, F, q0, q1, q2, q3, q4⟩ := hp
  exact ⟨v, rfl, INVX.tr h w F (by decide) (by decide) (by decide) q3 (by omega), rc_F F (Or.inl (by decide)) (by decide) rfl, K4.of F h.1 ha (by decide), q2, (L6Q.run ha h.1 hrn hxa hxb hxc hxd hxe hxf q1) S C E M hK, ⟨rn, y, ⟨hrn, hy⟩, q1, q4⟩, TGK.run hT hK.2.1 h.1 ha (RN6.mk (by have z := hK.2.2; rw [adN_of hrn] at z; exact z) on9 hxa hxb hxc hxd hxe hxf) q1⟩
theorem x6_go (d : Nat) {N : Nat} {T : CT} {σ : MS} {a : Nat} {w n : Int} {S : Nat → Prop} {C E M : Int → Nat}  {Cn : Int} (hT : TGK S T σ a C Cn) (h97 : σ.2.1 97 a = Cn) (ha : OB T a 11) (h_w : -2147483648 ≤ w ∧ w ≤ 2147483647) (h_n : -2147483648 ≤ n ∧ n ≤ 2147483647) (hN : N ≤ 512) (h : INVX N T σ a) (hK : KB6 S T σ a C E M) : Tn (d + 80) m_X11_go 0 T σ [(0, .ref a), (1, .int (iI w)), (2, .int (iI n))] [] (fun ro T2 σ2 => ∃ v : Int, ro = some (.int (iI v)) ∧ INVX (N + 1) T2 σ2 a ∧ (σ2.2.1 96 a = σ.2.1 96 a) ∧ K4 σ σ2 a ∧ Q6 σ T2 σ2 a C E M ∧ (∃ rn y : Nat, (σ.2.1 103 a = (rn : Int) ∧ σ.2.1 55 rn = (y : Int)) ∧ CHX (RNL rn) [adN σ 59 rn, adN σ 60 rn, adN σ 61 rn, adN σ 62 rn, adN σ 63 rn, adN σ 64 rn] [] σ σ2 ∧ ((¬ ((0 ≤ w ∧ w ≤ 2) ∧ (1 ≤ n ∧ n ≤ 20000) ∧ σ.2.1 56 rn ≠ 0) ∧ v = -1 ∧ σ2 = σ) ∨ (((0 ≤ w ∧ w ≤ 2) ∧ (1 ≤ n ∧ n ≤ 20000) ∧ σ.2.1 56 rn ≠ 0) ∧ JAD T σ rn (adN σ 59 rn) (adN σ 60 rn) (adN σ 61 rn) (adN σ 62 rn) (adN σ 63 rn) (adN σ 64 rn) y w n v σ2))) ∧ TGK S T2 σ2 a C Cn) := by
  obtain ⟨rn, hrn, krn⟩ := wf_103 h.1 ha
  have on9 : OB T rn 7 := ⟨by omega, by rw [krn]; rfl, by omega⟩
  have hxa : σ.2.1 59 rn = (adN σ 59 rn : Int) := by obtain ⟨z9, z8, -⟩ := wf_59 h.1 on9; rw [adN_of z8]; exact z8
  have hxb : σ.2.1 60 rn = (adN σ 60 rn : Int) := by obtain ⟨z9, z8, -⟩ := wf_60 h.1 on9; rw [adN_of z8]; exact z8
  have hxc : σ.2.1 61 rn = (adN σ 61 rn : Int) := by obtain ⟨z9, z8, -⟩ := wf_61 h.1 on9; rw [adN_of z8]; exact z8
  have hxd : σ.2.1 62 rn = (adN σ 62 rn : Int) := by obtain ⟨z9, z8, -⟩ := wf_62 h.1 on9; rw [adN_of z8]; exact z8
  have hxe : σ.2.1 63 rn = (adN σ 63 rn : Int) := by obtain ⟨z9, z8, -⟩ := wf_63 h.1 on9; rw [adN_of z8]; exact z8
  have hxf : σ.2.1 64 rn = (adN σ 64 rn : Int) := by obtain ⟨z9, z8, -⟩ := wf_64 h.1 on9; rw [adN_of z8]; exact z8
  obtain ⟨y, hy, -⟩ := wf_55 h.1 on9
  have e : d + 80 = d + 73 + 7 := by omega
  rw [e]
  refine Tn.mono (k_X11_go_j (d + 73) (B := 20001 * (N : Int)) ha h_w h_n h.1 hrn hxa hxb hxc hxd hxe hxf hy h.2.1 (by omega)) (fun ro T2 σ2 hp => ?_)
  obtain ⟨v, rfl, rfl, w, F, q0, q1, q2, q3⟩ := hp
  exact ⟨v, rfl, INVX.tr h w F (by decide) (by decide) (by decide) q2 (by omega), rc_F F (Or.inl (by decide)) (by decide) rfl, K4.of F h.1 ha (by decide), (L6Q.run ha h.1 hrn hxa hxb hxc hxd hxe hxf q1) S C E M hK, ⟨rn, y, ⟨hrn, hy⟩, q1, q3⟩, TGK.run hT hK.2.1 h.1 ha (RN6.mk (by have z := hK.2.2; rw [adN_of hrn] at z; exact z) on9 hxa hxb hxc hxd hxe hxf) q1⟩
theorem x6_stack (d : Nat) {N : Nat} {T : CT} {σ : MS} {a : Nat} {k w : Int} {S : Nat → Prop} {C E M : Int → Nat}  {Cn : Int} (hT : TGK S T σ a C Cn) (h97 : σ.2.1 97 a = Cn) (ha : OB T a 11) (h_k : -2147483648 ≤ k ∧ k ≤ 2147483647) (h_w : -2147483648 ≤ w ∧ w ≤ 2147483647) (hN : N ≤ 512) (h : INVX N T σ a) (hK : KB6 S T σ a C E M) : Tn (d + 80) m_X11_stack 0 T σ [(0, .ref a), (1, .int (iI k)), (2, .int (iI w))] [] (fun ro T2 σ2 => ∃ v : Int, ro = some (.int (iI v)) ∧ INVX (N + 1) T2 σ2 a ∧ (σ2.2.1 96 a = σ.2.1 96 a) ∧ K4 σ σ2 a ∧ Q6 σ T2 σ2 a C E M ∧ RK7 σ σ2 a ∧ (∃ rn y : Nat, (σ.2.1 103 a = (rn : Int) ∧ σ.2.1 55 rn = (y : Int)) ∧ CHX [(70, rn), (71, rn)] [] [] σ σ2 ∧ JSK T σ rn (adN σ 59 rn) (adN σ 61 rn) (adN σ 62 rn) y k w v σ2) ∧ TGK S T2 σ2 a C Cn) := by
  obtain ⟨rn, hrn, krn⟩ := wf_103 h.1 ha
  have on9 : OB T rn 7 := ⟨by omega, by rw [krn]; rfl, by omega⟩
  have hxa : σ.2.1 59 rn = (adN σ 59 rn : Int) := by obtain ⟨z9, z8, -⟩ := wf_59 h.1 on9; rw [adN_of z8]; exact z8
  have hxb : σ.2.1 60 rn = (adN σ 60 rn : Int) := by obtain ⟨z9, z8, -⟩ := wf_60 h.1 on9; rw [adN_of z8]; exact z8
  have hxc : σ.2.1 61 rn = (adN σ 61 rn : Int) := by obtain ⟨z9, z8, -⟩ := wf_61 h.1 on9; rw [adN_of z8]; exact z8
  have hxd : σ.2.1 62 rn = (adN σ 62 rn : Int) := by obtain ⟨z9, z8, -⟩ := wf_62 h.1 on9; rw [adN_of z8]; exact z8
  have hxe : σ.2.1 63 rn = (adN σ 63 rn : Int) := by obtain ⟨z9, z8, -⟩ := wf_63 h.1 on9; rw [adN_of z8]; exact z8
  have hxf : σ.2.1 64 rn = (adN σ 64 rn : Int) := by obtain ⟨z9, z8, -⟩ := wf_64 h.1 on9; rw [adN_of z8]; exact z8
  obtain ⟨y, hy, -⟩ := wf_55 h.1 on9
  have e : d + 80 = d + 75 + 5 := by omega
  rw [e]
  refine Tn.mono (k_X11_stack_j (d + 75)  ha h_k h_w h.1 hrn hxa hxc hxd hy) (fun ro T2 σ2 hp => ?_)
  obtain ⟨v, rfl, rfl, w, F, q0, q1, q2⟩ := hp
  exact ⟨v, rfl, INVX.step h w F (by decide) (by decide) (by decide) (by decide), rc_F F (Or.inl (by decide)) (by decide) rfl, K4.of F h.1 ha (by decide), (L6Q.fnd ha h.1 q1) S C E M hK, rk_fnd hrn q1, ⟨rn, y, ⟨hrn, hy⟩, q1, q2⟩, (kv_mid hT hK.2.1 h.1 ha q1).1⟩
theorem x6_known (d : Nat) {N : Nat} {T : CT} {σ : MS} {a : Nat} {k m : Int} {S : Nat → Prop} {C E M : Int → Nat}  {Cn : Int} (hT : TGK S T σ a C Cn) (h97 : σ.2.1 97 a = Cn) (hkv : ∀ rn tl y : Nat, σ.2.1 103 a = (rn : Int) → (T rn).1 = 37 → σ.2.1 102 a = (tl : Int) → σ.2.1 55 rn = (y : Int) → KVH T σ rn tl (adN σ 59 rn) (adN σ 60 rn) (adN σ 61 rn) y (adN σ 90 tl) (adN σ 91 tl) (adN σ 89 tl) k m) (ha : OB T a 11) (h_k : -2147483648 ≤ k ∧ k ≤ 2147483647) (h_m : -2147483648 ≤ m ∧ m ≤ 2147483647) (hN : N ≤ 512) (h : INVX N T σ a) (hK : KB6 S T σ a C E M) : Tn (d + 80) m_X11_known 0 T σ [(0, .ref a), (1, .int (iI k)), (2, .int (iI m))] [] (fun ro T2 σ2 => ∃ v : Int, ro = some (.int (iI v)) ∧ INVX (N + 1) T2 σ2 a ∧ (σ2.2.1 96 a = σ.2.1 96 a) ∧ K4 σ σ2 a ∧ Q6 σ T2 σ2 a C E M ∧ RK7 σ σ2 a ∧ (∃ rn tl y : Nat, ((σ.2.1 103 a = (rn : Int) ∧ (T rn).1 = 37) ∧ σ.2.1 102 a = (tl : Int) ∧ σ.2.1 55 rn = (y : Int)) ∧ GT T T2 ∧ KVT T T2 σ σ2 rn tl (adN σ 59 rn) (adN σ 60 rn) (adN σ 61 rn) y (adN σ 90 tl) (adN σ 91 tl) (adN σ 89 tl) k m (-1) v (fun s c9 i9 => jKW (jWO T2 s c9 (adN s 5 c9) i9)))) := by
  obtain ⟨rn, hrn, krn⟩ := wf_103 h.1 ha
  have on9 : OB T rn 7 := ⟨by omega, by rw [krn]; rfl, by omega⟩
  have hxa : σ.2.1 59 rn = (adN σ 59 rn : Int) := by obtain ⟨z9, z8, -⟩ := wf_59 h.1 on9; rw [adN_of z8]; exact z8
  have hxb : σ.2.1 60 rn = (adN σ 60 rn : Int) := by obtain ⟨z9, z8, -⟩ := wf_60 h.1 on9; rw [adN_of z8]; exact z8
  have hxc : σ.2.1 61 rn = (adN σ 61 rn : Int) := by obtain ⟨z9, z8, -⟩ := wf_61 h.1 on9; rw [adN_of z8]; exact z8
  have hxd : σ.2.1 62 rn = (adN σ 62 rn : Int) := by obtain ⟨z9, z8, -⟩ := wf_62 h.1 on9; rw [adN_of z8]; exact z8
  have hxe : σ.2.1 63 rn = (adN σ 63 rn : Int) := by obtain ⟨z9, z8, -⟩ := wf_63 h.1 on9; rw [adN_of z8]; exact z8
  have hxf : σ.2.1 64 rn = (adN σ 64 rn : Int) := by obtain ⟨z9, z8, -⟩ := wf_64 h.1 on9; rw [adN_of z8]; exact z8
  obtain ⟨y, hy, -⟩ := wf_55 h.1 on9
  obtain ⟨tl, htl, ktl⟩ := wf_102 h.1 ha
  have otl : OB T tl 10 := ⟨by omega, by rw [ktl]; rfl, by omega⟩
  have hbb : σ.2.1 90 tl = (adN σ 90 tl : Int) := (ad_ex (Q := fun x => AR T x 1 200 200) (wf_90 h.1 otl)).1
  have hbs : σ.2.1 91 tl = (adN σ 91 tl : Int) := (ad_ex (Q := fun x => AR T x 1 145 145) (wf_91 h.1 otl)).1
  have hbf : σ.2.1 89 tl = (adN σ 89 tl : Int) := (ad_ex (Q := fun x => AR T x 1 6 6) (wf_89 h.1 otl)).1
  have e : d + 80 = d + 74 + 6 := by omega
  rw [e]
  refine Tn.mono (k_X11_known_t (d + 74)  ha h_k h_m h.1 hrn htl hxa hxb hxc hxe hy hbb hbs hbf (hkv rn tl y hrn krn htl hy)) (fun ro T2 σ2 hp => ?_)
  obtain ⟨v, rfl, w, F, q0, q1, q2⟩ := hp
  exact ⟨v, rfl, INVX.step h w F (by decide) (by decide) (by decide) (by decide), rc_F F (Or.inl (by decide)) (by decide) rfl, K4.of F h.1 ha (by decide), (L6Q.knq ha h.1 q2 (knq_of hrn htl hbb hbs hbf q1)) S C E M hK, rk_knq ha h.1 hK (knq_of hrn htl hbb hbs hbf q1), ⟨rn, tl, y, ⟨⟨hrn, krn⟩, htl, hy⟩, q2, q1⟩⟩
theorem x6_value (d : Nat) {N : Nat} {T : CT} {σ : MS} {a : Nat} {k m : Int} {S : Nat → Prop} {C E M : Int → Nat}  {Cn : Int} (hT : TGK S T σ a C Cn) (h97 : σ.2.1 97 a = Cn) (hkv : ∀ rn tl y : Nat, σ.2.1 103 a = (rn : Int) → (T rn).1 = 37 → σ.2.1 102 a = (tl : Int) → σ.2.1 55 rn = (y : Int) → KVH T σ rn tl (adN σ 59 rn) (adN σ 60 rn) (adN σ 61 rn) y (adN σ 90 tl) (adN σ 91 tl) (adN σ 89 tl) k m) (ha : OB T a 11) (h_k : -2147483648 ≤ k ∧ k ≤ 2147483647) (h_m : -2147483648 ≤ m ∧ m ≤ 2147483647) (hN : N ≤ 512) (h : INVX N T σ a) (hK : KB6 S T σ a C E M) : Tn (d + 80) m_X11_value 0 T σ [(0, .ref a), (1, .int (iI k)), (2, .int (iI m))] [] (fun ro T2 σ2 => ∃ v : Int, ro = some (.int (iI v)) ∧ INVX (N + 1) T2 σ2 a ∧ (σ2.2.1 96 a = σ.2.1 96 a) ∧ K4 σ σ2 a ∧ Q6 σ T2 σ2 a C E M ∧ RK7 σ σ2 a ∧ (∃ rn tl y : Nat, ((σ.2.1 103 a = (rn : Int) ∧ (T rn).1 = 37) ∧ σ.2.1 102 a = (tl : Int) ∧ σ.2.1 55 rn = (y : Int)) ∧ GT T T2 ∧ KVT T T2 σ σ2 rn tl (adN σ 59 rn) (adN σ 60 rn) (adN σ 61 rn) y (adN σ 90 tl) (adN σ 91 tl) (adN σ 89 tl) k m (0) v (fun s c9 i9 => jFV T2 s rn c9 (adN s 5 c9) (adN s 15 c9) (adN σ 63 rn) i9))) := by
  obtain ⟨rn, hrn, krn⟩ := wf_103 h.1 ha
  have on9 : OB T rn 7 := ⟨by omega, by rw [krn]; rfl, by omega⟩
  have hxa : σ.2.1 59 rn = (adN σ 59 rn : Int) := by obtain ⟨z9, z8, -⟩ := wf_59 h.1 on9; rw [adN_of z8]; exact z8
  have hxb : σ.2.1 60 rn = (adN σ 60 rn : Int) := by obtain ⟨z9, z8, -⟩ := wf_60 h.1 on9; rw [adN_of z8]; exact z8
  have hxc : σ.2.1 61 rn = (adN σ 61 rn : Int) := by obtain ⟨z9, z8, -⟩ := wf_61 h.1 on9; rw [adN_of z8]; exact z8
  have hxd : σ.2.1 62 rn = (adN σ 62 rn : Int) := by obtain ⟨z9, z8, -⟩ := wf_62 h.1 on9; rw [adN_of z8]; exact z8
  have hxe : σ.2.1 63 rn = (adN σ 63 rn : Int) := by obtain ⟨z9, z8, -⟩ := wf_63 h.1 on9; rw [adN_of z8]; exact z8
  have hxf : σ.2.1 64 rn = (adN σ 64 rn : Int) := by obtain ⟨z9, z8, -⟩ := wf_64 h.1 on9; rw [adN_of z8]; exact z8
  obtain ⟨y, hy, -⟩ := wf_55 h.1 on9
  obtain ⟨tl, htl, ktl⟩ := wf_102 h.1 ha
  have otl : OB T tl 10 := ⟨by omega, by rw [ktl]; rfl, by omega⟩
  have hbb : σ.2.1 90 tl = (adN σ 90 tl : Int) := (ad_ex (Q := fun x => AR T x 1 200 200) (wf_90 h.1 otl)).1
  have hbs : σ.2.1 91 tl = (adN σ 91 tl : Int) := (ad_ex (Q := fun x => AR T x 1 145 145) (wf_91 h.1 otl)).1
  have hbf : σ.2.1 89 tl = (adN σ 89 tl : Int) := (ad_ex (Q := fun x => AR T x 1 6 6) (wf_89 h.1 otl)).1
  have e : d + 80 = d + 74 + 6 := by omega
  rw [e]
  refine Tn.mono (k_X11_value_t (d + 74)  ha h_k h_m h.1 hrn htl hxa hxb hxc hxe hy hbb hbs hbf (hkv rn tl y hrn krn htl hy)) (fun ro T2 σ2 hp => ?_)
  obtain ⟨v, rfl, w, F, q0, q1, q2⟩ := hp
  exact ⟨v, rfl, INVX.step h w F (by decide) (by decide) (by decide) (by decide), rc_F F (Or.inl (by decide)) (by decide) rfl, K4.of F h.1 ha (by decide), (L6Q.knq ha h.1 q2 (knq_of hrn htl hbb hbs hbf q1)) S C E M hK, rk_knq ha h.1 hK (knq_of hrn htl hbb hbs hbf q1), ⟨rn, tl, y, ⟨⟨hrn, krn⟩, htl, hy⟩, q2, q1⟩⟩
theorem x6_run (d : Nat) {N : Nat} {T : CT} {σ : MS} {a : Nat} {w : Int} {S : Nat → Prop} {C E M : Int → Nat}  {Cn : Int} (hT : TGK S T σ a C Cn) (h97 : σ.2.1 97 a = Cn) (ha : OB T a 11) (h_w : -2147483648 ≤ w ∧ w ≤ 2147483647) (hN : N ≤ 512) (h : INVX N T σ a) (hK : KB6 S T σ a C E M) : Tn (d + 80) m_X11_run 0 T σ [(0, .ref a), (1, .int (iI w))] [] (fun ro T2 σ2 => ∃ v : Int, ro = some (.int (iI v)) ∧ INVX (N + 1) T2 σ2 a ∧ (σ2.2.1 96 a = σ.2.1 96 a) ∧ K4 σ σ2 a ∧ Q6 σ T2 σ2 a C E M ∧ RK7 σ σ2 a ∧ (∃ rn : Nat, σ.2.1 103 a = (rn : Int) ∧ RNB T σ rn (adN σ 60 rn) w v) ∧ TGK S T2 σ2 a C Cn) := by
  obtain ⟨rn, hrn, krn⟩ := wf_103 h.1 ha
  have on9 : OB T rn 7 := ⟨by omega, by rw [krn]; rfl, by omega⟩
  have hxa : σ.2.1 59 rn = (adN σ 59 rn : Int) := by obtain ⟨z9, z8, -⟩ := wf_59 h.1 on9; rw [adN_of z8]; exact z8
  have hxb : σ.2.1 60 rn = (adN σ 60 rn : Int) := by obtain ⟨z9, z8, -⟩ := wf_60 h.1 on9; rw [adN_of z8]; exact z8
  have hxc : σ.2.1 61 rn = (adN σ 61 rn : Int) := by obtain ⟨z9, z8, -⟩ := wf_61 h.1 on9; rw [adN_of z8]; exact z8
  have hxd : σ.2.1 62 rn = (adN σ 62 rn : Int) := by obtain ⟨z9, z8, -⟩ := wf_62 h.1 on9; rw [adN_of z8]; exact z8
  have hxe : σ.2.1 63 rn = (adN σ 63 rn : Int) := by obtain ⟨z9, z8, -⟩ := wf_63 h.1 on9; rw [adN_of z8]; exact z8
  have hxf : σ.2.1 64 rn = (adN σ 64 rn : Int) := by obtain ⟨z9, z8, -⟩ := wf_64 h.1 on9; rw [adN_of z8]; exact z8
  have e : d + 80 = d + 77 + 3 := by omega
  rw [e]
  refine Tn.mono (k_X11_run_j (d + 77)  ha h_w h.1 hrn hxb) (fun ro T2 σ2 hp => ?_)
  obtain ⟨v, rfl, rfl, rfl, q0, q1⟩ := hp
  exact ⟨v, rfl, INVX.step h h.1 (FrC.rfl (ks := [])) (by decide) (by decide) (by decide) (by decide), rfl, K4.rfl, ⟨S, hK, fun _ _ _ => ⟨CSM.rf, CSM.rf⟩, id⟩, RK7.rf, ⟨rn, hrn, q1⟩, hT⟩
theorem x6_printed (d : Nat) {N : Nat} {T : CT} {σ : MS} {a : Nat} {i : Int} {S : Nat → Prop} {C E M : Int → Nat}  {Cn : Int} (hT : TGK S T σ a C Cn) (h97 : σ.2.1 97 a = Cn) (ha : OB T a 11) (h_i : -2147483648 ≤ i ∧ i ≤ 2147483647) (hN : N ≤ 512) (h : INVX N T σ a) (hK : KB6 S T σ a C E M) : Tn (d + 80) m_X11_printed 0 T σ [(0, .ref a), (1, .int (iI i))] [] (fun ro T2 σ2 => ∃ v : Int, ro = some (.int (iI v)) ∧ INVX (N + 1) T2 σ2 a ∧ (σ2.2.1 96 a = σ.2.1 96 a) ∧ K4 σ σ2 a ∧ Q6 σ T2 σ2 a C E M ∧ RK7 σ σ2 a ∧ (∃ rn : Nat, σ.2.1 103 a = (rn : Int) ∧ PRB T σ rn (adN σ 64 rn) i v) ∧ TGK S T2 σ2 a C Cn) := by
  obtain ⟨rn, hrn, krn⟩ := wf_103 h.1 ha
  have on9 : OB T rn 7 := ⟨by omega, by rw [krn]; rfl, by omega⟩
  have hxa : σ.2.1 59 rn = (adN σ 59 rn : Int) := by obtain ⟨z9, z8, -⟩ := wf_59 h.1 on9; rw [adN_of z8]; exact z8
  have hxb : σ.2.1 60 rn = (adN σ 60 rn : Int) := by obtain ⟨z9, z8, -⟩ := wf_60 h.1 on9; rw [adN_of z8]; exact z8
  have hxc : σ.2.1 61 rn = (adN σ 61 rn : Int) := by obtain ⟨z9, z8, -⟩ := wf_61 h.1 on9; rw [adN_of z8]; exact z8
  have hxd : σ.2.1 62 rn = (adN σ 62 rn : Int) := by obtain ⟨z9, z8, -⟩ := wf_62 h.1 on9; rw [adN_of z8]; exact z8
  have hxe : σ.2.1 63 rn = (adN σ 63 rn : Int) := by obtain ⟨z9, z8, -⟩ := wf_63 h.1 on9; rw [adN_of z8]; exact z8
  have hxf : σ.2.1 64 rn = (adN σ 64 rn : Int) := by obtain ⟨z9, z8, -⟩ := wf_64 h.1 on9; rw [adN_of z8]; exact z8
  have e : d + 80 = d + 78 + 2 := by omega
  rw [e]
  refine Tn.mono (k_X11_printed_j (d + 78)  ha h_i h.1 hrn hxf) (fun ro T2 σ2 hp => ?_)
  obtain ⟨v, rfl, rfl, rfl, q0, q1⟩ := hp
  exact ⟨v, rfl, INVX.step h h.1 (FrC.rfl (ks := [])) (by decide) (by decide) (by decide) (by decide), rfl, K4.rfl, ⟨S, hK, fun _ _ _ => ⟨CSM.rf, CSM.rf⟩, id⟩, RK7.rf, ⟨rn, hrn, q1⟩, hT⟩
theorem x6_beside (d : Nat) {N : Nat} {T : CT} {σ : MS} {a : Nat} {r p q s t n : Int} {S : Nat → Prop} {C E M : Int → Nat}  {Cn : Int} (hT : TGK S T σ a C Cn) (h97 : σ.2.1 97 a = Cn) (h5a : PR5 σ a) (ha : OB T a 11) (h_r : -2147483648 ≤ r ∧ r ≤ 2147483647) (h_p : -2147483648 ≤ p ∧ p ≤ 2147483647) (h_q : -2147483648 ≤ q ∧ q ≤ 2147483647) (h_s : -2147483648 ≤ s ∧ s ≤ 2147483647) (h_t : -2147483648 ≤ t ∧ t ≤ 2147483647) (h_n : -2147483648 ≤ n ∧ n ≤ 2147483647) (hN : N ≤ 512) (h : INVX N T σ a) (hK : KB6 S T σ a C E M) : Tn (d + 80) m_X11_beside 0 T σ [(0, .ref a), (1, .int (iI r)), (2, .int (iI p)), (3, .int (iI q)), (4, .int (iI s)), (5, .int (iI t)), (6, .int (iI n))] [] (fun ro T2 σ2 => ∃ v : Int, ro = some (.int (iI v)) ∧ INVX (N + 1) T2 σ2 a ∧ (σ2.2.1 96 a = σ.2.1 96 a) ∧ K4 σ σ2 a ∧ Q6 σ T2 σ2 a C E M ∧ RK7 σ σ2 a ∧ (∃ S2, TGK S2 T2 σ2 a C Cn) ∧ BSV9 σ a C E M Cn r p q s t n v) := by
  have e : d + 80 = d + 72 + 8 := by omega
  rw [e]
  refine Tn.mono (k_X11_beside_q8 (d + 72) (B := 20001 * (N : Int)) (S := S) (C := C) (E := E) (M := M) (Cn := Cn) ha h_r h_p h_q h_s h_t h_n h.1 h.2.1 h.2.2 hK hT h97 h5a) (fun ro T2 σ2 hp => ?_)
  obtain ⟨v, rfl, w, F, q0, q1, q2, q3, q4, q5, q6, q7, q8⟩ := hp
  exact ⟨v, rfl, INVX.all h w q3 q4 (by omega), q5, q7, q8, q6, q2, q1⟩
theorem x6_compared (d : Nat) {N : Nat} {T : CT} {σ : MS} {a : Nat} {w : Int} {S : Nat → Prop} {C E M : Int → Nat}  {Cn : Int} (hT : TGK S T σ a C Cn) (h97 : σ.2.1 97 a = Cn) (ha : OB T a 11) (h_w : -2147483648 ≤ w ∧ w ≤ 2147483647) (hN : N ≤ 512) (h : INVX N T σ a) (hK : KB6 S T σ a C E M) : Tn (d + 80) m_X11_compared 0 T σ [(0, .ref a), (1, .int (iI w))] [] (fun ro T2 σ2 => ∃ v : Int, ro = some (.int (iI v)) ∧ INVX (N + 1) T2 σ2 a ∧ (σ2.2.1 96 a = σ.2.1 96 a) ∧ K4 σ σ2 a ∧ Q6 σ T2 σ2 a C E M ∧ RK7 σ σ2 a ∧ TGK S T2 σ2 a C Cn) := by
  have e : d + 80 = d + 79 + 1 := by omega
  rw [e]
  refine Tn.mono (k_X11_compared (d + 79)  ha h_w h.1 ) (fun ro T2 σ2 hp => ?_)
  obtain ⟨v, rfl, rfl, rfl, q0⟩ := hp
  exact ⟨v, rfl, INVX.step h h.1 (FrC.rfl (ks := [])) (by decide) (by decide) (by decide) (by decide), rfl, K4.rfl, ⟨S, hK, fun _ _ _ => ⟨CSM.rf, CSM.rf⟩, id⟩, RK7.rf, hT⟩
