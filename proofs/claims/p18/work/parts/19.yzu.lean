section
theorem INJ.keep {S : Nat → Prop} {T : CT} {σ σ2 : MS} (h : INJ S T σ) (k : ∀ f (b : Nat), f ∈ AFL → σ2.2.1 f b = σ.2.1 f b) : INJ S T σ2 := ⟨h.1, fun f g a b hf hg sa sb oa ob e => h.2 f g a b hf hg sa sb oa ob (by unfold adN at e ⊢; rw [k f a hf, k g b hg] at e; exact e)⟩
def TK1 (S : Nat → Prop) (T : CT) (σ s3 : MS) (e : Nat) : Prop := INJ S T s3 ∧ cdS s3 e = cdS σ e ∧ LNK (cdW s3 e) (σ.2.1 6 e) ∧ (WOK (cdW σ e) (σ.2.1 6 e) → WOK (cdW s3 e) (σ.2.1 6 e)) ∧ rwF s3 14 e = rwF σ 14 e ∧ ∀ f (b : Nat), f < 1000 → s3.2.1 f b = σ.2.1 f b
theorem af6_k {T : CT} {σ : MS} {e : Nat} (hw : WT T σ) (he : OB T e 1) : ∀ f, f ∈ AF6 → (T (adN σ f e)).1 = 1 ∨ (T (adN σ f e)).1 = 11 ∨ (T (adN σ f e)).1 = 13 := fun f hf => by
  have e5 := ad_1 hw he
  have c5 := cel_of (wf_5 hw he) (e5 5 (by decide))
  have a1 := ar_of (wf_11 hw he) (e5 11 (by decide))
  have a2 := ar_of (wf_12 hw he) (e5 12 (by decide))
  have a3 := ar_of (wf_13 hw he) (e5 13 (by decide))
  have a4 := ar_of (wf_14 hw he) (e5 14 (by decide))
  have a5 := ar_of (wf_15 hw he) (e5 15 (by decide))
  simp only [List.mem_cons, List.not_mem_nil, or_false] at hf
  rcases hf with rfl | rfl | rfl | rfl | rfl | rfl
  · by_cases z : (T e).1 = 50
    · exact Or.inl (c5.2.1 z)
    · exact Or.inr (Or.inr (c5.2.2 z))
  · have := a1.1; omega
  · have := a2.1; omega
  · have := a3.1; omega
  · have := a4.1; omega
  · have := a5.1; omega
theorem TK1.mk {S : Nat → Prop} {T : CT} {σ s1 s2 s3 : MS} {e xs xm y : Nat} {r n v : Int} (hw : WT T σ) (hI : INJ S T σ) (se : S e) (he : OB T e 1) (x1 : CHX [] [xs] [] σ s1) (kx : (T xs).1 = 4) (x2 : s2 = sA (1000 + xm) r v s1) (km : (T xm).1 = 4) (hy : s2.2.1 5 e = (y : Int)) (hn : s2.2.1 6 e = n) (l1 : CHX [] [y] [] s2 s3) (l2 : LKE (cW s2 y n) (cW s3 y n)) (l3 : LNK (cW s3 y n) n) : TK1 S T σ s3 e := by
  have k6 := af6_k hw he
  have c1 : CSM σ s1 e := csm_chx x1 (fun p hp => absurd hp (by simp)) (fun f hf q => by
    have z := k6 f hf
    rw [List.mem_singleton.mp q] at z
    omega)
  have c2 : CSM s1 s2 e := by
    refine ⟨fun f f0 f1 => by rw [x2, sA_k (by omega)], fun f hf => ?_⟩
    have z := k6 f hf
    have f0 : 5 ≤ f ∧ f ≤ 16 := by simp only [List.mem_cons, List.not_mem_nil, or_false] at hf; omega
    rw [x2, sA_k (fun q => by
      have w : adN s1 f e = xm := by omega
      rw [c1.ad f0.1 f0.2] at w
      rw [w] at z
      omega)]
  have c := c1.trans c2
  have k2 : ∀ f (b : Nat), f < 1000 → s2.2.1 f b = σ.2.1 f b := fun f b hf => by rw [x2, sA_k (by omega)]; exact x1.f hf (by simp)
  have k3 : ∀ f (b : Nat), f < 1000 → s3.2.1 f b = σ.2.1 f b := fun f b hf => (l1.f hf (by simp)).trans (k2 f b hf)
  have i2 : INJ S T s2 := hI.keep (fun f b hf => k2 f b (by simp only [List.mem_cons, List.not_mem_nil, or_false] at hf; omega))
  have i3 : INJ S T s3 := hI.keep (fun f b hf => k3 f b (by simp only [List.mem_cons, List.not_mem_nil, or_false] at hf; omega))
  have ey : y = adN s2 5 e := (adN_of hy).symm
  have f5 : s3.2.1 5 e = s2.2.1 5 e := l1.f (by decide) (by simp)
  have f6 : s3.2.1 6 e = s2.2.1 6 e := l1.f (by decide) (by simp)
  have f10 : s3.2.1 10 e = s2.2.1 10 e := l1.f (by decide) (by simp)
  have w2 : cdW s2 e = cW s2 y n := cd_w2 hy hn
  have w3 : cdW s3 e = cW s3 y n := cd_w2 (f5.trans hy) (f6.trans hn)
  have k : ∀ f, f ∈ [11, 12, 13, 14, 15] → rwF s3 f e = rwF s2 f e := fun f hf => rw_keep l1 (by simp only [List.mem_cons, List.not_mem_nil, or_false] at hf; omega) (by simp) (by
    rw [ey]
    simp only [List.mem_singleton]
    have fa : f ∈ AFL ∧ cls f = 1 ∧ f ≠ 5 := by
      simp only [List.mem_cons, List.not_mem_nil, or_false] at hf
      rcases hf with rfl | rfl | rfl | rfl | rfl <;> exact ⟨by decide, rfl, by decide⟩
    exact fun q => fa.2.2 (i2.2 f 5 e e fa.1 (by decide) se se (by rw [fa.2.1]; exact he) he q).1)
  have s23 : cdS s3 e = cdS s2 e := by
    unfold cdS cRS
    rw [w3, w2, l2.vw, f6, f10, k 11 (by decide), k 12 (by decide), k 13 (by decide), k 14 (by decide), k 15 (by decide)]
  have n6 : n = σ.2.1 6 e := by rw [← hn]; exact k2 6 e (by decide)
  refine ⟨i3, s23.trans c.s, ?_, fun q => ?_, (k 14 (by decide)).trans (c.rw (by decide) (by decide) (by decide)), k3⟩
  · rw [w3, ← n6]; exact l3
  · rw [w3, ← n6]
    rw [← c.w, w2, ← n6] at q
    exact l2.wok q
def MKE (σ : MS) (m c : Nat) : Prop := cdS σ m = cdS σ c ∧ cdW σ m = cdW σ c ∧ (σ.2.1 6 m = σ.2.1 6 c ∧ σ.2.1 7 m = σ.2.1 7 c ∧ σ.2.1 8 m = σ.2.1 8 c ∧ σ.2.1 9 m = σ.2.1 9 c) ∧ rwF σ 14 m 0 = rwF σ 14 c 0
theorem MKE.csm {σ τ : MS} {m c : Nat} (h : MKE σ m c) (k : CSM σ τ m) (l : CSM σ τ c) : MKE τ m c := by
  unfold MKE at h ⊢
  rw [k.s, k.w, l.s, l.w, k.1 6 (by decide) (by decide), k.1 7 (by decide) (by decide), k.1 8 (by decide) (by decide), k.1 9 (by decide) (by decide), l.1 6 (by decide) (by decide), l.1 7 (by decide) (by decide), l.1 8 (by decide) (by decide), l.1 9 (by decide) (by decide), k.rw (f := 14) (by decide) (by decide) (by decide), l.rw (f := 14) (by decide) (by decide) (by decide)]
  exact h
abbrev TKS (c : Nat) : List (Nat × Nat) := [(5, c), (6, c), (7, c), (8, c), (9, c), (10, c)]
abbrev TRS (σ : MS) (xs xm c e t : Nat) : List Nat := [xs, xm, adN σ 5 e, adN σ 5 c, adN σ 11 c, adN σ 12 c, adN σ 13 c, adN σ 14 c, adN σ 15 c, t]
def TKM (T : CT) (σ σ2 : MS) (c e xs xm t : Nat) (r f : Int) : Prop := cdS σ2 c = cdS σ e ∧ (σ2.2.1 6 c = σ.2.1 6 e ∧ σ2.2.1 7 c = σ.2.1 7 e ∧ σ2.2.1 8 c = σ.2.1 8 e ∧ σ2.2.1 9 c = σ.2.1 9 e ∧ rwF σ2 14 c 0 = rwF σ 14 e 0) ∧ LNK (cdW σ2 c) (σ2.2.1 6 c) ∧ (WOK (cdW σ e) (σ.2.1 6 e) → WOK (cdW σ2 c) (σ2.2.1 6 c)) ∧ (σ2.2.1 5 c = σ.2.1 5 c ∨ (T (adN σ2 5 c)).1 = 0) ∧ CHN T (TKS c) (TRS σ xs xm c e t) [] σ σ2 ∧ σ2.2.1 (1000 + xs) = uZ (σ.2.1 (1000 + xs)) r f ∧ σ2.2.1 (1000 + xm) = uZ (σ.2.1 (1000 + xm)) r (e : Int) ∧ σ2.2.1 (1000 + t) = uZ (σ.2.1 (1000 + t)) r 0 ∧ MKE σ2 e c
theorem TKM.mk {S : Nat → Prop} {T : CT} {σ s1 s2 s3 s4 s5 : MS} {c e xs xm y t tl : Nat} {r n f : Int} (hw : WT T σ) (hI : INJ S T σ) (sc : S c) (se : S e) (stl : S tl) (oc : OB T c 1) (he : OB T e 1) (ot : OB T tl 10) (x1 : CHX [] [xs] [] σ s1) (xr : s1.2.1 (1000 + xs) = uZ (σ.2.1 (1000 + xs)) r f) (kx : (T xs).1 = 4) (x2 : s2 = sA (1000 + xm) r (e : Int) s1) (km : (T xm).1 = 4) (xsm : xs ≠ xm) (hy : s2.2.1 5 e = (y : Int)) (hn : s2.2.1 6 e = n) (l1 : CHX [] [y] [] s2 s3) (l2 : LKE (cW s2 y n) (cW s3 y n)) (l3 : LNK (cW s3 y n) n) (cf : CHN T (TKS c) [adN s3 5 c, adN s3 11 c, adN s3 12 c, adN s3 13 c, adN s3 14 c, adN s3 15 c] [] s3 s4) (cp : CPC T s3 s4 c e) (sp : CHX [] [t] [] s4 s5) (ht : t = adN σ 89 tl) (spr : s5.2.1 (1000 + t) = uZ (s4.2.1 (1000 + t)) r 0) : TKM T σ s5 c e xs xm t r f := by
  have tk := TK1.mk hw hI se he x1 kx x2 km hy hn l1 l2 l3
  obtain ⟨i3, d3, ln3, wk3, r3, k3⟩ := tk
  have A3 : ∀ g (b : Nat), g < 1000 → adN s3 g b = adN σ g b := fun g b hg => by unfold adN; rw [k3 g b hg]
  rw [A3 5 c (by decide), A3 11 c (by decide), A3 12 c (by decide), A3 13 c (by decide), A3 14 c (by decide), A3 15 c (by decide)] at cf
  obtain ⟨cd, cw, ⟨q6, q7, q8, q9, q10⟩, q5, q14⟩ := cp
  have kc := af6_k hw oc
  have ke := af6_k hw he
  have kt := (ar_of (wf_89 hw ot) ((ad_ex (Q := fun x => AR T x 1 6 6) (wf_89 hw ot)).1)).1
  rw [← ht] at kt
  have ey : y = adN σ 5 e := by
    rw [← adN_of hy]
    unfold adN
    rw [x2, sA_k (by omega), x1.f (by decide) (by simp)]
  have ky := ke 5 (by decide)
  rw [← ey] at ky
  have neq : ∀ g, g ∈ AF6 → adN σ g c ≠ t := fun g hg => by
    rw [ht]
    have fa : g ∈ AFL ∧ cls g = 1 ∧ g ≠ 89 := by
      simp only [List.mem_cons, List.not_mem_nil, or_false] at hg
      rcases hg with rfl | rfl | rfl | rfl | rfl | rfl <;> exact ⟨by decide, rfl, by decide⟩
    exact hI.ne sc stl (by rw [fa.2.1]; exact oc) ot fa.1 (by decide) (Or.inl fa.2.2)
  have A4 : ∀ g, g ∈ [11, 12, 13, 14, 15] → adN s4 g c = adN σ g c := fun g hg => by
    simp only [List.mem_cons, List.not_mem_nil, or_false] at hg
    rw [← A3 g c (by omega)]
    unfold adN
    rw [cf.f (by omega) (by simp; omega)]
  have cs : CSM s4 s5 c := csm_chx sp (fun p hp => absurd hp (by simp)) (fun g hg q => by
    have q := List.mem_singleton.mp q
    by_cases g5 : g = 5
    · subst g5
      rcases q5 with z | z
      · have w : adN s4 5 c = adN σ 5 c := by rw [← A3 5 c (by decide)]; unfold adN; rw [z]
        rw [w] at q
        exact neq 5 (by decide) q
      · rw [q] at z; omega
    · rw [A4 g (by simp only [List.mem_cons, List.not_mem_nil, or_false] at hg ⊢; omega)] at q
      exact neq g hg q)
  have e6 : s5.2.1 6 c = σ.2.1 6 e := (cs.1 6 (by decide) (by decide)).trans (q6.trans (k3 6 e (by decide)))
  have kc' : ∀ z, z ∈ [adN σ 5 c, adN σ 11 c, adN σ 12 c, adN σ 13 c, adN σ 14 c, adN σ 15 c] → (T z).1 ≠ 4 := fun z hz => by
    simp only [List.mem_cons, List.not_mem_nil, or_false] at hz
    rcases hz with rfl | rfl | rfl | rfl | rfl | rfl
    · have := kc 5 (by decide); omega
    · have := kc 11 (by decide); omega
    · have := kc 12 (by decide); omega
    · have := kc 13 (by decide); omega
    · have := kc 14 (by decide); omega
    · have := kc 15 (by decide); omega
  have row : ∀ z, (T z).1 = 4 → s5.2.1 (1000 + z) = s2.2.1 (1000 + z) := fun z hz => by
    rw [sp.r (fun q => by rw [← List.mem_singleton.mp q] at kt; omega), cf.2.1 z (fun q => kc' z q hz) ⟨by omega, by omega⟩, l1.r (fun q => by rw [← List.mem_singleton.mp q] at ky; omega)]
  refine ⟨cs.s.trans (cd.trans d3), ⟨e6, (cs.1 7 (by decide) (by decide)).trans (q7.trans (k3 7 e (by decide))), (cs.1 8 (by decide) (by decide)).trans (q8.trans (k3 8 e (by decide))), (cs.1 9 (by decide) (by decide)).trans (q9.trans (k3 9 e (by decide))), by rw [cs.rw (f := 14) (by decide) (by decide) (by decide), q14, r3]⟩, ?_, fun q => ?_, ?_, ?_, ?_, ?_, ?_, ?_⟩
  · rw [cs.w, cw, e6]; exact ln3
  · rw [cs.w, cw, e6]; exact wk3 q
  · rw [cs.1 5 (by decide) (by decide), cs.ad (by decide) (by decide)]
    exact q5.imp (fun z => z.trans (k3 5 c (by decide))) id
  · have a1 : CHN T (TKS c) (TRS σ xs xm c e t) [] σ s1 := CHN.of x1 (by simp) (fun z q => Or.inl (by revert q; simp; omega)) (by simp)
    have a2 : CHN T (TKS c) (TRS σ xs xm c e t) [] σ s2 := by rw [x2]; exact a1.arr (Or.inl (by simp))
    have a3 := a2.trans (CHN.of (T := T) (ks2 := TKS c) (rs2 := TRS σ xs xm c e t) (ls2 := []) l1 (by simp) (fun z q => Or.inl (by rw [List.mem_singleton.mp q, ey]; simp)) (by simp))
    have a4 := a3.trans (CHN.sub cf (fun p q => q) (fun z q => by revert q; simp; omega) (by simp))
    exact a4.trans (CHN.of sp (by simp) (fun z q => Or.inl (by rw [List.mem_singleton.mp q]; simp)) (by simp))
  · rw [row xs kx, x2, sA_k (by omega)]; exact xr
  · rw [row xm km, x2, rv_up, x1.r (fun q => xsm (List.mem_singleton.mp q).symm)]
  · have yt : t ≠ y := fun q => by
      have z : adN σ 89 tl = adN σ 5 e := by rw [← ht, ← ey]; exact q
      exact hI.ne stl se ot he (f := 89) (g := 5) (by decide) (by decide) (Or.inl (by decide)) z
    have r4 : s4.2.1 (1000 + t) = s3.2.1 (1000 + t) := cf.r (by omega) (fun q => by
      simp only [List.mem_cons, List.not_mem_nil, or_false] at q
      rcases q with q | q | q | q | q | q
      · exact neq 5 (by decide) q.symm
      · exact neq 11 (by decide) q.symm
      · exact neq 12 (by decide) q.symm
      · exact neq 13 (by decide) q.symm
      · exact neq 14 (by decide) q.symm
      · exact neq 15 (by decide) q.symm)
    have r5 : s3.2.1 (1000 + t) = s2.2.1 (1000 + t) := l1.r (fun q => yt (List.mem_singleton.mp q))
    have tx : t ≠ xm := fun q => by rw [q] at kt; omega
    have r6 : s2.2.1 (1000 + t) = s1.2.1 (1000 + t) := by rw [x2, sA_k (by omega)]
    have r7 : s1.2.1 (1000 + t) = σ.2.1 (1000 + t) := x1.r (fun q => by rw [← List.mem_singleton.mp q] at kx; omega)
    rw [spr, r4, r5, r6, r7]
  · by_cases ec : e = c
    · rw [ec]; exact ⟨rfl, rfl, ⟨rfl, rfl, rfl, rfl⟩, rfl⟩
    · have fa : ∀ g, g ∈ AF6 → g ∈ AFL ∧ cls g = 1 ∧ g ≠ 89 ∧ g < 1000 := fun g hg => by
        simp only [List.mem_cons, List.not_mem_nil, or_false] at hg
        rcases hg with rfl | rfl | rfl | rfl | rfl | rfl <;> exact ⟨by decide, rfl, by decide, by decide⟩
      have c1 : CSM s3 s4 e := by
        refine CSM.of cf (fun p hp => ?_) (fun g hg q => ?_) (fun g hg => ?_)
        · simp only [List.mem_cons, List.not_mem_nil, or_false] at hp
          rcases hp with rfl | rfl | rfl | rfl | rfl | rfl <;> exact Or.inl (Ne.symm ec)
        · have ga := fa g hg
          rw [A3 g e ga.2.2.2] at q
          have og : OB T e (cls g) := by rw [ga.2.1]; exact he
          simp only [List.mem_cons, List.not_mem_nil, or_false] at q
          rcases q with q | q | q | q | q | q
          · exact hI.ne (g := 5) se sc og oc ga.1 (by decide) (Or.inr ec) q
          · exact hI.ne (g := 11) se sc og oc ga.1 (by decide) (Or.inr ec) q
          · exact hI.ne (g := 12) se sc og oc ga.1 (by decide) (Or.inr ec) q
          · exact hI.ne (g := 13) se sc og oc ga.1 (by decide) (Or.inr ec) q
          · exact hI.ne (g := 14) se sc og oc ga.1 (by decide) (Or.inr ec) q
          · exact hI.ne (g := 15) se sc og oc ga.1 (by decide) (Or.inr ec) q
        · have z := ke g hg
          rw [A3 g e (fa g hg).2.2.2]; omega
      have c2 : CSM s4 s5 e := csm_chx sp (fun p hp => absurd hp (by simp)) (fun g hg q => by
        have ga := fa g hg
        have q := List.mem_singleton.mp q
        have g0 : 5 ≤ g ∧ g ≤ 16 := by simp only [List.mem_cons, List.not_mem_nil, or_false] at hg; omega
        rw [c1.ad g0.1 g0.2, A3 g e ga.2.2.2, ht] at q
        exact hI.ne (g := 89) se stl (by rw [ga.2.1]; exact he) ot ga.1 (by decide) (Or.inl ga.2.2.1) q)
      have ce := c1.trans c2
      have f4 : ∀ g, 5 ≤ g → g ≤ 16 → s5.2.1 g e = s3.2.1 g e := ce.1
      exact ⟨ce.s.trans (cs.s.trans cd).symm, ce.w.trans (cs.w.trans cw).symm, ⟨(f4 6 (by decide) (by decide)).trans ((cs.1 6 (by decide) (by decide)).trans q6).symm, (f4 7 (by decide) (by decide)).trans ((cs.1 7 (by decide) (by decide)).trans q7).symm, (f4 8 (by decide) (by decide)).trans ((cs.1 8 (by decide) (by decide)).trans q8).symm, (f4 9 (by decide) (by decide)).trans ((cs.1 9 (by decide) (by decide)).trans q9).symm⟩, by rw [ce.rw (f := 14) (by decide) (by decide) (by decide), cs.rw (f := 14) (by decide) (by decide) (by decide), q14]⟩
end
