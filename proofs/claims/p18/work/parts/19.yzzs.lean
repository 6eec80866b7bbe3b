section
def KEM (Sj : Nat → Prop) (T : CT) (σ : MS) (a : Nat) (C E M : Int → Nat) : Prop := (INJ Sj T σ ∧ KST Sj σ a ∧ SPX Sj E T σ (adN σ 100 a)) ∧ (∀ q, 0 ≤ q → q < 6 → (σ.2.1 (1000 + adN σ 99 a) q = (C q : Int) ∧ Sj (C q) ∧ (T (C q)).1 = 50) ∧ (σ.2.1 (1000 + adN σ 98 a) q = (M q : Int) ∧ Sj (M q) ∧ (T (M q)).1 = 31)) ∧ (∀ p q, 0 ≤ p → p < 6 → 0 ≤ q → q < 6 → (C p = C q → p = q) ∧ (M p = M q → p = q)) ∧ ∀ p q, 0 ≤ p → p < 7 → 0 ≤ q → q < 6 → E p ≠ M q
theorem CSM.rf {σ : MS} {b : Nat} : CSM σ σ b := ⟨fun _ _ _ => Eq.refl _, fun _ _ => Eq.refl _⟩
def CTK (s0 σ : MS) (e c : Nat) : Prop := cdS σ c = cdS s0 e ∧ (σ.2.1 6 c = s0.2.1 6 e ∧ σ.2.1 7 c = s0.2.1 7 e ∧ σ.2.1 8 c = s0.2.1 8 e ∧ σ.2.1 9 c = s0.2.1 9 e ∧ rwF σ 14 c 0 = rwF s0 14 e 0) ∧ LNK (cdW σ c) (σ.2.1 6 c) ∧ (WOK (cdW s0 e) (s0.2.1 6 e) → WOK (cdW σ c) (σ.2.1 6 c))
theorem CTK.csm {s0 σ τ : MS} {e c : Nat} (h : CTK s0 σ e c) (k : CSM σ τ c) : CTK s0 τ e c := by
  unfold CTK at h ⊢
  rw [k.s, k.w, k.1 6 (by decide) (by decide), k.1 7 (by decide) (by decide), k.1 8 (by decide) (by decide), k.1 9 (by decide) (by decide), k.rw (f := 14) (by decide) (by decide) (by decide)]
  exact h
theorem CTK.src {s0 s1 σ : MS} {e c : Nat} (h : CTK s1 σ e c) (k : CSM s0 s1 e) : CTK s0 σ e c := by
  unfold CTK at h ⊢
  rw [k.s, k.w, k.1 6 (by decide) (by decide), k.1 7 (by decide) (by decide), k.1 8 (by decide) (by decide), k.1 9 (by decide) (by decide), k.rw (f := 14) (by decide) (by decide) (by decide)] at h
  exact h
section KEMS
variable {Sj : Nat → Prop} {T T2 : CT} {σ τ s0 : MS} {a c e : Nat} {C E M E0 : Int → Nat} {j R : Int}
theorem INJ.nw5 (hI : INJ Sj T σ) (hw : WT T σ) (gt : GT T T2) (sc : Sj c) (kf : ∀ f (b : Nat), f ∈ AFL → ¬ (f = 5 ∧ b = c) → τ.2.1 f b = σ.2.1 f b) (h5 : τ.2.1 5 c = σ.2.1 5 c ∨ ¬ ((T (adN τ 5 c)).1 ≠ 0 ∧ (T (adN τ 5 c)).1 < 80)) : INJ Sj T2 τ := by
  have ot : ∀ b, Sj b → T2 b = T b := fun b sb => by have z := hI.1 b sb; exact gt b (by omega) (by omega)
  have oo : ∀ b ci, Sj b → OB T2 b ci → OB T b ci := fun b ci sb ob => by unfold OB at ob ⊢; rw [ot b sb] at ob; exact ob
  have ad : ∀ f b, f ∈ AFL → ¬ (f = 5 ∧ b = c) → adN τ f b = adN σ f b := fun f b hf hn => by unfold adN; rw [kf f b hf hn]
  have al : ∀ f b, f ∈ AFL → Sj b → OB T b (cls f) → (T (adN σ f b)).1 ≠ 0 ∧ (T (adN σ f b)).1 < 80 := fun f b hf sb ob => by have z := (af_k hw hf ob).2; unfold AFK at z; omega
  refine ⟨fun b sb => by rw [ot b sb]; exact hI.1 b sb, fun f f2 b1 b2 hf hg sa sb oa ob q => ?_⟩
  have oa' := oo b1 _ sa oa
  have ob' := oo b2 _ sb ob
  rcases h5 with h5 | h5
  · have ad' : ∀ f b, f ∈ AFL → adN τ f b = adN σ f b := fun f b hf => by
      by_cases q : f = 5 ∧ b = c
      · rw [q.1, q.2]; unfold adN; rw [h5]
      · exact ad f b hf q
    rw [ad' f b1 hf, ad' f2 b2 hg] at q
    exact hI.2 f f2 b1 b2 hf hg sa sb oa' ob' q
  · by_cases q1 : f = 5 ∧ b1 = c
    · by_cases q2 : f2 = 5 ∧ b2 = c
      · exact ⟨q1.1.trans q2.1.symm, q1.2.trans q2.2.symm⟩
      · rw [q1.1, q1.2, ad f2 b2 hg q2] at q
        exact absurd (by rw [q]; exact al f2 b2 hg sb ob') h5
    · by_cases q2 : f2 = 5 ∧ b2 = c
      · rw [q2.1, q2.2, ad f b1 hf q1] at q
        exact absurd (by rw [← q]; exact al f b1 hf sa oa') h5
      · rw [ad f b1 hf q1, ad f2 b2 hg q2] at q
        exact hI.2 f f2 b1 b2 hf hg sa sb oa' ob' q
theorem TKM.csm {xs xm t tl b : Nat} {r f : Int} (h : TKM T σ τ c e xs xm t r f) (hI : INJ Sj T σ) (hw : WT T σ) (sc : Sj c) (se : Sj e) (oc : OB T c 1) (oe : OB T e 1) (kx : (T xs).1 = 4) (km : (T xm).1 = 4) (ht : t = adN σ 89 tl) (stl : Sj tl) (otl : OB T tl 10) (sb : Sj b) (ob : OB T b 1) (nc : b ≠ c) (ne : b ≠ e) : CSM σ τ b := by
  have k6 := af6_k hw ob
  refine CSM.of h.2.2.2.2.2.1 (fun p hp => ?_) (fun g hg q => ?_) (fun g hg => by have z := k6 g hg; omega)
  · simp only [List.mem_cons, List.not_mem_nil, or_false] at hp
    rcases hp with rfl | rfl | rfl | rfl | rfl | rfl <;> exact Or.inl (Ne.symm nc)
  · have ga : g ∈ AFL ∧ cls g = 1 ∧ g ≠ 89 := by
      simp only [List.mem_cons, List.not_mem_nil, or_false] at hg
      rcases hg with rfl | rfl | rfl | rfl | rfl | rfl <;> exact ⟨by decide, rfl, by decide⟩
    have ob' : OB T b (cls g) := by rw [ga.2.1]; exact ob
    have z := k6 g hg
    simp only [List.mem_cons, List.not_mem_nil, or_false] at q
    rcases q with q | q | q | q | q | q | q | q | q | q
    · rw [q] at z; omega
    · rw [q] at z; omega
    · exact hI.ne (g := 5) sb se ob' oe ga.1 (by decide) (Or.inr ne) q
    · exact hI.ne (g := 5) sb sc ob' oc ga.1 (by decide) (Or.inr nc) q
    · exact hI.ne (g := 11) sb sc ob' oc ga.1 (by decide) (Or.inr nc) q
    · exact hI.ne (g := 12) sb sc ob' oc ga.1 (by decide) (Or.inr nc) q
    · exact hI.ne (g := 13) sb sc ob' oc ga.1 (by decide) (Or.inr nc) q
    · exact hI.ne (g := 14) sb sc ob' oc ga.1 (by decide) (Or.inr nc) q
    · exact hI.ne (g := 15) sb sc ob' oc ga.1 (by decide) (Or.inr nc) q
    · rw [ht] at q; exact hI.ne (g := 89) sb stl ob' otl ga.1 (by decide) (Or.inl ga.2.2) q
theorem TKM.r5 {xs xm t tl x : Nat} {r f : Int} (h : TKM T σ τ c e xs xm t r f) (hw : WT T σ) (oc : OB T c 1) (oe : OB T e 1) (kx : (T xs).1 = 4) (km : (T xm).1 = 4) (ht : t = adN σ 89 tl) (otl : OB T tl 10) (hx : (T x).1 = 5) : τ.2.1 (1000 + x) = σ.2.1 (1000 + x) := h.2.2.2.2.2.1.2.1 x (fun q => by
  simp only [List.mem_cons, List.not_mem_nil, or_false] at q
  rcases q with q | q | q | q | q | q | q | q | q | q
  · rw [q] at hx; omega
  · rw [q] at hx; omega
  · exact r45 hw (Or.inr hx) (f := 5) (by decide) oe q
  · exact r45 hw (Or.inr hx) (f := 5) (by decide) oc q
  · exact r45 hw (Or.inr hx) (f := 11) (by decide) oc q
  · exact r45 hw (Or.inr hx) (f := 12) (by decide) oc q
  · exact r45 hw (Or.inr hx) (f := 13) (by decide) oc q
  · exact r45 hw (Or.inr hx) (f := 14) (by decide) oc q
  · exact r45 hw (Or.inr hx) (f := 15) (by decide) oc q
  · rw [ht] at q; exact r45 hw (Or.inr hx) (f := 89) (by decide) otl q) (by omega)
def N5 (Sj : Nat → Prop) (T0 : CT) (s0 σ : MS) : Prop := ∀ b : Nat, Sj b → (T0 b).1 = 50 → σ.2.1 5 (b : Int) = s0.2.1 5 b ∨ ¬ ((T0 (adN σ 5 b)).1 ≠ 0 ∧ (T0 (adN σ 5 b)).1 < 80)
theorem N5.up {T0 : CT} {υ : MS} (g : GT T T0) (k : ∀ b : Nat, Sj b → (T b).1 = 50 → s0.2.1 5 (b : Int) = σ.2.1 5 b) (h : N5 Sj T0 s0 τ) (e : ∀ b : Nat, υ.2.1 5 (b : Int) = τ.2.1 5 b) : N5 Sj T σ υ := fun b sb tb => by
  have tb0 : (T0 b).1 = 50 := by rw [g b (by omega) (by omega)]; exact tb
  have ea : adN υ 5 b = adN τ 5 b := by unfold adN; rw [e b]
  rcases h b sb tb0 with z | z
  · exact Or.inl ((e b).trans (z.trans (k b sb tb)))
  · refine Or.inr (fun w => z ?_)
    rw [ea] at w
    rw [g _ w.1 w.2]
    exact w
def RDK (Sj : Nat → Prop) (C E0 : Int → Nat) (T0 : CT) (s0 : MS) (R : Int) (T : CT) (σ : MS) (a : Nat) (j : Int) : Prop := ∃ E M : Int → Nat, KEM Sj T σ a C E M ∧ (∀ q, 0 ≤ q → q < j → CTK s0 σ (E0 q) (C q)) ∧ (∀ q, j ≤ q → q < R → E q = E0 q ∧ CSM s0 σ (E0 q)) ∧ GT T0 T ∧ N5 Sj T0 s0 σ ∧ (∀ q, 0 ≤ q → q < j → σ.2.1 (1000 + adN σ 89 (adN σ 102 a)) q = 0) ∧ ∀ q, 0 ≤ q → q < j → MKE σ (M q) (C q)
theorem KEM.xs (hw : WT T σ) (ha : OB T a 11) : (T (adN σ 34 (adN σ 100 a))).1 = 4 ∧ (T (adN σ 98 a)).1 = 4 ∧ (T (adN σ 99 a)).1 = 5 ∧ OB T (adN σ 100 a) 5 ∧ OB T (adN σ 102 a) 10 := by
  obtain ⟨r, r1, r2⟩ := wf_100 hw ha
  obtain ⟨x, x1, x2⟩ := wf_98 hw ha
  obtain ⟨y, y1, y2⟩ := wf_99 hw ha
  obtain ⟨t, t1, t2⟩ := wf_102 hw ha
  have or : OB T r 5 := ⟨by omega, by rw [r2]; rfl, by omega⟩
  obtain ⟨z, z1, z2⟩ := wf_34 hw or
  rw [adN_of r1, adN_of x1, adN_of y1, adN_of z1, adN_of t1]
  exact ⟨z2.1, x2.1, y2.1, or, ⟨by omega, by rw [t2]; rfl, by omega⟩⟩
theorem RDK.step {T0 : CT} (hK : KEM Sj T σ a C E M) (h1 : ∀ q, 0 ≤ q → q < j → CTK s0 σ (E0 q) (C q)) (h2 : ∀ q, j ≤ q → q < R → E q = E0 q ∧ CSM s0 σ (E0 q)) (h5 : GT T0 T ∧ N5 Sj T0 s0 σ ∧ (∀ q, 0 ≤ q → q < j → σ.2.1 (1000 + adN σ 89 (adN σ 102 a)) q = 0) ∧ ∀ q, 0 ≤ q → q < j → MKE σ (M q) (C q)) (hw : WT T σ) (ha : OB T a 11) (j0 : 0 ≤ j) (j6 : j < R) (hR : R ≤ 6) (gt : GT T T2) (t : TKM T σ τ (C j) (E j) (adN σ 34 (adN σ 100 a)) (adN σ 98 a) (adN σ 89 (adN σ 102 a)) j (σ.2.1 (1000 + adN σ 98 a) j)) : RDK Sj C E0 T0 s0 R T2 τ a (j + 1) := by
  obtain ⟨⟨hI, hS, hP⟩, hr, hi, hd⟩ := hK
  obtain ⟨x4, m4, y5, or, ot⟩ := KEM.xs hw ha
  have cj := (hr j j0 (by omega)).1
  have mj := (hr j j0 (by omega)).2
  have ej := hP.2.1 j j0 (by omega)
  have oc : OB T (C j) 1 := ⟨by omega, by rw [cj.2.2]; rfl, by omega⟩
  have oe := hP.ob j0 (show j < 7 by omega)
  have stl : Sj (adN σ 102 a) := hS.2.2.2.2.2.2.2
  have kf : ∀ f (b : Nat), f < 1000 → (f < 5 ∨ 10 < f ∨ b ≠ C j) → τ.2.1 f b = σ.2.1 f b := fun f b hf hb => t.2.2.2.2.2.1.f hf (by simp only [List.mem_cons, List.not_mem_nil, or_false, Prod.mk.injEq]; omega)
  have af : ∀ f (b : Nat), f < 1000 → (f < 5 ∨ 10 < f ∨ b ≠ C j) → adN τ f b = adN σ f b := fun f b hf hb => by unfold adN; rw [kf f b hf hb]
  have g50 : ∀ b, Sj b → T2 b = T b := fun b sb => by have z := hI.1 b sb; exact gt b (by omega) (by omega)
  have e34 : adN τ 34 (adN τ 100 a) = adN σ 34 (adN σ 100 a) := by rw [af 100 a (by decide) (by omega), af 34 _ (by decide) (by omega)]
  have csm : ∀ b, Sj b → OB T b 1 → b ≠ C j → b ≠ E j → CSM σ τ b := fun b sb ob nc ne => t.csm hI hw cj.2.1 ej.2.1 oc oe x4 m4 rfl stl ot sb ob nc ne
  have nE : ∀ p, 0 ≤ p → p < 7 → E p ≠ C j := fun p p0 p1 q => by have z := (hP.2.1 p p0 p1).2.2; rw [q, cj.2.2] at z; omega
  refine ⟨uZ E j (M j), uZ M j (E j), ⟨⟨hI.nw5 hw gt cj.2.1 (fun f b hf hn => kf f b (by simp only [List.mem_cons, List.not_mem_nil, or_false] at hf; omega) (by simp only [List.mem_cons, List.not_mem_nil, or_false] at hf; omega)) (t.2.2.2.2.1.imp id (fun z w => w.1 z)), ?_, ?_⟩, fun q q0 q1 => ?_, fun p q p0 p1 q0 q1 => ⟨(hi p q p0 p1 q0 q1).1, fun w => ?_⟩, fun p q p0 p1 q0 q1 w => ?_⟩, fun q q0 q1 => ?_, fun q q0 q1 => ?_, h5.1.trans gt, fun b sb tb => ?_, fun q q0 q1 => ?_, fun q q0 q1 => ?_⟩
  · unfold KST at hS ⊢
    rw [af 106 a (by decide) (by omega), af 107 a (by decide) (by omega), af 108 a (by decide) (by omega), af 109 a (by decide) (by omega), af 102 a (by decide) (by omega), af 17 _ (by decide) (by omega), af 23 _ (by decide) (by omega), af 72 _ (by decide) (by omega)]
    exact hS
  · refine ⟨by rw [af 100 a (by decide) (by omega)]; exact hP.1, fun q q0 q1 => ?_, fun p q p0 p1 q0 q1 w => ?_⟩
    · rw [e34, t.2.2.2.2.2.2.1]
      by_cases z : q = j
      · rw [z, uZ_eq, uZ_eq]
        exact ⟨mj.1, mj.2.1, by rw [g50 _ mj.2.1]; exact mj.2.2⟩
      · rw [uZ_ne z, uZ_ne z]
        have y := hP.2.1 q q0 q1
        exact ⟨y.1, y.2.1, by rw [g50 _ y.2.1]; exact y.2.2⟩
    · by_cases z1 : p = j
      · by_cases z2 : q = j
        · omega
        · rw [z1, uZ_eq, uZ_ne z2] at w
          exact absurd w.symm (hd q j q0 q1 j0 (by omega))
      · by_cases z2 : q = j
        · rw [z2, uZ_eq, uZ_ne z1] at w
          exact absurd w (hd p j p0 p1 j0 (by omega))
        · rw [uZ_ne z1, uZ_ne z2] at w
          exact hP.2.2 p q p0 p1 q0 q1 w
  · have y := hr q q0 q1
    refine ⟨⟨?_, y.1.2.1, by rw [g50 _ y.1.2.1]; exact y.1.2.2⟩, ?_⟩
    · rw [af 99 a (by decide) (by omega), t.r5 hw oc oe x4 m4 rfl ot y5]; exact y.1.1
    · rw [af 98 a (by decide) (by omega), t.2.2.2.2.2.2.2.1]
      by_cases z : q = j
      · rw [z, uZ_eq, uZ_eq]
        exact ⟨rfl, ej.2.1, by rw [g50 _ ej.2.1]; exact ej.2.2⟩
      · rw [uZ_ne z, uZ_ne z]
        exact ⟨y.2.1, y.2.2.1, by rw [g50 _ y.2.2.1]; exact y.2.2.2⟩
  · by_cases z1 : p = j
    · by_cases z2 : q = j
      · omega
      · rw [z1, uZ_eq, uZ_ne z2] at w
        exact absurd w (hd j q j0 (by omega) q0 q1)
    · by_cases z2 : q = j
      · rw [z2, uZ_eq, uZ_ne z1] at w
        exact absurd w.symm (hd j p j0 (by omega) p0 p1)
      · rw [uZ_ne z1, uZ_ne z2] at w
        exact (hi p q p0 p1 q0 q1).2 w
  · by_cases z1 : p = j
    · by_cases z2 : q = j
      · rw [z1, z2, uZ_eq, uZ_eq] at w
        exact hd j j j0 (by omega) j0 (by omega) w.symm
      · rw [z1, uZ_eq, uZ_ne z2] at w
        exact z2 ((hi j q j0 (by omega) q0 q1).2 w).symm
    · by_cases z2 : q = j
      · rw [z2, uZ_eq, uZ_ne z1] at w
        exact z1 (hP.2.2 p j p0 p1 j0 (by omega) w)
      · rw [uZ_ne z1, uZ_ne z2] at w
        exact hd p q p0 p1 q0 q1 w
  · by_cases z : q = j
    · subst z
      have ee := h2 q (Int.le_refl _) j6
      rw [ee.1] at t
      exact CTK.src ⟨t.1, t.2.1, t.2.2.1, t.2.2.2.1⟩ ee.2
    · have y := (hr q q0 (by omega)).1
      refine (h1 q q0 (by omega)).csm (csm (C q) y.2.1 ⟨by omega, by rw [y.2.2]; rfl, by omega⟩ (fun w => z ((hi q j q0 (by omega) j0 (by omega)).1 w)) (fun w => ?_))
      have z2 := ej.2.2
      rw [← w, y.2.2] at z2
      omega
  · have ee := h2 q (by omega) q1
    refine ⟨by rw [uZ_ne (by omega)]; exact ee.1, ee.2.trans ?_⟩
    rw [← ee.1]
    exact csm (E q) (hP.2.1 q (by omega) (by omega)).2.1 (hP.ob (by omega) (by omega)) (nE q (by omega) (by omega)) (fun w => by have z := hP.2.2 q j (by omega) (by omega) j0 (by omega) w; omega)
  · have old : τ.2.1 5 (b : Int) = σ.2.1 5 b → (τ.2.1 5 (b : Int) = s0.2.1 5 b ∨ ¬ ((T0 (adN τ 5 b)).1 ≠ 0 ∧ (T0 (adN τ 5 b)).1 < 80)) := fun z => by
      have y := h5.2.1 b sb tb
      rw [show adN τ 5 b = adN σ 5 b by unfold adN; rw [z], z]
      exact y
    by_cases z : b = C j
    · rcases t.2.2.2.2.1 with y | y
      · rw [← z] at y
        exact old y
      · rw [← z] at y
        refine Or.inr (fun w => ?_)
        have x := h5.1 _ w.1 w.2
        rw [x] at y
        exact w.1 y
    · exact old (kf 5 b (by decide) (Or.inr (Or.inr z)))
  · rw [af 102 a (by decide) (by omega), af 89 _ (by decide) (by omega), t.2.2.2.2.2.2.2.2.1]
    by_cases z : q = j
    · rw [z, uZ_eq]
    · rw [uZ_ne z]; exact h5.2.2.1 q q0 (by omega)
  · by_cases z : q = j
    · rw [z, uZ_eq]; exact t.2.2.2.2.2.2.2.2.2
    · rw [uZ_ne z]
      have y := hr q q0 (by omega)
      refine (h5.2.2.2 q q0 (by omega)).csm (csm (M q) y.2.2.1 ⟨by omega, by rw [y.2.2.2]; rfl, by omega⟩ (fun w => ?_) (fun w => hd j q j0 (by omega) q0 (by omega) w.symm)) (csm (C q) y.1.2.1 ⟨by omega, by rw [y.1.2.2]; rfl, by omega⟩ (fun w => z ((hi q j q0 (by omega) j0 (by omega)).1 w)) (fun w => ?_))
      · have z1 := y.2.2.2
        rw [w, cj.2.2] at z1
        omega
      · have z1 := y.1.2.2
        rw [w, ej.2.2] at z1
        omega
theorem KEM.mv (hK : KEM Sj T σ a C E M) (gt : GT T T2) (hI : INJ Sj T2 τ) (hP : SPX Sj E T2 τ (adN σ 100 a)) (kf : ∀ f, f ∈ [98, 99, 100, 102, 106, 107, 108, 109] → τ.2.1 f a = σ.2.1 f a) (kg : ∀ f (b : Nat), f ∈ [17, 23, 72] → τ.2.1 f b = σ.2.1 f b) (k8 : τ.2.1 (1000 + adN σ 98 a) = σ.2.1 (1000 + adN σ 98 a)) (k9 : τ.2.1 (1000 + adN σ 99 a) = σ.2.1 (1000 + adN σ 99 a)) : KEM Sj T2 τ a C E M := by
  obtain ⟨⟨hI0, hS, -⟩, hr, hi, hd⟩ := hK
  have af : ∀ f, f ∈ [98, 99, 100, 102, 106, 107, 108, 109] → adN τ f a = adN σ f a := fun f hf => by unfold adN; rw [kf f hf]
  have ag : ∀ f (b : Nat), f ∈ [17, 23, 72] → adN τ f b = adN σ f b := fun f b hf => by unfold adN; rw [kg f b hf]
  have g5 : ∀ b, Sj b → T2 b = T b := fun b sb => by have z := hI0.1 b sb; exact gt b (by omega) (by omega)
  refine ⟨⟨hI, ?_, by rw [af 100 (by decide)]; exact hP⟩, fun q q0 q1 => ?_, hi, hd⟩
  · unfold KST at hS ⊢
    rw [af 106 (by decide), af 107 (by decide), af 108 (by decide), af 109 (by decide), af 102 (by decide), ag 17 _ (by decide), ag 23 _ (by decide), ag 72 _ (by decide)]
    exact hS
  · have y := hr q q0 q1
    rw [af 98 (by decide), af 99 (by decide), k8, k9, g5 _ y.1.2.1, g5 _ y.2.2.1]
    exact y
theorem KEM.fld {n : Nat} {v : Int} (hK : KEM Sj T σ a C E M) (hw : WT T σ) (ha : OB T a 11) (hn : n = 96 ∨ n = 97 ∨ n = 104 ∨ n = 105 ∨ n = 56) {o : Nat} : KEM Sj T (sA n o v σ) a C E M := by
  have ks : ∀ f (b : Nat), f < 1000 → f ≠ 96 → f ≠ 97 → f ≠ 104 → f ≠ 105 → f ≠ 56 → (sA n o v σ).2.1 f b = σ.2.1 f b := fun f b hf h1 h2 h3 h4 h5 => by rw [sA_k (by omega)]
  have kr : ∀ x : Nat, (sA n o v σ).2.1 (1000 + x) = σ.2.1 (1000 + x) := fun x => by rw [sA_k (by omega)]
  obtain ⟨x4, m4, y5, or, ot⟩ := KEM.xs hw ha
  refine hK.mv GT.rfl (hK.1.1.keep (fun f b hf => ?_)) (hK.1.2.2.mv hw or GT.rfl (ks 34 _ (by decide) (by decide) (by decide) (by decide) (by decide) (by decide)) (fun x _ => kr x)) (fun f hf => ?_) (fun f b hf => ?_) (kr _) (kr _)
  · simp only [List.mem_cons, List.not_mem_nil, or_false] at hf
    exact ks f b (by omega) (by omega) (by omega) (by omega) (by omega) (by omega)
  · simp only [List.mem_cons, List.not_mem_nil, or_false] at hf
    exact ks f a (by omega) (by omega) (by omega) (by omega) (by omega) (by omega)
  · simp only [List.mem_cons, List.not_mem_nil, or_false] at hf
    exact ks f b (by omega) (by omega) (by omega) (by omega) (by omega) (by omega)
theorem RDK.in (hK : KEM Sj T σ a C E M) : RDK Sj C E T σ R T σ a 0 := ⟨E, M, hK, fun q q0 q1 => absurd q1 (by omega), fun q _ _ => ⟨rfl, ⟨fun _ _ _ => rfl, fun _ _ => rfl⟩⟩, GT.rfl, fun _ _ _ => Or.inl rfl, fun q _ b => absurd b (by omega), fun q _ b => absurd b (by omega)⟩
theorem mA_of (hK : KEM Sj T σ a C E M) (hF : ∀ e, Sj e → OB T e 1 → (∀ p, 0 ≤ p → p < 7 → e ≠ E p) → CSM σ τ e) (k2 : KEM Sj T2 τ a C E M) : ∀ (q : Int) (m : Nat), 0 ≤ q → q < 6 → σ.2.1 (1000 + adN σ 98 a) q = (m : Int) → CSM σ τ m ∧ τ.2.1 (1000 + adN τ 98 a) q = (m : Int) := fun q m q0 q1 hm => by
  have y := (hK.2.1 q q0 q1).2
  have e : m = M q := by have z := y.1; omega
  rw [e]
  exact ⟨hF (M q) y.2.1 ⟨by omega, by rw [y.2.2]; rfl, by omega⟩ (fun p p0 p1 => (hK.2.2.2 p q p0 p1 q0 q1).symm), (k2.2.1 q q0 q1).2.1⟩
theorem mB_of (k2 : KEM Sj T2 τ a C E M) (h : ∀ q, 0 ≤ q → q < j → MKE σ (M q) (C q)) (hc : ∀ b : Nat, CSM σ τ b) (j6 : j ≤ 6) : ∀ (q : Int) (m c : Nat), 0 ≤ q → q < j → τ.2.1 (1000 + adN τ 98 a) q = (m : Int) → τ.2.1 (1000 + adN τ 99 a) q = (c : Int) → MKE τ m c := fun q m c q0 q1 hm hn => by
  have y := k2.2.1 q q0 (by omega)
  have e : m = M q := by have z := y.2.1; omega
  have e2 : c = C q := by have z := y.1.1; omega
  rw [e, e2]
  exact (h q q0 q1).csm (hc _) (hc _)
theorem KEM.tak (hK : KEM Sj T σ a C E M) (hw : WT T σ) (ha : OB T a 11) (hI : INJ Sj T2 τ) (hP : SPX Sj E T2 τ (adN σ 100 a)) (hF : FRT Sj E T σ T2 τ) (kf : ∀ f, f ∈ [98, 99, 100, 102, 106, 107, 108, 109] → τ.2.1 f a = σ.2.1 f a) (kg : ∀ f (b : Nat), f ∈ [17, 23, 72] → τ.2.1 f b = σ.2.1 f b) : KEM Sj T2 τ a C E M := by
  obtain ⟨x4, m4, y5, or, ot⟩ := KEM.xs hw ha
  exact hK.mv hF.1 hI hP kf kg (hF.2.2.1 _ (Or.inl m4)) (hF.2.2.1 _ (Or.inr y5))
end KEMS
def CDT (σ : MS) (c : Nat) (q n : Int) (V : Int → It) (fs N P : Int) (f : Int → Int) : Prop := ∃ s0 e, CTK s0 σ e c ∧ CDS s0 e q n V fs N P f
def RDM (Sj : Nat → Prop) (C : Int → Nat) (nm : Int → Int64 → Int) (z0 : MK) (T : CT) (σ : MS) (T2 : CT) (σ2 : MS) (a : Nat) (S : Int → Int) (v : Int) : Prop := (∃ E M, KEM Sj T2 σ2 a C E M) ∧ (v = -1 → (∀ q, 0 ≤ q → q < 6 → CSM σ σ2 (C q)) ∧ RNR Sj T σ σ2 ∧ TBR Sj T σ σ2) ∧ (v ≠ -1 → ∃ (i : Nat) (es : List EW) (N : Int) (mz : MK) (Pf : Int → List EW) (f : Int → Int), (TR9 S i N es ∧ ckd (tkS S i) = 264 ∧ SB S) ∧ ((es.foldl uC c00).fp.1 = 0 ∧ v = (es.foldl uC c00).rn ∧ 0 ≤ v ∧ v ≤ 6) ∧ PFX es Pf ∧ ((∀ q, 0 ≤ q → q < (es.foldl uC c00).rn → NMA nm q ((Pf q).foldl uC c00)) → TXW S nm rnQ tb1 z0 i N mz) ∧ RFC (es.foldl uC c00) f ∧ ∀ q, 0 ≤ q → q < (es.foldl uC c00).rn → (mz.dn q).1 ≤ 120 ∧ CDT σ2 (C q) q (mz.dn q).1 (mz.dn q).2 (mz.fr q) ((Pf q).foldl uC c00).nn ((es.foldl uC c00).rp q) f) ∧ N5 Sj T σ σ2 ∧ GT T T2 ∧ (v ≠ -1 → ∀ q, 0 ≤ q → q < v → σ2.2.1 (1000 + adN σ2 89 (adN σ2 102 a)) q = 0) ∧ (v = -1 → ∀ (q : Int) (m : Nat), 0 ≤ q → q < 6 → σ.2.1 (1000 + adN σ 98 a) q = (m : Int) → CSM σ σ2 m ∧ σ2.2.1 (1000 + adN σ2 98 a) q = (m : Int)) ∧ (v ≠ -1 → ∀ (q : Int) (m c : Nat), 0 ≤ q → q < v → σ2.2.1 (1000 + adN σ2 98 a) q = (m : Int) → σ2.2.1 (1000 + adN σ2 99 a) q = (c : Int) → MKE σ2 m c)
theorem CDS.mv {σ τ : MS} {e : Nat} {q n fs N P : Int} {V : Int → It} {f : Int → Int} (h : CDS σ e q n V fs N P f) (c : CSM σ τ e) : CDS τ e q n V fs N P f := by
  unfold CDS at h ⊢
  rw [c.1 6 (by decide) (by decide), c.1 7 (by decide) (by decide), c.1 8 (by decide) (by decide), c.1 9 (by decide) (by decide), c.1 10 (by decide) (by decide), c.rw (f := 11) (by decide) (by decide) (by decide), c.rw (f := 12) (by decide) (by decide) (by decide), c.rw (f := 13) (by decide) (by decide) (by decide), c.rw (f := 14) (by decide) (by decide) (by decide), c.rw (f := 15) (by decide) (by decide) (by decide), c.w]
  exact h
end
