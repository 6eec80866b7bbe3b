section
section RTCO
variable {S : Nat → Prop} {T T2 : CT} {σ σ2 τ : MS} {a : Nat} {C E M : Int → Nat} {r : Int}
theorem rtc_of (hA : CDA σ τ C) (hB : CDB τ) (hW : CDW τ) (g : GDA τ) (np : PAR τ) (nn : NAM τ) (r0 : 0 ≤ r) (r1 : r < τ.1 10) : RTC σ (C r) := by
  have gr := g.2 r r0 r1
  have g6 := g.1
  have P4 := np r r0 (by omega)
  have N12 := nn r r0 (by omega)
  obtain ⟨⟨a1, a2, a3, -⟩, a4, a5, a6⟩ := hA r r0 r1
  obtain ⟨w1, w2, w3⟩ := hW r r0 r1
  have eV : vW (cdW σ (C r)) = rV τ r := congrArg (fun H : RTS => H.2.1) a1
  have en : σ.2.1 6 (C r) = τ.2.1 9 r := congrArg (fun H : RTS => H.1) a1
  have eF : σ.2.1 10 (C r) = τ.2.1 14 r := congrArg (fun H : RTS => H.2.2.1) a1
  have F1 := gr.2.1.1
  have fo : ∀ f, 0 ≤ f → f < σ.2.1 10 (C r) → (rS τ r).fo f = rwF σ 11 (C r) f := fun f f0 f1 => by
    have z := congrFun (congrArg (fun H : RTS => H.2.2.2.1) a1) f
    have z2 : (if 0 ≤ f ∧ f < σ.2.1 10 (C r) then rwF σ 11 (C r) f else 0) = (rS τ r).fo f := z
    rw [← z2, if_pos ⟨f0, f1⟩]
  have na : ∀ m, 0 ≤ m → m < rwF σ 14 (C r) 0 → (rS τ r).na 0 m = rwF σ 15 (C r) m := fun m m0 m1 => by
    have z := congrFun (congrFun (congrArg (fun H : RTS => H.2.2.2.2.2.2) a1) 0) m
    have z2 : (if ((0 : Int) ≤ 0 ∧ (0 : Int) < σ.2.1 10 (C r)) ∧ 0 ≤ m ∧ m < rwF σ 14 (C r) 0 then rwF σ 15 (C r) (12 * 0 + m) else 0) = (rS τ r).na 0 m := z
    rw [← z2, if_pos ⟨⟨Int.le_refl _, by omega⟩, m0, m1⟩, show 12 * 0 + m = m by omega]
  have f0 := (fo0_r gr).2.1.2
  have n0 : τ.2.1 12 r = rwF σ 14 (C r) 0 := by
    have z := (a6 0 (Int.le_refl _) (by omega)).2
    rw [← fo 0 (Int.le_refl _) (by omega), f0] at z
    exact z
  have PN := gr.2.2.2.2.2.2.2.2
  have c0 : ∀ k c, c ≠ 3 → c ≠ 12 → cdW σ (C r) k c = rV τ r k c := fun k c h3 h12 => by rw [← eV]; exact (vW_ne h3 h12).symm
  unfold RTC
  rw [en, a2, a3]
  refine ⟨⟨⟨by rw [← en]; exact a4, by rw [← en]; exact a5, ?_⟩, ?_, ?_, ⟨P4.1, P4.2, PN⟩, by have := gr.1; omega, gr.1.2⟩, ⟨fun q q0 q1 => (a6 q q0 q1).1, by omega, n0, rfl⟩, fun k k0 k1 k12 => ?_, fun k k0 k1 k15 => ?_⟩
  · rw [eV]; exact (hB r r0 r1).1
  · rw [eV]
    intro k k0 k1 k12
    exact (w1 k k0 k1).2.2 k12
  · intro i j i0 i1 j0 j1 e
    rw [← na i i0 (by omega), ← na j j0 (by omega)] at e
    exact w3 i j i0 i1 j0 j1 e
  · rw [c0 k 0 (by decide) (by decide)] at k12
    have b : bnB (τ.2.1 12) (rS τ r) (rV τ r k 2) (rV τ r k 1) := w2 k k0 k1 k12
    obtain ⟨b1, b2⟩ := b
    have b1 : 0 ≤ rV τ r k 2 ∧ rV τ r k 2 < τ.2.1 14 r := b1
    rw [c0 k 2 (by decide) (by decide), c0 k 1 (by decide) (by decide)]
    have z := (a6 (rV τ r k 2) b1.1 (by omega)).2
    rw [← fo _ b1.1 (by omega)] at z
    rw [← z]
    exact ⟨by omega, b2⟩
  · have e : rV τ r k = rI τ (220 * r + k) := if_pos ⟨k0, k1⟩
    rw [c0 k 0 (by decide) (by decide), e] at k15
    have o := (gr.2.2.1 k k0 k1).2.2.2.1 (Or.inr k15)
    rw [c0 k 1 (by decide) (by decide), e, eF]
    exact o
end RTCO
section TGXS
variable {S : Nat → Prop} {T T2 : CT} {σ σ2 τ : MS} {a tl : Nat} {C : Int → Nat} {r Cn : Int}
def TGX (T : CT) (σ : MS) (tl : Nat) (C : Int → Nat) (Cn : Int) : Prop := ∀ r, 0 ≤ r → r < Cn → σ.2.1 (1000 + adN σ 89 tl) r ≠ 0 → ∃ t : Nat, σ.2.1 900 r = (t : Int) ∧ TKC σ (C r) (σ.2.1 (1000 + t)) ∧ (σ.2.1 6 (C r) + 1) * slF (rwF σ 14 (C r)) (σ.2.1 10 (C r)) ≤ ((T t).2 : Int)
def TAP (T : CT) (σ : MS) : Prop := (∀ p q, 0 ≤ p → p < 6 → 0 ≤ q → q < 6 → 0 ≤ σ.2.1 900 p → σ.2.1 900 p = σ.2.1 900 q → p = q) ∧ ∀ p (t : Nat), 0 ≤ p → p < 6 → σ.2.1 900 p = (t : Int) → (T t).1 = 1
theorem tkc_m {c : Nat} {R : Int → Int} (cs : CSM σ σ2 c) (h : TKC σ c R) : TKC σ2 c R := by
  unfold TKC at h ⊢
  rw [cs.w, cs.1 6 (by decide) (by decide), cs.1 7 (by decide) (by decide), cs.1 8 (by decide) (by decide), cs.1 10 (by decide) (by decide), cs.rw (f := 14) (by decide) (by decide) (by decide), cs.rw (f := 15) (by decide) (by decide) (by decide)]
  exact h
theorem TGX.same (h : TGX T σ tl C Cn) (tp : TAP T σ) (c6 : Cn ≤ 6) (gt : GT T T2) (cs : ∀ q, 0 ≤ q → q < Cn → CSM σ σ2 (C q)) (e9 : σ2.2.1 900 = σ.2.1 900) (e89 : σ2.2.1 89 tl = σ.2.1 89 tl) (eb : ∀ q, 0 ≤ q → q < Cn → σ2.2.1 (1000 + adN σ 89 tl) q ≠ 0 → σ2.2.1 (1000 + adN σ 89 tl) q = σ.2.1 (1000 + adN σ 89 tl) q) (et : ∀ q (t : Nat), 0 ≤ q → q < Cn → σ.2.1 900 q = (t : Int) → σ2.2.1 (1000 + t) = σ.2.1 (1000 + t)) : TGX T2 σ2 tl C Cn := fun q q0 q1 nz => by
  have ea : adN σ2 89 tl = adN σ 89 tl := by unfold adN; rw [e89]
  rw [ea] at nz
  have nz2 := nz
  rw [eb q q0 q1 nz] at nz2
  obtain ⟨t, t1, t2, t3⟩ := h q q0 q1 nz2
  have k := cs q q0 q1
  have kt := tp.2 q t q0 (by omega) t1
  refine ⟨t, by rw [e9]; exact t1, by rw [et q t q0 q1 t1]; exact tkc_m k t2, ?_⟩
  rw [k.1 6 (by decide) (by decide), k.1 10 (by decide) (by decide), k.rw (f := 14) (by decide) (by decide) (by decide), gt t (by omega) (by omega)]
  exact t3
theorem TAP.same (tp : TAP T σ) (gt : GT T T2) (e9 : σ2.2.1 900 = σ.2.1 900) : TAP T2 σ2 := ⟨fun p q p0 p1 q0 q1 a b => by rw [e9] at a b; exact tp.1 p q p0 p1 q0 q1 a b, fun p t p0 p1 e => by
  rw [e9] at e
  have k := tp.2 p t p0 p1 e
  rw [gt t (by omega) (by omega)]; exact k⟩
theorem rfa_of {c : Nat} (hI : INJ S T σ) (hj : TBJ S T σ) (st : S tl) (ot : OB T tl 10) (sc : S c) (oc : OB T c 1) (r0 : 0 ≤ r) (r6 : r < 6) : RFA σ c r (adN σ 90 tl) (adN σ 91 tl) (adN σ 89 tl) := by
  have n : ∀ f g, f ∈ AF6 → g ∈ [89, 90, 91] → adN σ f c ≠ adN σ g tl := fun f g hf hg => by
    have fa : f ∈ AFL ∧ cls f = 1 ∧ f ≤ 16 := by
      simp only [List.mem_cons, List.not_mem_nil, or_false] at hf
      rcases hf with rfl | rfl | rfl | rfl | rfl | rfl <;> exact ⟨by decide, rfl, by decide⟩
    have ga : g ∈ AFL ∧ cls g = 10 ∧ 89 ≤ g := by
      simp only [List.mem_cons, List.not_mem_nil, or_false] at hg
      rcases hg with rfl | rfl | rfl <;> exact ⟨by decide, rfl, by decide⟩
    exact hI.ne sc st (by rw [fa.2.1]; exact oc) (by rw [ga.2.1]; exact ot) fa.1 ga.1 (Or.inl (by omega))
  have m : ∀ f g, f ∈ [89, 90, 91] → g ∈ [89, 90, 91] → f ≠ g → adN σ f tl ≠ adN σ g tl := fun f g hf hg ne => by
    have ga : ∀ g, g ∈ [89, 90, 91] → g ∈ AFL ∧ cls g = 10 := fun g hg => by
      simp only [List.mem_cons, List.not_mem_nil, or_false] at hg
      rcases hg with rfl | rfl | rfl <;> exact ⟨by decide, rfl⟩
    exact hI.ne st st (by rw [(ga f hf).2]; exact ot) (by rw [(ga g hg).2]; exact ot) (ga f hf).1 (ga g hg).1 (Or.inl ne)
  refine ⟨⟨⟨n 5 90 (by decide) (by decide), n 5 91 (by decide) (by decide), n 5 89 (by decide) (by decide)⟩, ⟨n 15 90 (by decide) (by decide), n 15 91 (by decide) (by decide), n 15 89 (by decide) (by decide)⟩, ⟨n 14 90 (by decide) (by decide), n 14 91 (by decide) (by decide), n 14 89 (by decide) (by decide)⟩, m 90 91 (by decide) (by decide) (by decide), m 90 89 (by decide) (by decide) (by decide), m 91 89 (by decide) (by decide) (by decide)⟩, fun t ht => ?_⟩
  have z := hj r t r0 r6 ht
  refine ⟨fun f hf => ?_, z 90 tl (by decide) st ot, z 91 tl (by decide) st ot, z 89 tl (by decide) st ot⟩
  have fa : f ∈ AFL ∧ cls f = 1 := by
    simp only [List.mem_cons, List.not_mem_nil, or_false] at hf
    rcases hf with rfl | rfl | rfl | rfl | rfl | rfl <;> exact ⟨by decide, rfl⟩
  exact z f c fa.1 sc (by rw [fa.2]; exact oc)
theorem TGX.rft {xs xb xf : Nat} (h : TGX T σ tl C Cn) (tp : TAP T σ) (c6 : Cn ≤ 6) (hI : INJ S T σ) (hw : WT T σ) (hj : TBJ S T σ) (st : S tl) (ot : OB T tl 10) (sc : ∀ q, 0 ≤ q → q < Cn → S (C q) ∧ OB T (C q) 1) (hxf : xf = adN σ 89 tl) (hxb : xb = adN σ 90 tl) (hxs : xs = adN σ 91 tl) (gt : GT T T2) (q : RFT T T2 σ σ2 tl (C r) r xs xb xf) (hr : 0 ≤ r ∧ r < Cn) (t1 : ∀ t : Nat, σ2.2.1 900 r = (t : Int) → (T2 t).1 = 1) : (TGX T2 σ2 tl C Cn ∧ TAP T2 σ2) ∧ (∀ q, 0 ≤ q → q < Cn → CSM σ σ2 (C q)) ∧ σ2.2.1 (1000 + adN σ2 89 tl) r ≠ 0 := by
  rcases q with ⟨n, e1, e2⟩ | ⟨⟨r6, z⟩, t, ht, t9, ch, ef, tk, tm⟩
  · have cs : ∀ q, CSM σ σ2 (C q) := fun q => ⟨fun f _ _ => by rw [e1], fun f _ => by rw [e1]⟩
    refine ⟨⟨h.same tp c6 gt (fun q _ _ => cs q) (by rw [e1]) (by rw [e1]) (fun _ _ _ _ => by rw [e1]) (fun _ _ _ _ _ => by rw [e1]), tp.same gt (by rw [e1])⟩, fun q _ _ => cs q, ?_⟩
    intro e
    refine n ⟨by omega, ?_⟩
    rw [hxf]
    have ea : adN σ2 89 tl = adN σ 89 tl := by unfold adN; rw [e1]
    rw [ea, e1] at e
    exact e
  · have af : ∀ g, g ∈ [89, 90, 91] → g ∈ AFL ∧ cls g = 10 := fun g hg => by
      simp only [List.mem_cons, List.not_mem_nil, or_false] at hg
      rcases hg with rfl | rfl | rfl <;> exact ⟨by decide, rfl⟩
    -- a row that stands is not written, if it is none of the four
    have tn : ∀ f b, f ∈ AFL → S b → OB T b (cls f) → t ≠ adN σ f b := fun f b hf sb ob e => by
      rcases ht with u | u
      · exact hj r t hr.1 (by omega) u f b hf sb ob e
      · have w := (af_k hw hf ob).2
        rw [← e] at w
        unfold AFK at w
        omega
    have cs : ∀ q, 0 ≤ q → q < Cn → CSM σ σ2 (C q) := fun q q0 q1 => by
      have s := sc q q0 q1
      refine CSM.of ch (fun p hp => Or.inr (Or.inr (by simp only [List.mem_cons, List.not_mem_nil, or_false] at hp; rcases hp with rfl | rfl | rfl | rfl <;> simp))) (fun f hf w => ?_) (fun f hf => by have z := af6_k hw s.2 f hf; omega)
      have fa : f ∈ AFL ∧ cls f = 1 ∧ f ≤ 16 := by
        simp only [List.mem_cons, List.not_mem_nil, or_false] at hf
        rcases hf with rfl | rfl | rfl | rfl | rfl | rfl <;> exact ⟨by decide, rfl, by decide⟩
      have n : ∀ g, g ∈ [89, 90, 91] → adN σ f (C q) ≠ adN σ g tl := fun g hg => hI.ne s.1 st (by rw [fa.2.1]; exact s.2) (by rw [(af g hg).2]; exact ot) fa.1 (af g hg).1 (Or.inl (by
        simp only [List.mem_cons, List.not_mem_nil, or_false] at hg
        omega))
      simp only [List.mem_cons, List.not_mem_nil, or_false] at w
      rcases w with w | w | w | w
      · exact tn f (C q) fa.1 s.1 (by rw [fa.2.1]; exact s.2) w.symm
      · exact n 91 (by decide) (by rw [← hxs]; exact w)
      · exact n 90 (by decide) (by rw [← hxb]; exact w)
      · exact n 89 (by decide) (by rw [← hxf]; exact w)
    have e89 : σ2.2.1 89 tl = σ.2.1 89 tl := ch.f (by decide) (by simp)
    have ea : adN σ2 89 tl = xf := by rw [hxf]; unfold adN; rw [e89]
    have o9 : ∀ q, 0 ≤ q → q ≠ r → σ2.2.1 900 q = σ.2.1 900 q := fun q q0 ne => ch.1 900 q (by decide) (fun p hp e => by
      simp only [List.mem_cons, List.not_mem_nil, or_false] at hp
      rcases hp with rfl | rfl | rfl | rfl
      · exact absurd e (by simp)
      · exact absurd e (by simp)
      · exact absurd e (by simp)
      · show (r.toNat : Int) ≠ q; omega)
    have tt : ∀ q (u : Nat), 0 ≤ q → q < 6 → q ≠ r → σ.2.1 900 q = (u : Int) → u ≠ t := fun q u q0 q1 ne e w => by
      rcases ht with v | v
      · exact ne (tp.1 q r q0 q1 hr.1 (by omega) (by omega) (by rw [e, v, w]))
      · have k := tp.2 q u q0 q1 e
        rw [w] at k; omega
    refine ⟨⟨fun q q0 q1 nz => ?_, ⟨fun p q p0 p1 q0 q1 u w => ?_, fun p u p0 p1 e => ?_⟩⟩, cs, ?_⟩
    · by_cases er : q = r
      · subst er
        have k := cs q q0 q1
        refine ⟨t, t9, tkc_m k tk, ?_⟩
        rw [k.1 6 (by decide) (by decide), k.1 10 (by decide) (by decide), k.rw (f := 14) (by decide) (by decide) (by decide)]
        exact tm
      · rw [ea, ef, uZ_ne er, hxf] at nz
        obtain ⟨u, u1, u2, u3⟩ := h q q0 q1 nz
        have k := cs q q0 q1
        have ku := tp.2 q u q0 (by omega) u1
        have w := hj q u q0 (by omega) u1
        have ro : σ2.2.1 (1000 + u) = σ.2.1 (1000 + u) := ch.r (by omega) (fun m => by
          simp only [List.mem_cons, List.not_mem_nil, or_false] at m
          rcases m with m | m | m | m
          · exact tt q u q0 (by omega) er u1 m
          · exact w 91 tl (by decide) st ot (by rw [← hxs]; exact m)
          · exact w 90 tl (by decide) st ot (by rw [← hxb]; exact m)
          · exact w 89 tl (by decide) st ot (by rw [← hxf]; exact m))
        refine ⟨u, by rw [o9 q q0 er]; exact u1, by rw [ro]; exact tkc_m k u2, ?_⟩
        rw [k.1 6 (by decide) (by decide), k.1 10 (by decide) (by decide), k.rw (f := 14) (by decide) (by decide) (by decide), gt u (by omega) (by omega)]
        exact u3
    · by_cases ep : p = r
      · by_cases eq : q = r
        · omega
        · rw [ep, t9, o9 q q0 eq] at w
          exact absurd rfl (tt q t q0 q1 eq w.symm)
      · by_cases eq : q = r
        · rw [eq, t9, o9 p p0 ep] at w
          exact absurd rfl (tt p t p0 p1 ep w)
        · rw [o9 p p0 ep] at u
          rw [o9 p p0 ep, o9 q q0 eq] at w
          exact tp.1 p q p0 p1 q0 q1 u w
    · by_cases ep : p = r
      · rw [ep] at e; exact t1 u e
      · rw [o9 p p0 ep] at e
        have k := tp.2 p u p0 p1 e
        rw [gt u (by omega) (by omega)]; exact k
    · rw [ea, ef, uZ_eq]; decide
end TGXS
theorem tab_k {T : CT} {σ : MS} {i : Int} {t : Nat} (hw : WT T σ) (h0 : 0 ≤ i) (h6 : i < 6) (e : σ.2.1 900 i = (t : Int)) : (T t).1 = 1 := by
  rcases hw.2.2.2.2.1.2 i h0 h6 with z | ⟨x, e2, ar⟩
  · omega
  · have ex : x = t := by omega
    subst ex; exact ar.1
theorem rtc_m {σ σ2 : MS} {c : Nat} (cs : CSM σ σ2 c) (h : RTC σ c) : RTC σ2 c := by
  unfold RTC at h ⊢
  rw [cs.w, cs.1 6 (by decide) (by decide), cs.1 7 (by decide) (by decide), cs.1 8 (by decide) (by decide), cs.1 10 (by decide) (by decide), cs.rw (f := 14) (by decide) (by decide) (by decide), cs.rw (f := 15) (by decide) (by decide) (by decide)]
  exact h
def TGK (S : Nat → Prop) (T : CT) (σ : MS) (a : Nat) (C : Int → Nat) (Cn : Int) : Prop := (TGX T σ (adN σ 102 a) C Cn ∧ TAP T σ) ∧ Cn ≤ 6 ∧ ∀ q, 0 ≤ q → q < Cn → (σ.2.1 (1000 + adN σ 99 a) q = (C q : Int) ∧ S (C q) ∧ (T (C q)).1 = 50) ∧ RTC σ (C q)
def TLH (T : CT) (σ : MS) (tl a bb bs bf : Nat) : Prop := ∀ (c : Nat) r, 0 ≤ r → r < σ.2.1 97 a → σ.2.1 (1000 + adN σ 99 a) r = (c : Int) → RTC σ c ∧ RFA σ c r bb bs bf
def TLT (T T2 : CT) (σ σ2 : MS) (tl a bb bs bf : Nat) : Prop := (σ2.2.1 = σ.2.1 ∧ σ2.2.2 = σ.2.2) ∨ ∃ (c : Nat) (r : Int), (0 ≤ r ∧ r < σ.2.1 97 a ∧ σ.2.1 (1000 + adN σ 99 a) r = (c : Int)) ∧ RFT T T2 σ σ2 tl c r bs bb bf
section TGKS
variable {S S2 : Nat → Prop} {T T2 : CT} {σ σ2 : MS} {a tl xb xs xf c : Nat} {C : Int → Nat} {r Cn : Int} {ks : List (Nat × Nat)} {rs ls : List Nat}
theorem TGK.mk (h : TGK S T σ a C Cn) (gt : GT T T2) (cs : ∀ q, 0 ≤ q → q < Cn → CSM σ σ2 (C q)) (e99 : adN σ2 99 a = adN σ 99 a) (r99 : σ2.2.1 (1000 + adN σ 99 a) = σ.2.1 (1000 + adN σ 99 a)) (x : TGX T2 σ2 (adN σ2 102 a) C Cn ∧ TAP T2 σ2) (hS : ∀ b, S b → S2 b) : TGK S2 T2 σ2 a C Cn := ⟨x, h.2.1, fun q q0 q1 => by
  have z := h.2.2 q q0 q1
  rw [e99, r99, gt (C q) (by omega) (by omega)]
  exact ⟨⟨z.1.1, hS _ z.1.2.1, z.1.2.2⟩, rtc_m (cs q q0 q1) z.2⟩⟩
theorem TGK.same (h : TGK S T σ a C Cn) (hw : WT T σ) (oa : OB T a 11) (gt : GT T T2) (hj : TBJ S T σ) (st : S (adN σ 102 a)) (ot : OB T (adN σ 102 a) 10) (cs : ∀ q, 0 ≤ q → q < Cn → CSM σ σ2 (C q)) (e9 : σ2.2.1 900 = σ.2.1 900) (ef : ∀ f, f ∈ [99, 102] → σ2.2.1 f a = σ.2.1 f a) (e89 : σ2.2.1 89 (adN σ 102 a) = σ.2.1 89 (adN σ 102 a)) (ro : ∀ x, x = adN σ 89 (adN σ 102 a) ∨ x = adN σ 99 a ∨ ((T x).1 = 1 ∧ ∀ f b, f ∈ AFL → S b → OB T b (cls f) → x ≠ adN σ f b) → σ2.2.1 (1000 + x) = σ.2.1 (1000 + x)) (hS : ∀ b, S b → S2 b) : TGK S2 T2 σ2 a C Cn := by
  have ea : ∀ f, f ∈ [99, 102] → adN σ2 f a = adN σ f a := fun f hf => by unfold adN; rw [ef f hf]
  refine h.mk gt cs (ea 99 (by decide)) (ro _ (Or.inr (Or.inl rfl))) ?_ hS
  rw [ea 102 (by decide)]
  exact ⟨h.1.1.same h.1.2 h.2.1 gt cs e9 e89 (fun q _ _ _ => by rw [ro _ (Or.inl rfl)]) (fun q t q0 q1 e => ro t (Or.inr (Or.inr ⟨tab_k hw q0 (by have := h.2.1; omega) e, fun f b hf sb ob => hj q t q0 (by have := h.2.1; omega) e f b hf sb ob⟩))), h.1.2.same gt e9⟩
theorem TGK.rf (h : TGK S T σ a C Cn) (hb : BSQ S T σ a) (hw : WT T σ) (hw2 : WT T2 σ2) (oa : OB T a 11) (gt : GT T T2) (e : σ.2.1 102 a = (tl : Int)) (ot : OB T tl 10) (e0 : σ.2.1 90 tl = (xb : Int)) (e1 : σ.2.1 91 tl = (xs : Int)) (e2 : σ.2.1 89 tl = (xf : Int)) (q : RFT T T2 σ σ2 tl c r xs xb xf) (hc : c = C r) (hr : 0 ≤ r ∧ r < Cn) : TGK S T2 σ2 a C Cn ∧ (∀ q, 0 ≤ q → q < Cn → CSM σ σ2 (C q)) ∧ σ2.2.1 (1000 + adN σ2 89 tl) r ≠ 0 := by
  subst hc
  have et : adN σ 102 a = tl := adN_of e
  have st : S tl := by rw [← et]; exact hb.2.2.1
  have g := h.1.1
  rw [et] at g
  have w := g.rft h.1.2 h.2.1 hb.1 hw hb.2.1 st ot (fun q q0 q1 => by have z := (h.2.2 q q0 q1).1; exact ⟨z.2.1, ob50 z.2.2⟩) (adN_of e2).symm (adN_of e0).symm (adN_of e1).symm gt q hr (fun t ht => tab_k hw2 hr.1 (by have := h.2.1; omega) ht)
  have k99 : σ2.2.1 99 a = σ.2.1 99 a ∧ σ2.2.1 102 a = σ.2.1 102 a ∧ σ2.2.1 (1000 + adN σ 99 a) = σ.2.1 (1000 + adN σ 99 a) := by
    rcases q with ⟨-, q1, -⟩ | ⟨-, t, ht, -, ch, -⟩
    · rw [q1]; exact ⟨rfl, rfl, rfl⟩
    · have k5 := (KEM.xs hw oa).2.2.1
      have tt : (T t).1 = 1 ∨ (T t).1 = 0 := ht.imp (fun u => tab_k hw hr.1 (by have := h.2.1; omega) u) id
      have t0 := (ar_of (wf_90 hw ot) e0).1
      have t1 := (ar_of (wf_91 hw ot) e1).1
      have t2 := (ar_of (wf_89 hw ot) e2).1
      refine ⟨ch.f (by decide) (by simp), ch.f (by decide) (by simp), ch.r (by omega) (fun m => ?_)⟩
      simp only [List.mem_cons, List.not_mem_nil, or_false] at m
      rcases m with m | m | m | m
      · rw [m] at k5; omega
      · rw [m] at k5; omega
      · rw [m] at k5; omega
      · rw [m] at k5; omega
  have e2' : adN σ2 102 a = tl := by unfold adN; rw [k99.2.1, e]; rfl
  exact ⟨h.mk gt w.2.1 (by unfold adN; rw [k99.1]) k99.2.2 (by rw [e2']; exact w.1) (fun _ z => z), w.2⟩
theorem RN6.own9 {S : Nat → Prop} {T : CT} {σ : MS} {o x : Nat} {l : List Nat} (h : RN6 S T σ o l) (hx : x ∈ l) : ∃ f b, f ∈ AFL ∧ (QRW f ∧ f ≠ 89) ∧ S b ∧ OB T b (cls f) ∧ x = adN σ f b := by
  obtain ⟨so, oo, e⟩ := h
  rw [e] at hx
  simp only [List.mem_cons, List.not_mem_nil, or_false] at hx
  rcases hx with q | q | q | q | q | q
  · exact ⟨59, o, by decide, by unfold QRW; omega, so, oo, q⟩
  · exact ⟨60, o, by decide, by unfold QRW; omega, so, oo, q⟩
  · exact ⟨61, o, by decide, by unfold QRW; omega, so, oo, q⟩
  · exact ⟨62, o, by decide, by unfold QRW; omega, so, oo, q⟩
  · exact ⟨63, o, by decide, by unfold QRW; omega, so, oo, q⟩
  · exact ⟨64, o, by decide, by unfold QRW; omega, so, oo, q⟩
theorem TGK.chx (h : TGK S T σ a C Cn) (hb : BSQ S T σ a) (hw : WT T σ) (oa : OB T a 11) (ch : CHX ks rs ls σ σ2) (hk : ∀ p, p ∈ ks → (p.1 < 5 ∨ 16 < p.1) ∧ p.1 ≠ 89 ∧ p.1 ≠ 99 ∧ p.1 ≠ 102 ∧ p.1 ≠ 900) (hr : ∀ x, x ∈ rs → ∃ f b, f ∈ AFL ∧ (QRW f ∧ f ≠ 89) ∧ S b ∧ OB T b (cls f) ∧ x = adN σ f b) : TGK S T σ2 a C Cn := by
  have ot := (KEM.xs hw oa).2.2.2.2
  have k5 := (KEM.xs hw oa).2.2.1
  have q7 : ∀ f, (QRW f ∧ f ≠ 89) → f ∈ AFL → cls f ≠ 1 ∧ f ≠ 89 := fun f q hf => by
    unfold QRW at q
    simp only [List.mem_cons, List.not_mem_nil, or_false] at hf
    rcases hf with e | e | e | e | e | e | e | e | e | e | e | e | e | e | e | e | e | e | e | e | e | e | e | e | e | e | e | e | e | e | e | e | e | e | e | e | e | e | e | e | e | e <;> subst e <;> first | (exfalso; omega) | exact ⟨by decide, by decide⟩
  refine h.same hw oa GT.rfl hb.2.1 hb.2.2.1 ot (fun q q0 q1 => ?_) ?_ (fun f hf => ?_) ?_ (fun x hx => ch.r (fun m => ?_)) (fun _ z => z)
  · have z := (h.2.2 q q0 q1).1
    refine ⟨fun f f0 f1 => ch.f (by omega) (fun m => by have := (hk _ m).1; simp only at this; omega), fun f hf => ch.r (fun m => ?_)⟩
    obtain ⟨g, b, hg, gq, sb, ob, e⟩ := hr _ m
    have fa : f ∈ AFL ∧ cls f = 1 := by
      simp only [List.mem_cons, List.not_mem_nil, or_false] at hf
      rcases hf with rfl | rfl | rfl | rfl | rfl | rfl <;> exact ⟨by decide, rfl⟩
    have w := hb.1.2 f g (C q) b fa.1 hg z.2.1 sb (by rw [fa.2]; exact ob50 z.2.2) ob e
    exact (q7 g gq hg).1 (by rw [← w.1]; exact fa.2)
  · funext i
    exact ch.1 900 i (by decide) (fun p hp e => absurd e (hk p hp).2.2.2.2)
  · simp only [List.mem_cons, List.not_mem_nil, or_false] at hf
    rcases hf with rfl | rfl
    · exact ch.f (by decide) (fun m => (hk _ m).2.2.1 rfl)
    · exact ch.f (by decide) (fun m => (hk _ m).2.2.2.1 rfl)
  · exact ch.f (by decide) (fun m => (hk _ m).2.1 rfl)
  · obtain ⟨g, b, hg, gq, sb, ob, e⟩ := hr _ m
    rcases hx with hx | hx | hx
    · have w := hb.1.2 89 g (adN σ 102 a) b (by decide) hg hb.2.2.1 sb ot ob (by rw [← hx]; exact e)
      exact (q7 g gq hg).2 w.1.symm
    · have w := (af_k hw hg ob).2
      rw [← e, hx] at w
      unfold AFK at w
      omega
    · exact hx.2 g b hg sb ob e
theorem TGK.run {o : Nat} {l : List Nat} (h : TGK S T σ a C Cn) (hb : BSQ S T σ a) (hw : WT T σ) (oa : OB T a 11) (n : RN6 S T σ o l) (ch : CHX [(56, o), (57, o), (58, o), (65, o), (66, o), (67, o), (68, o), (69, o), (70, o), (71, o)] l [] σ σ2) : TGK S T σ2 a C Cn := h.chx hb hw oa ch (fun p hp => by
  simp only [List.mem_cons, List.not_mem_nil, or_false] at hp
  rcases hp with rfl | rfl | rfl | rfl | rfl | rfl | rfl | rfl | rfl | rfl <;> simp) (fun x hx => n.own9 hx)
theorem TGK.two {o o2 p9 : Nat} {l l2 : List Nat} (h : TGK S T σ a C Cn) (hb : BSQ S T σ a) (hw : WT T σ) (oa : OB T a 11) (n : RN6 S T σ o l) (n2 : RN6 S T σ o2 l2) (ch : CHX [(2, p9), (3, p9), (4, p9), (56, o), (57, o), (58, o), (65, o), (66, o), (67, o), (68, o), (69, o), (70, o), (71, o), (56, o2), (57, o2), (58, o2), (65, o2), (66, o2), (67, o2), (68, o2), (69, o2), (70, o2), (71, o2)] (l ++ l2) [] σ σ2) : TGK S T σ2 a C Cn := h.chx hb hw oa ch (fun p hp => by
  simp only [List.mem_cons, List.not_mem_nil, or_false] at hp
  rcases hp with rfl | rfl | rfl | rfl | rfl | rfl | rfl | rfl | rfl | rfl | rfl | rfl | rfl | rfl | rfl | rfl | rfl | rfl | rfl | rfl | rfl | rfl | rfl <;> simp) (fun x hx => (List.mem_append.mp hx).elim n.own9 n2.own9)
theorem TGK.pair (h : TGK S T σ a C Cn) (hb : BSQ S T σ a) (hw : WT T σ) (oa : OB T a 11) (q : PRQ T σ T2 σ2 a) (hS : ∀ b, S b → S2 b) : TGK S2 T2 σ2 a C Cn := by
  have ot := (KEM.xs hw oa).2.2.2.2
  have k5 := (KEM.xs hw oa).2.2.1
  have kr : ∀ f (b : Nat), f ∈ AFL → OB T b (cls f) → σ2.2.1 (1000 + adN σ f b) = σ.2.1 (1000 + adN σ f b) := fun f b hf ob => q.2.1 _ (by have w := (af_k hw hf ob).2; unfold AFK at w; omega)
  have a0 : (T a).1 ≠ 0 := by have := oa.1; omega
  refine h.same hw oa q.2.2.2 hb.2.1 hb.2.2.1 ot (fun j j0 j1 => ?_) q.2.2.1 (fun f hf => ?_) (q.1 89 _ (by decide) (by have := ot.1; omega) (by omega)) (fun x hx => ?_) hS
  · have z := (h.2.2 j j0 j1).1
    refine ⟨fun f f0 f1 => q.1 f _ (by omega) (by omega) (by omega), fun f hf => ?_⟩
    have fa : f ∈ AFL ∧ cls f = 1 := by
      simp only [List.mem_cons, List.not_mem_nil, or_false] at hf
      rcases hf with rfl | rfl | rfl | rfl | rfl | rfl <;> exact ⟨by decide, rfl⟩
    exact kr f _ fa.1 (by rw [fa.2]; exact ob50 z.2.2)
  · simp only [List.mem_cons, List.not_mem_nil, or_false] at hf
    rcases hf with rfl | rfl
    · exact q.1 99 a (by decide) a0 (by omega)
    · exact q.1 102 a (by decide) a0 (by omega)
  · rcases hx with hx | hx | hx
    · rw [hx]; exact kr 89 _ (by decide) ot
    · rw [hx]; exact q.2.1 _ (by omega)
    · exact q.2.1 _ (by omega)
theorem TGK.tlh (h : TGK S T σ a C Cn) (hb : BSQ S T σ a) (hw : WT T σ) (oa : OB T a 11) (e97 : σ.2.1 97 a = Cn) (e : σ.2.1 102 a = (tl : Int)) (e0 : σ.2.1 90 tl = (xb : Int)) (e1 : σ.2.1 91 tl = (xs : Int)) (e2 : σ.2.1 89 tl = (xf : Int)) : TLH T σ tl a xb xs xf := fun c r r0 r1 er => by
  have z := h.2.2 r r0 (by omega)
  have ec : c = C r := by have := z.1.1; omega
  have et : adN σ 102 a = tl := adN_of e
  have ot := (KEM.xs hw oa).2.2.2.2
  rw [et] at ot
  rw [ec, ← adN_of e0, ← adN_of e1, ← adN_of e2]
  exact ⟨z.2, rfa_of hb.1 hb.2.1 (by rw [← et]; exact hb.2.2.1) ot z.1.2.1 (ob50 z.1.2.2) r0 (by have := h.2.1; omega)⟩
theorem TGK.sw {E M : Int → Nat} (h : TGK S T σ a C Cn) (hK : KB6 S2 T σ a C E M) : TGK S2 T σ a C Cn := ⟨h.1, h.2.1, fun q q0 q1 => ⟨(hK.1.2.1 q q0 (by have := h.2.1; omega)).1, (h.2.2 q q0 q1).2⟩⟩
theorem TGK.tl0 (h : TGK S T σ a C Cn) (hb : BSQ S T σ a) (hw : WT T σ) (oa : OB T a 11) (gt : GT T T2) (q1 : σ2.2.1 = σ.2.1) : TGK S T2 σ2 a C Cn := h.same hw oa gt hb.2.1 hb.2.2.1 (KEM.xs hw oa).2.2.2.2 (fun j _ _ => ⟨fun f _ _ => by rw [q1], fun f _ => by rw [q1]⟩) (by rw [q1]) (fun f _ => by rw [q1]) (by rw [q1]) (fun x _ => by rw [q1]) (fun _ z => z)
theorem TGK.tlt (h : TGK S T σ a C Cn) (hb : BSQ S T σ a) (hw : WT T σ) (hw2 : WT T2 σ2) (oa : OB T a 11) (gt : GT T T2) (e97 : σ.2.1 97 a = Cn) (e : σ.2.1 102 a = (tl : Int)) (e0 : σ.2.1 90 tl = (xb : Int)) (e1 : σ.2.1 91 tl = (xs : Int)) (e2 : σ.2.1 89 tl = (xf : Int)) (q : TLT T T2 σ σ2 tl a xb xs xf) : TGK S T2 σ2 a C Cn := by
  have ot := (KEM.xs hw oa).2.2.2.2
  rcases q with ⟨q1, q2⟩ | ⟨c, r, ⟨r0, r1, er⟩, q⟩
  · exact h.tl0 hb hw oa gt q1
  · have z := h.2.2 r r0 (by omega)
    rw [adN_of e] at ot
    exact (h.rf hb hw hw2 oa gt e ot e0 e1 e2 q (by have := z.1.1; omega) ⟨r0, by omega⟩).1
end TGKS
end
