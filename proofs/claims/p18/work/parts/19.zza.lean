section
theorem af_kn {T : CT} {σ : MS} {f b : Nat} (hw : WTn T σ) (hf : f ∈ AFL) (ob : OB T b (cls f)) : σ.2.1 f b = ((adN σ f b : Nat) : Int) ∧ AFK (T (adN σ f b)).1 := by
  simp only [List.mem_cons, List.not_mem_nil, or_false] at hf
  rcases hf with rfl | rfl | rfl | rfl | rfl | rfl | rfl | rfl | rfl | rfl | rfl | rfl | rfl | rfl | rfl | rfl | rfl | rfl | rfl | rfl | rfl | rfl | rfl | rfl | rfl | rfl | rfl | rfl | rfl | rfl | rfl | rfl | rfl | rfl | rfl | rfl | rfl | rfl | rfl | rfl | rfl | rfl
  · have z := ad_ex (Q := fun x => (208 ≤ (T x).2 ∧ (T x).2 ≤ 2600) ∧ ((T b).1 = 50 → (T x).1 = 1) ∧ ((T b).1 ≠ 50 → (T x).1 = 13)) (hw.1 5 b (by decide) ob)
    refine ⟨z.1, ?_⟩
    have z2 := z.2.2
    unfold AFK
    omega
  · have z := ad_ex (Q := fun x => AR T x 1 12 12) (hw.1 11 b (by decide) ob)
    exact ⟨z.1, by have z2 := z.2.1; unfold AFK; omega⟩
  · have z := ad_ex (Q := fun x => AR T x 1 12 12) (hw.1 12 b (by decide) ob)
    exact ⟨z.1, by have z2 := z.2.1; unfold AFK; omega⟩
  · have z := ad_ex (Q := fun x => AR T x 1 12 12) (hw.1 13 b (by decide) ob)
    exact ⟨z.1, by have z2 := z.2.1; unfold AFK; omega⟩
  · have z := ad_ex (Q := fun x => AR T x 11 12 12) (hw.1 14 b (by decide) ob)
    exact ⟨z.1, by have z2 := z.2.1; unfold AFK; omega⟩
  · have z := ad_ex (Q := fun x => AR T x 1 144 144) (hw.1 15 b (by decide) ob)
    exact ⟨z.1, by have z2 := z.2.1; unfold AFK; omega⟩
  · have z := ad_ex (Q := fun x => AR T x 1 13 13) (hw.1 16 b (by decide) ob)
    exact ⟨z.1, by have z2 := z.2.1; unfold AFK; omega⟩
  · have z := ad_ex (Q := fun x => AR T x 3 603 603) (hw.1 18 b (by decide) ob)
    exact ⟨z.1, by have z2 := z.2.1; unfold AFK; omega⟩
  · have z := ad_ex (Q := fun x => AR T x 3 3 3) (hw.1 19 b (by decide) ob)
    exact ⟨z.1, by have z2 := z.2.1; unfold AFK; omega⟩
  · have z := ad_ex (Q := fun x => AR T x 1 201 201) (hw.1 20 b (by decide) ob)
    exact ⟨z.1, by have z2 := z.2.1; unfold AFK; omega⟩
  · have z := ad_ex (Q := fun x => AR T x 1 201 201) (hw.1 21 b (by decide) ob)
    exact ⟨z.1, by have z2 := z.2.1; unfold AFK; omega⟩
  · have z := ad_ex (Q := fun x => AR T x 1 8 8) (hw.1 24 b (by decide) ob)
    exact ⟨z.1, by have z2 := z.2.1; unfold AFK; omega⟩
  · have z := ad_ex (Q := fun x => AR T x 16 256 256) (hw.1 36 b (by decide) ob)
    exact ⟨z.1, by have z2 := z.2.1; unfold AFK; omega⟩
  · have z := ad_ex (Q := fun x => AR T x 17 256 256) (hw.1 37 b (by decide) ob)
    exact ⟨z.1, by have z2 := z.2.1; unfold AFK; omega⟩
  · have z := ad_ex (Q := fun x => AR T x 18 256 256) (hw.1 39 b (by decide) ob)
    exact ⟨z.1, by have z2 := z.2.1; unfold AFK; omega⟩
  · have z := ad_ex (Q := fun x => AR T x 19 256 256) (hw.1 40 b (by decide) ob)
    exact ⟨z.1, by have z2 := z.2.1; unfold AFK; omega⟩
  · have z := ad_ex (Q := fun x => AR T x 20 256 256) (hw.1 41 b (by decide) ob)
    exact ⟨z.1, by have z2 := z.2.1; unfold AFK; omega⟩
  · have z := ad_ex (Q := fun x => AR T x 21 12 12) (hw.1 48 b (by decide) ob)
    exact ⟨z.1, by have z2 := z.2.1; unfold AFK; omega⟩
  · have z := ad_ex (Q := fun x => AR T x 1 8 8) (hw.1 49 b (by decide) ob)
    exact ⟨z.1, by have z2 := z.2.1; unfold AFK; omega⟩
  · have z := ad_ex (Q := fun x => AR T x 1 192 192) (hw.1 52 b (by decide) ob)
    exact ⟨z.1, by have z2 := z.2.1; unfold AFK; omega⟩
  · have z := ad_ex (Q := fun x => AR T x 1 192 192) (hw.1 53 b (by decide) ob)
    exact ⟨z.1, by have z2 := z.2.1; unfold AFK; omega⟩
  · have z := ad_ex (Q := fun x => AR T x 3 3 3) (hw.1 54 b (by decide) ob)
    exact ⟨z.1, by have z2 := z.2.1; unfold AFK; omega⟩
  · have z := ad_ex (Q := fun x => AR T x 15 9 9) (hw.1 59 b (by decide) ob)
    exact ⟨z.1, by have z2 := z.2.1; unfold AFK; omega⟩
  · have z := ad_ex (Q := fun x => AR T x 1 9 9) (hw.1 60 b (by decide) ob)
    exact ⟨z.1, by have z2 := z.2.1; unfold AFK; omega⟩
  · have z := ad_ex (Q := fun x => (T x).2 = 9 ∧ ((T b).1 = 57 → (T x).1 = 14) ∧ ((T b).1 ≠ 57 → (T x).1 = 1)) (hw.1 61 b (by decide) ob)
    refine ⟨z.1, ?_⟩
    have z2 := z.2.2
    unfold AFK
    omega
  · have z := ad_ex (Q := fun x => AR T x 1 108 108) (hw.1 62 b (by decide) ob)
    exact ⟨z.1, by have z2 := z.2.1; unfold AFK; omega⟩
  · have z := ad_ex (Q := fun x => AR T x 1 1728 1728) (hw.1 63 b (by decide) ob)
    exact ⟨z.1, by have z2 := z.2.1; unfold AFK; omega⟩
  · have z := ad_ex (Q := fun x => AR T x 1 200 200) (hw.1 64 b (by decide) ob)
    exact ⟨z.1, by have z2 := z.2.1; unfold AFK; omega⟩
  · have z := ad_ex (Q := fun x => AR T x 3 576 576) (hw.1 73 b (by decide) ob)
    exact ⟨z.1, by have z2 := z.2.1; unfold AFK; omega⟩
  · have z := ad_ex (Q := fun x => AR T x 3 3 3) (hw.1 74 b (by decide) ob)
    exact ⟨z.1, by have z2 := z.2.1; unfold AFK; omega⟩
  · have z := ad_ex (Q := fun x => AR T x 1 192 192) (hw.1 75 b (by decide) ob)
    exact ⟨z.1, by have z2 := z.2.1; unfold AFK; omega⟩
  · have z := ad_ex (Q := fun x => AR T x 3 576 576) (hw.1 76 b (by decide) ob)
    exact ⟨z.1, by have z2 := z.2.1; unfold AFK; omega⟩
  · have z := ad_ex (Q := fun x => AR T x 3 603 603) (hw.1 77 b (by decide) ob)
    exact ⟨z.1, by have z2 := z.2.1; unfold AFK; omega⟩
  · have z := ad_ex (Q := fun x => AR T x 1 201 201) (hw.1 78 b (by decide) ob)
    exact ⟨z.1, by have z2 := z.2.1; unfold AFK; omega⟩
  · have z := ad_ex (Q := fun x => AR T x 3 3 3) (hw.1 79 b (by decide) ob)
    exact ⟨z.1, by have z2 := z.2.1; unfold AFK; omega⟩
  · have z := ad_ex (Q := fun x => AR T x 12 1201 1201) (hw.1 81 b (by decide) ob)
    exact ⟨z.1, by have z2 := z.2.1; unfold AFK; omega⟩
  · have z := ad_ex (Q := fun x => AR T x 22 1201 1201) (hw.1 82 b (by decide) ob)
    exact ⟨z.1, by have z2 := z.2.1; unfold AFK; omega⟩
  · have z := ad_ex (Q := fun x => AR T x 23 1201 1201) (hw.1 83 b (by decide) ob)
    exact ⟨z.1, by have z2 := z.2.1; unfold AFK; omega⟩
  · have z := ad_ex (Q := fun x => AR T x 1 6 6) (hw.1 89 b (by decide) ob)
    exact ⟨z.1, by have z2 := z.2.1; unfold AFK; omega⟩
  · have z := ad_ex (Q := fun x => AR T x 1 200 200) (hw.1 90 b (by decide) ob)
    exact ⟨z.1, by have z2 := z.2.1; unfold AFK; omega⟩
  · have z := ad_ex (Q := fun x => AR T x 1 145 145) (hw.1 91 b (by decide) ob)
    exact ⟨z.1, by have z2 := z.2.1; unfold AFK; omega⟩
  · have z := ad_ex (Q := fun x => AR T x 2 1200 1200) (hw.1 95 b (by decide) ob)
    exact ⟨z.1, by have z2 := z.2.1; unfold AFK; omega⟩
def FIN (T : CT) (b : Nat) : Prop := 30 ≤ (T b).1 ∧ (T b).1 < 80
abbrev INJT (S0 : Nat → Prop) (T : CT) (σ : MS) : Prop := INJ (fun b => FIN T b ∧ S0 b) T σ
def FRN (T0 T : CT) (σ : MS) : Prop := ∀ f (b : Nat), f ∈ AFL → FIN T b → ¬ FIN T0 b → OB T b (cls f) → (T0 (adN σ f b)).1 = 0
def UNF (a ci y : Nat) (T : CT) (σ : MS) : Prop := ∀ f, f ∈ AFL → (∀ b : Nat, FIN T b → OB T b (cls f) → adN σ f b ≠ y) ∧ (cls f = ci → 0 ≤ σ.2.1 f a → adN σ f a ≠ y)
def CXJ (S0 : Nat → Prop) (a ci : Nat) (T0 T : CT) (σ : MS) : Prop := INJT S0 T σ ∧ FRN T0 T σ ∧ (∀ f, f ∈ AFL → cls f = ci → 0 ≤ σ.2.1 f a → ((T (adN σ f a)).1 ≠ 0 ∧ (T (adN σ f a)).1 < 80) ∧ (T0 (adN σ f a)).1 = 0) ∧ (∀ f g, f ∈ AFL → g ∈ AFL → cls f = ci → cls g = ci → 0 ≤ σ.2.1 f a → 0 ≤ σ.2.1 g a → adN σ f a = adN σ g a → f = g) ∧ ∀ f, f ∈ AFL → cls f = ci → 0 ≤ σ.2.1 f a → ∀ g (b : Nat), g ∈ AFL → FIN T b → OB T b (cls g) → adN σ g b ≠ adN σ f a
section CXJS
variable {S0 : Nat → Prop} {T T0 T2 : CT} {σ σ2 σ0 : MS} {a x y k N n ci cj : Nat} {v z : Int}
theorem afl_lt {f : Nat} (hf : f ∈ AFL) : f < 96 ∧ 5 ≤ f := by simp only [List.mem_cons, List.not_mem_nil, or_false] at hf; omega
theorem CXJ.begin (hr : T a = (80 + ci, 0)) (hd : ∀ f, f ∈ AFL → cls f = ci → σ.2.1 f a = -1) (hi : INJT S0 T σ) : CXJ S0 a ci T T σ := ⟨hi, fun f b _ h1 h2 => absurd h1 h2, fun f hf hc h => absurd (hd f hf hc) (by omega), fun f g hf _ hc _ h => absurd (hd f hf hc) (by omega), fun f hf hc h => absurd (hd f hf hc) (by omega)⟩
theorem CXJ.mv (h : CXJ S0 a ci T0 T σ) (hw : WTn T σ) (fin : ∀ b, FIN T2 b → FIN T b) (tf : ∀ b, FIN T b → T2 b = T b) (ta : ∀ y, (T y).1 ≠ 0 → (T y).1 < 80 → T2 y = T y) (kf : ∀ f (b : Nat), f ∈ AFL → (FIN T b ∨ b = a) → σ2.2.1 f b = σ.2.1 f b) : CXJ S0 a ci T0 T2 σ2 := by
  obtain ⟨h1, h2, h3, h4, h5⟩ := h
  have ad : ∀ f (b : Nat), f ∈ AFL → (FIN T b ∨ b = a) → adN σ2 f b = adN σ f b := fun f b hf hb => by unfold adN; rw [kf f b hf hb]
  have ob : ∀ b c, FIN T2 b → OB T2 b c → OB T b c := fun b c fb o => by unfold OB at o ⊢; rw [tf b (fin b fb)] at o; exact o
  refine ⟨⟨fun b sb => sb.1, fun f g b c hf hg sb sc oa oc e => ?_⟩, fun f b hf h6 h7 o => ?_, fun f hf hc h6 => ?_, fun f g hf hg hc hc2 h6 h7 e => ?_, fun f hf hc h6 g b hg fb o => ?_⟩
  · rw [ad f b hf (Or.inl (fin b sb.1)), ad g c hg (Or.inl (fin c sc.1))] at e
    exact h1.2 f g b c hf hg ⟨fin b sb.1, sb.2⟩ ⟨fin c sc.1, sc.2⟩ (ob b _ sb.1 oa) (ob c _ sc.1 oc) e
  · rw [ad f b hf (Or.inl (fin b h6))]
    exact h2 f b hf (fin b h6) h7 (ob b _ h6 o)
  · rw [kf f a hf (Or.inr rfl)] at h6
    rw [ad f a hf (Or.inr rfl)]
    have w := h3 f hf hc h6
    rw [ta _ w.1.1 w.1.2]
    exact w
  · rw [kf f a hf (Or.inr rfl)] at h6
    rw [kf g a hg (Or.inr rfl)] at h7
    rw [ad f a hf (Or.inr rfl), ad g a hg (Or.inr rfl)] at e
    exact h4 f g hf hg hc hc2 h6 h7 e
  · rw [kf f a hf (Or.inr rfl)] at h6
    rw [ad f a hf (Or.inr rfl), ad g b hg (Or.inl (fin b fb))]
    exact h5 f hf hc h6 g b hg (fin b fb) (ob b _ fb o)
theorem CXJ.new (h : CXJ S0 a ci T0 T σ) (hr : T a = (80 + ci, 0)) (hw : WTn T σ) (hx : (T x).1 = 0) (hk : (T2 x).1 < 30 ∨ 80 ≤ (T2 x).1) (hT : ∀ b, b ≠ x → T2 b = T b) (hf : ∀ n (c : Nat), n < 200 → c ≠ x → σ2.2.1 n (c : Int) = σ.2.1 n c) : CXJ S0 a ci T0 T2 σ2 ∧ UNF a ci x T2 σ2 := by
  have ax : a ≠ x := fun e => by rw [← e, hr] at hx; exact absurd hx (by show ¬ 80 + ci = 0; omega)
  have fx : ∀ b, FIN T b → b ≠ x := fun b fb e => by have := fb.1; rw [e] at this; omega
  have fin : ∀ b, FIN T2 b → FIN T b := fun b fb => by
    by_cases e : b = x
    · have w1 := fb.1; have w2 := fb.2; rw [e] at w1 w2; omega
    · unfold FIN at fb ⊢; rw [hT b e] at fb; exact fb
  have kf : ∀ f (b : Nat), f ∈ AFL → (FIN T b ∨ b = a) → σ2.2.1 f b = σ.2.1 f b := fun f b hf' hb => hf f b (by have := afl_lt hf'; omega) (hb.elim (fx b) (fun e => by rw [e]; exact ax))
  refine ⟨h.mv hw fin (fun b fb => hT b (fx b fb)) (fun y y0 _ => hT y (fun e => y0 (by rw [e]; exact hx))) kf, fun f hf' => ⟨fun b fb ob e => ?_, fun hc h6 e => ?_⟩⟩
  · have fb' := fin b fb
    have ob' : OB T b (cls f) := by unfold OB at ob ⊢; rw [hT b (fx b fb')] at ob; exact ob
    have w := (af_kn hw hf' ob').2
    have e2 : adN σ2 f b = adN σ f b := by unfold adN; rw [kf f b hf' (Or.inl fb')]
    rw [← e2, e] at w
    unfold AFK at w
    omega
  · have k := kf f a hf' (Or.inr rfl)
    rw [k] at h6
    have w := (h.2.2.1 f hf' hc h6).1.1
    have e2 : adN σ2 f a = adN σ f a := by unfold adN; rw [k]
    rw [← e2, e] at w
    exact w hx
theorem CXJ.put (h : CXJ S0 a ci T0 T σ) (hr : T a = (80 + ci, 0)) (hw : WTn T σ) (hn : n ∉ AFL) : CXJ S0 a ci T0 T (sA n a v σ) := h.mv hw (fun _ f => f) (fun _ _ => rfl) (fun _ _ _ => rfl) (fun f b hf _ => by rw [sA_k (fun e => hn (by rw [← e]; exact hf))])
theorem fin_a (hr : T a = (80 + ci, 0)) : ¬ FIN T a := fun f => by have := f.2; rw [hr] at this; exact absurd this (by show ¬ 80 + ci < 80; omega)
theorem CXJ.putA (h : CXJ S0 a ci T0 T σ) (hr : T a = (80 + ci, 0)) (hn : n ∈ AFL) (hc : cls n = ci) (un : UNF a ci y T σ) (hy : (T y).1 ≠ 0 ∧ (T y).1 < 80) (h0 : (T0 y).1 = 0) : CXJ S0 a ci T0 T (sA n a (y : Int) σ) := by
  obtain ⟨h1, h2, h3, h4, h5⟩ := h
  have fb : ∀ f (b : Nat), FIN T b → (sA n a (y : Int) σ).2.1 f b = σ.2.1 f b := fun f b hb => sA_ne (fun e => by
    have e2 : b = a := by omega
    rw [e2] at hb; exact fin_a hr hb)
  have ad : ∀ f (b : Nat), FIN T b → adN (sA n a (y : Int) σ) f b = adN σ f b := fun f b hb => by unfold adN; rw [fb f b hb]
  have an : adN (sA n a (y : Int) σ) n a = y := by unfold adN; rw [show (sA n a (y : Int) σ).2.1 n a = (y : Int) from ra_eq]; exact Int.toNat_natCast y
  have ao : ∀ f, f ≠ n → (sA n a (y : Int) σ).2.1 f a = σ.2.1 f a := fun f hf => by rw [sA_k hf]
  have ado : ∀ f, f ≠ n → adN (sA n a (y : Int) σ) f a = adN σ f a := fun f hf => by unfold adN; rw [ao f hf]
  refine ⟨⟨fun b sb => sb.1, fun f g b c hf hg sb sc oa oc e => ?_⟩, fun f b hf h6 h7 o => ?_, fun f hf hcf h6 => ?_, fun f g hf hg hcf hcg h6 h7 e => ?_, fun f hf hcf h6 g b hg hb o => ?_⟩
  · rw [ad f b sb.1, ad g c sc.1] at e; exact h1.2 f g b c hf hg sb sc oa oc e
  · rw [ad f b h6]; exact h2 f b hf h6 h7 o
  · by_cases e : f = n
    · rw [e, an]; exact ⟨hy, h0⟩
    · rw [ao f e] at h6; rw [ado f e]; exact h3 f hf hcf h6
  · by_cases e1 : f = n
    · by_cases e2 : g = n
      · rw [e1, e2]
      · rw [e1, an, ado g e2] at e
        rw [ao g e2] at h7
        exact absurd e.symm ((un g hg).2 hcg h7)
    · by_cases e2 : g = n
      · rw [e2, an, ado f e1] at e
        rw [ao f e1] at h6
        exact absurd e ((un f hf).2 hcf h6)
      · rw [ado f e1, ado g e2] at e
        rw [ao f e1] at h6
        rw [ao g e2] at h7
        exact h4 f g hf hg hcf hcg h6 h7 e
  · rw [ad g b hb]
    by_cases e1 : f = n
    · rw [e1, an]; exact (un g hg).1 b hb o
    · rw [ado f e1]
      rw [ao f e1] at h6
      exact h5 f hf hcf h6 g b hg hb o
theorem UNF.put (h : UNF a ci y T σ) (hr : T a = (80 + ci, 0)) (hn : n ∉ AFL) : UNF a ci y T (sA n a v σ) := fun f hf => by
  have e : ∀ b : Nat, (sA n a v σ).2.1 f b = σ.2.1 f b := fun b => by rw [sA_k (fun e => hn (by rw [← e]; exact hf))]
  have ad : ∀ b, adN (sA n a v σ) f b = adN σ f b := fun b => by unfold adN; rw [e b]
  exact ⟨fun b fb ob => by rw [ad b]; exact (h f hf).1 b fb ob, fun hc h6 => by rw [ad a]; rw [e a] at h6; exact (h f hf).2 hc h6⟩
theorem CXJ.row (h : CXJ S0 a ci T0 T σ) (hw : WTn T σ) : CXJ S0 a ci T0 T (sA (1000 + x) z v σ) := h.mv hw (fun _ f => f) (fun _ _ => rfl) (fun _ _ _ => rfl) (fun f b hf _ => by rw [sA_k (by have := afl_lt hf; omega)])
theorem CXJ.tagQ (h : CXJ S0 a ci T0 T σ) (hw : WTn T σ) (hx : 80 ≤ (T x).1) (hk : k < 30) : CXJ S0 a ci T0 (tT T x k N) σ := by
  have fin : ∀ b, FIN (tT T x k N) b → FIN T b := fun b fb => by
    by_cases e : b = x
    · have w1 := fb.1; rw [e, tT_eq] at w1; have w2 : 30 ≤ k := w1; omega
    · unfold FIN at fb ⊢; rw [tT_ne e] at fb; exact fb
  exact h.mv hw fin (fun b fb => tT_ne (fun e => by have := fb.2; rw [e] at this; omega)) (fun y _ y1 => tT_ne (fun e => by rw [e] at y1; omega)) (fun _ _ _ _ => rfl)
theorem CXJ.call (h : CXJ S0 a ci T0 T σ) (hr : T a = (80 + ci, 0)) (hw : WTn T σ) (k0 : KPx a T0 σ0 T σ) (ax : a ≠ x) (kp : KPx x T σ T2 σ2) (hx : 80 ≤ (T x).1) (i2 : INJT S0 T2 σ2) (f2 : FRN T T2 σ2) : CXJ S0 a ci T0 T2 σ2 := by
  obtain ⟨h1, h2, h3, h4, h5⟩ := h
  have ka := kp.1 a (by rw [hr]; show 80 + ci ≠ 0; omega) ax
  have fa : ∀ f, f ∈ AFL → σ2.2.1 f a = σ.2.1 f a := fun f hf => ka.2.1 f (by have := afl_lt hf; omega)
  have ada : ∀ f, f ∈ AFL → adN σ2 f a = adN σ f a := fun f hf => by unfold adN; rw [fa f hf]
  have fo : ∀ b, FIN T b → b ≠ x := fun b fb e => by have q := fb.2; rw [e] at q; omega
  have kb : ∀ b, FIN T b → T2 b = T b ∧ ∀ f, f ∈ AFL → adN σ2 f b = adN σ f b := fun b fb => by
    have w := kp.1 b (by have := fb.1; omega) (fo b fb)
    exact ⟨w.1, fun f hf => by unfold adN; rw [w.2.1 f (by have := afl_lt hf; omega)]⟩
  have t0 : ∀ y, (T y).1 = 0 → (T0 y).1 = 0 := fun y hy => by
    by_cases c : (T0 y).1 = 0
    · exact c
    · by_cases ya : y = a
      · rw [ya, hr] at hy; exact absurd hy (by show ¬ 80 + ci = 0; omega)
      · have w := (k0.1 y c ya).1
        rw [w] at hy; exact hy
  have ob : ∀ b c, FIN T b → OB T2 b c → OB T b c := fun b c fb o => by unfold OB at o ⊢; rw [(kb b fb).1] at o; exact o
  refine ⟨i2, fun f b hf h6 h7 o => ?_, fun f hf hc h6 => ?_, fun f g hf hg hc hc2 h6 h7 e => ?_, fun f hf hc h6 g b hg fb o => ?_⟩
  · by_cases c : FIN T b
    · rw [(kb b c).2 f hf]; exact h2 f b hf c h7 (ob b _ c o)
    · exact t0 _ (f2 f b hf h6 c o)
  · rw [fa f hf] at h6
    rw [ada f hf]
    have w := h3 f hf hc h6
    rw [(kp.1 _ w.1.1 (fun e => by have q := w.1.2; rw [e] at q; omega)).1]
    exact w
  · rw [fa f hf] at h6
    rw [fa g hg] at h7
    rw [ada f hf, ada g hg] at e
    exact h4 f g hf hg hc hc2 h6 h7 e
  · rw [fa f hf] at h6
    rw [ada f hf]
    by_cases c : FIN T b
    · rw [(kb b c).2 g hg]; exact h5 f hf hc h6 g b hg c (ob b _ c o)
    · intro e
      have w := f2 g b hg fb c o
      rw [e] at w
      exact (h3 f hf hc h6).1.1 w
theorem CXJ.fin (h : CXJ S0 a ci T0 T σ) (hr : T a = (80 + ci, 0)) (hk : 30 ≤ k ∧ k < 80 ∧ kC k = ci) (hn : ∀ f, f ∈ AFL → cls f = ci → 0 ≤ σ.2.1 f a) : INJT S0 (tT T a k 0) σ ∧ FRN T0 (tT T a k 0) σ := by
  obtain ⟨h1, h2, h3, h4, h5⟩ := h
  have ta : tT T a k 0 a = (k, 0) := tT_eq
  have fin : ∀ b, b ≠ a → FIN (tT T a k 0) b → FIN T b := fun b e fb => by unfold FIN at fb ⊢; rw [tT_ne e] at fb; exact fb
  have ob : ∀ b c, b ≠ a → OB (tT T a k 0) b c → OB T b c := fun b c e o => by unfold OB at o ⊢; rw [tT_ne e] at o; exact o
  have oa : ∀ c, OB (tT T a k 0) a c → c = ci := fun c o => by have w := o.2.1; rw [ta] at w; rw [← hk.2.2]; exact w.symm
  refine ⟨⟨fun b sb => sb.1, fun f g b c hf hg sb sc o1 o2 e => ?_⟩, fun f b hf h6 h7 o => ?_⟩
  · by_cases eb : b = a
    · by_cases ec : c = a
      · subst eb; subst ec
        exact ⟨h4 f g hf hg (oa _ o1) (oa _ o2) (hn f hf (oa _ o1)) (hn g hg (oa _ o2)) e, rfl⟩
      · rw [eb] at e o1
        exact absurd e.symm (h5 f hf (oa _ o1) (hn f hf (oa _ o1)) g c hg (fin c ec sc.1) (ob c _ ec o2))
    · by_cases ec : c = a
      · rw [ec] at e o2
        exact absurd e (h5 g hg (oa _ o2) (hn g hg (oa _ o2)) f b hf (fin b eb sb.1) (ob b _ eb o1))
      · exact h1.2 f g b c hf hg ⟨fin b eb sb.1, sb.2⟩ ⟨fin c ec sc.1, sc.2⟩ (ob b _ eb o1) (ob c _ ec o2) e
  · by_cases eb : b = a
    · rw [eb] at o ⊢
      exact (h3 f hf (oa _ o) (hn f hf (oa _ o))).2
    · exact h2 f b hf (fin b eb h6) h7 (ob b _ eb o)
end CXJS
end
section
set_option maxHeartbeats 1000000 in
set_option maxRecDepth 20000 in
theorem kj_X1_init_31 (d : Nat) {T : CT} {σ : MS} {a : Nat} {K : List Nat} (hraw : T a = (80 + 1, 0)) (hb : WTn T σ) (hcd : CD K T) (hdf : ∀ j, j < 200 → σ.2.1 j (a : Int) = dfF j) {S0 : Nat → Prop} (hij : INJT S0 T σ) : Tn (d + 1) m_X1_init 0 T σ [(0, .ref a)] [] (fun ro T2 σ2 => ro = none ∧ T2 a = (31, 0) ∧ WTn T2 σ2 ∧ CD (a :: K) T2 ∧ KPx a T σ T2 σ2 ∧ σ2.1 0 = σ.1 0 + (413 : Nat) ∧ σ2.1 1 = σ.1 1 + (7 : Nat) ∧ INJT S0 T2 σ2 ∧ FRN T T2 σ2 ∧ NX 7 a T T2 ∧ NX 41 a T T2) := by
  have cx0 : CX a 1 K 0 0 T σ T σ := CX.begin hraw hb hcd
  have cj : CXJ S0 a 1 T T σ := CXJ.begin hraw (fun f9 h9 c9 => (hdf f9 (by have := afl_lt h9; omega)).trans ((by decide : ∀ f ∈ AFL, dfF f = -1) f9 h9)) hij
  have nx7 : NX 7 a T T := NX.begin (by decide)
  have nx41 : NX 41 a T T := NX.begin (by decide)
  have f5 : σ.2.1 5 a = -1 := (hdf 5 (by decide)).trans (by decide)
  have f6 : σ.2.1 6 a = 0 := (hdf 6 (by decide)).trans (by decide)
  have f7 : σ.2.1 7 a = 0 := (hdf 7 (by decide)).trans (by decide)
  have f8 : σ.2.1 8 a = 0 := (hdf 8 (by decide)).trans (by decide)
  have f9 : σ.2.1 9 a = 0 := (hdf 9 (by decide)).trans (by decide)
  have f10 : σ.2.1 10 a = 0 := (hdf 10 (by decide)).trans (by decide)
  have f11 : σ.2.1 11 a = -1 := (hdf 11 (by decide)).trans (by decide)
  have f12 : σ.2.1 12 a = -1 := (hdf 12 (by decide)).trans (by decide)
  have f13 : σ.2.1 13 a = -1 := (hdf 13 (by decide)).trans (by decide)
  have f14 : σ.2.1 14 a = -1 := (hdf 14 (by decide)).trans (by decide)
  have f15 : σ.2.1 15 a = -1 := (hdf 15 (by decide)).trans (by decide)
  have f16 : σ.2.1 16 a = -1 := (hdf 16 (by decide)).trans (by decide)
  refine tn_aload_n dX1_init_0 rfl 0 rfl ?_
  refine tn_objInit dX1_init_1 mlo1_3 oiI oiC (by omega) (Nat.le_of_ble_eq_true rfl) ?_
  refine tn_aload_n dX1_init_4 rfl 0 rfl ?_
  refine tn_sipush dX1_init_5 (by decide) ?_
  refine tn_newI (N := 208) (k := 13) dX1_init_8 arC_int (by decide) rfl (by decide) (fun x1 hx2 => ?_)
  have ne3 := cx0.ne hx2
  have ne3z := (cx0.fresh hx2).resolve_right (fun e => ne3 e.symm)
  have ne3j := CXJ.new (T2 := (tT T x1 13 208)) (σ2 := (rowS (1000 + x1) (fun _ => 0) (gh 208 σ))) cj cx0.1 cx0.2.1 hx2 (by rw [tT_eq]; decide) (fun b9 e9 => tT_ne e9) (fun n9 c9 hn9 hc9 => by rw [rowS_ne (by omega)]; rfl)
  obtain ⟨T4, σ5, eT6, eS7, cx8, f5, f6, f7, f8, f9, f10, f11, f12, f13, f14, f15, f16, o9, nx7, nx41, cj, un⟩ : ∃ (T4 : CT) (σ5 : MS), T4 = (tT T x1 13 208) ∧ σ5 = (rowS (1000 + x1) (fun _ => 0) (gh 208 σ)) ∧ CX a 1 K 208 1 T σ T4 σ5 ∧ (σ5.2.1 5 a = -1) ∧ (σ5.2.1 6 a = 0) ∧ (σ5.2.1 7 a = 0) ∧ (σ5.2.1 8 a = 0) ∧ (σ5.2.1 9 a = 0) ∧ (σ5.2.1 10 a = 0) ∧ (σ5.2.1 11 a = -1) ∧ (σ5.2.1 12 a = -1) ∧ (σ5.2.1 13 a = -1) ∧ (σ5.2.1 14 a = -1) ∧ (σ5.2.1 15 a = -1) ∧ (σ5.2.1 16 a = -1) ∧ (T4 x1 = (13, 208)) ∧ NX 7 a T T4 ∧ NX 41 a T T4 ∧ CXJ S0 a 1 T T4 σ5 ∧ UNF a 1 x1 T4 σ5 := ⟨_, _, rfl, rfl, (cx0.newI hx2 (by decide)), (by rw [rowS_ne (by omega)]; exact f5), (by rw [rowS_ne (by omega)]; exact f6), (by rw [rowS_ne (by omega)]; exact f7), (by rw [rowS_ne (by omega)]; exact f8), (by rw [rowS_ne (by omega)]; exact f9), (by rw [rowS_ne (by omega)]; exact f10), (by rw [rowS_ne (by omega)]; exact f11), (by rw [rowS_ne (by omega)]; exact f12), (by rw [rowS_ne (by omega)]; exact f13), (by rw [rowS_ne (by omega)]; exact f14), (by rw [rowS_ne (by omega)]; exact f15), (by rw [rowS_ne (by omega)]; exact f16), tT_eq, (nx7.mk9 (by decide)), (nx41.mk9 (by decide)), ne3j.1, ne3j.2⟩
  rw [← eT6]
  rw [← eS7]
  refine tn_putVr (ci := 1) (i := 0) (n := 5) (r := true) (v := (x1 : Int)) tyX1 tyX1_ok nmX1 dX1_init_10 rfl lay_1 (by decide) fl1_9 rfl (tyX1_ok 0 (by decide)) (vl_ref rfl).symm rfl rfl (cx8.r (by decide)) rfl rfl ?_
  obtain ⟨σ11, eS13, cx14, f5, f6, f7, f8, f9, f10, f11, f12, f13, f14, f15, f16, cj⟩ : ∃ (σ11 : MS), σ11 = (sA 5 a ((x1 : Int)) σ5) ∧ CX a 1 K 208 1 T σ T4 σ11 ∧ (σ11.2.1 5 a = (x1 : Int)) ∧ (σ11.2.1 6 a = 0) ∧ (σ11.2.1 7 a = 0) ∧ (σ11.2.1 8 a = 0) ∧ (σ11.2.1 9 a = 0) ∧ (σ11.2.1 10 a = 0) ∧ (σ11.2.1 11 a = -1) ∧ (σ11.2.1 12 a = -1) ∧ (σ11.2.1 13 a = -1) ∧ (σ11.2.1 14 a = -1) ∧ (σ11.2.1 15 a = -1) ∧ (σ11.2.1 16 a = -1) ∧ CXJ S0 a 1 T T4 σ11 := ⟨_, rfl, (cx8.put (by decide)), ra_eq, (rc_o (by decide) f6), (rc_o (by decide) f7), (rc_o (by decide) f8), (rc_o (by decide) f9), (rc_o (by decide) f10), (rc_o (by decide) f11), (rc_o (by decide) f12), (rc_o (by decide) f13), (rc_o (by decide) f14), (rc_o (by decide) f15), (rc_o (by decide) f16), (CXJ.putA cj cx8.1 (by decide) rfl un (by rw [o9]; decide) ne3z)⟩
  rw [← eS13]
  refine tn_aload_n dX1_init_13 rfl 0 rfl ?_
  refine tn_bipush dX1_init_14 (by decide) ?_
  refine tn_newI (N := 12) (k := 1) dX1_init_16 arC_int (by decide) rfl (by decide) (fun x15 hx16 => ?_)
  have ne17 := cx14.ne hx16
  have ne17z := (cx14.fresh hx16).resolve_right (fun e => ne17 e.symm)
  have ne17j := CXJ.new (T2 := (tT T4 x15 1 12)) (σ2 := (rowS (1000 + x15) (fun _ => 0) (gh 12 σ11))) cj cx14.1 cx14.2.1 hx16 (by rw [tT_eq]; decide) (fun b9 e9 => tT_ne e9) (fun n9 c9 hn9 hc9 => by rw [rowS_ne (by omega)]; rfl)
  obtain ⟨T18, σ19, eT20, eS21, cx22, f5, f6, f7, f8, f9, f10, f11, f12, f13, f14, f15, f16, o23, o24, nx7, nx41, cj, un⟩ : ∃ (T18 : CT) (σ19 : MS), T18 = (tT T4 x15 1 12) ∧ σ19 = (rowS (1000 + x15) (fun _ => 0) (gh 12 σ11)) ∧ CX a 1 K 220 2 T σ T18 σ19 ∧ (σ19.2.1 5 a = (x1 : Int)) ∧ (σ19.2.1 6 a = 0) ∧ (σ19.2.1 7 a = 0) ∧ (σ19.2.1 8 a = 0) ∧ (σ19.2.1 9 a = 0) ∧ (σ19.2.1 10 a = 0) ∧ (σ19.2.1 11 a = -1) ∧ (σ19.2.1 12 a = -1) ∧ (σ19.2.1 13 a = -1) ∧ (σ19.2.1 14 a = -1) ∧ (σ19.2.1 15 a = -1) ∧ (σ19.2.1 16 a = -1) ∧ (T18 x1 = (13, 208)) ∧ (T18 x15 = (1, 12)) ∧ NX 7 a T T18 ∧ NX 41 a T T18 ∧ CXJ S0 a 1 T T18 σ19 ∧ UNF a 1 x15 T18 σ19 := ⟨_, _, rfl, rfl, (cx14.newI hx16 (by decide)), (by rw [rowS_ne (by omega)]; exact f5), (by rw [rowS_ne (by omega)]; exact f6), (by rw [rowS_ne (by omega)]; exact f7), (by rw [rowS_ne (by omega)]; exact f8), (by rw [rowS_ne (by omega)]; exact f9), (by rw [rowS_ne (by omega)]; exact f10), (by rw [rowS_ne (by omega)]; exact f11), (by rw [rowS_ne (by omega)]; exact f12), (by rw [rowS_ne (by omega)]; exact f13), (by rw [rowS_ne (by omega)]; exact f14), (by rw [rowS_ne (by omega)]; exact f15), (by rw [rowS_ne (by omega)]; exact f16), (tk_keep o9 (by decide) hx16), tT_eq, (nx7.mk9 (by decide)), (nx41.mk9 (by decide)), ne17j.1, ne17j.2⟩
  rw [← eT20]
  rw [← eS21]
  refine tn_putFr (ci := 1) (i := 6) (n := 11) (r := true) (v := (x15 : Int)) tyX1 tyX1_ok nmX1 dX1_init_18 rfl lay_1 (by decide) fl1_15 rfl rfl rfl (tyX1_ok 6 (by decide)) (vl_ref rfl).symm rfl rfl (cx22.r (by decide)) rfl rfl ?_
  obtain ⟨σ26, eS28, cx29, f5, f6, f7, f8, f9, f10, f11, f12, f13, f14, f15, f16, cj⟩ : ∃ (σ26 : MS), σ26 = (sA 11 a ((x15 : Int)) σ19) ∧ CX a 1 K 220 2 T σ T18 σ26 ∧ (σ26.2.1 5 a = (x1 : Int)) ∧ (σ26.2.1 6 a = 0) ∧ (σ26.2.1 7 a = 0) ∧ (σ26.2.1 8 a = 0) ∧ (σ26.2.1 9 a = 0) ∧ (σ26.2.1 10 a = 0) ∧ (σ26.2.1 11 a = (x15 : Int)) ∧ (σ26.2.1 12 a = -1) ∧ (σ26.2.1 13 a = -1) ∧ (σ26.2.1 14 a = -1) ∧ (σ26.2.1 15 a = -1) ∧ (σ26.2.1 16 a = -1) ∧ CXJ S0 a 1 T T18 σ26 := ⟨_, rfl, (cx22.put (by decide)), (rc_o (by decide) f5), (rc_o (by decide) f6), (rc_o (by decide) f7), (rc_o (by decide) f8), (rc_o (by decide) f9), (rc_o (by decide) f10), ra_eq, (rc_o (by decide) f12), (rc_o (by decide) f13), (rc_o (by decide) f14), (rc_o (by decide) f15), (rc_o (by decide) f16), (CXJ.putA cj cx22.1 (by decide) rfl un (by rw [o24]; decide) ne17z)⟩
  rw [← eS28]
  refine tn_aload_n dX1_init_21 rfl 0 rfl ?_
  refine tn_bipush dX1_init_22 (by decide) ?_
  refine tn_newI (N := 12) (k := 1) dX1_init_24 arC_int (by decide) rfl (by decide) (fun x30 hx31 => ?_)
  have ne32 := cx29.ne hx31
  have ne32z := (cx29.fresh hx31).resolve_right (fun e => ne32 e.symm)
  have ne32j := CXJ.new (T2 := (tT T18 x30 1 12)) (σ2 := (rowS (1000 + x30) (fun _ => 0) (gh 12 σ26))) cj cx29.1 cx29.2.1 hx31 (by rw [tT_eq]; decide) (fun b9 e9 => tT_ne e9) (fun n9 c9 hn9 hc9 => by rw [rowS_ne (by omega)]; rfl)
  obtain ⟨T33, σ34, eT35, eS36, cx37, f5, f6, f7, f8, f9, f10, f11, f12, f13, f14, f15, f16, o38, o39, o40, nx7, nx41, cj, un⟩ : ∃ (T33 : CT) (σ34 : MS), T33 = (tT T18 x30 1 12) ∧ σ34 = (rowS (1000 + x30) (fun _ => 0) (gh 12 σ26)) ∧ CX a 1 K 232 3 T σ T33 σ34 ∧ (σ34.2.1 5 a = (x1 : Int)) ∧ (σ34.2.1 6 a = 0) ∧ (σ34.2.1 7 a = 0) ∧ (σ34.2.1 8 a = 0) ∧ (σ34.2.1 9 a = 0) ∧ (σ34.2.1 10 a = 0) ∧ (σ34.2.1 11 a = (x15 : Int)) ∧ (σ34.2.1 12 a = -1) ∧ (σ34.2.1 13 a = -1) ∧ (σ34.2.1 14 a = -1) ∧ (σ34.2.1 15 a = -1) ∧ (σ34.2.1 16 a = -1) ∧ (T33 x1 = (13, 208)) ∧ (T33 x15 = (1, 12)) ∧ (T33 x30 = (1, 12)) ∧ NX 7 a T T33 ∧ NX 41 a T T33 ∧ CXJ S0 a 1 T T33 σ34 ∧ UNF a 1 x30 T33 σ34 := ⟨_, _, rfl, rfl, (cx29.newI hx31 (by decide)), (by rw [rowS_ne (by omega)]; exact f5), (by rw [rowS_ne (by omega)]; exact f6), (by rw [rowS_ne (by omega)]; exact f7), (by rw [rowS_ne (by omega)]; exact f8), (by rw [rowS_ne (by omega)]; exact f9), (by rw [rowS_ne (by omega)]; exact f10), (by rw [rowS_ne (by omega)]; exact f11), (by rw [rowS_ne (by omega)]; exact f12), (by rw [rowS_ne (by omega)]; exact f13), (by rw [rowS_ne (by omega)]; exact f14), (by rw [rowS_ne (by omega)]; exact f15), (by rw [rowS_ne (by omega)]; exact f16), (tk_keep o23 (by decide) hx31), (tk_keep o24 (by decide) hx31), tT_eq, (nx7.mk9 (by decide)), (nx41.mk9 (by decide)), ne32j.1, ne32j.2⟩
  rw [← eT35]
  rw [← eS36]
  refine tn_putFr (ci := 1) (i := 7) (n := 12) (r := true) (v := (x30 : Int)) tyX1 tyX1_ok nmX1 dX1_init_26 rfl lay_1 (by decide) fl1_18 rfl rfl rfl (tyX1_ok 7 (by decide)) (vl_ref rfl).symm rfl rfl (cx37.r (by decide)) rfl rfl ?_
  obtain ⟨σ42, eS44, cx45, f5, f6, f7, f8, f9, f10, f11, f12, f13, f14, f15, f16, cj⟩ : ∃ (σ42 : MS), σ42 = (sA 12 a ((x30 : Int)) σ34) ∧ CX a 1 K 232 3 T σ T33 σ42 ∧ (σ42.2.1 5 a = (x1 : Int)) ∧ (σ42.2.1 6 a = 0) ∧ (σ42.2.1 7 a = 0) ∧ (σ42.2.1 8 a = 0) ∧ (σ42.2.1 9 a = 0) ∧ (σ42.2.1 10 a = 0) ∧ (σ42.2.1 11 a = (x15 : Int)) ∧ (σ42.2.1 12 a = (x30 : Int)) ∧ (σ42.2.1 13 a = -1) ∧ (σ42.2.1 14 a = -1) ∧ (σ42.2.1 15 a = -1) ∧ (σ42.2.1 16 a = -1) ∧ CXJ S0 a 1 T T33 σ42 := ⟨_, rfl, (cx37.put (by decide)), (rc_o (by decide) f5), (rc_o (by decide) f6), (rc_o (by decide) f7), (rc_o (by decide) f8), (rc_o (by decide) f9), (rc_o (by decide) f10), (rc_o (by decide) f11), ra_eq, (rc_o (by decide) f13), (rc_o (by decide) f14), (rc_o (by decide) f15), (rc_o (by decide) f16), (CXJ.putA cj cx37.1 (by decide) rfl un (by rw [o40]; decide) ne32z)⟩
  rw [← eS44]
  refine tn_aload_n dX1_init_29 rfl 0 rfl ?_
  refine tn_bipush dX1_init_30 (by decide) ?_
  refine tn_newI (N := 12) (k := 1) dX1_init_32 arC_int (by decide) rfl (by decide) (fun x46 hx47 => ?_)
  have ne48 := cx45.ne hx47
  have ne48z := (cx45.fresh hx47).resolve_right (fun e => ne48 e.symm)
  have ne48j := CXJ.new (T2 := (tT T33 x46 1 12)) (σ2 := (rowS (1000 + x46) (fun _ => 0) (gh 12 σ42))) cj cx45.1 cx45.2.1 hx47 (by rw [tT_eq]; decide) (fun b9 e9 => tT_ne e9) (fun n9 c9 hn9 hc9 => by rw [rowS_ne (by omega)]; rfl)
  obtain ⟨T49, σ50, eT51, eS52, cx53, f5, f6, f7, f8, f9, f10, f11, f12, f13, f14, f15, f16, o54, o55, o56, o57, nx7, nx41, cj, un⟩ : ∃ (T49 : CT) (σ50 : MS), T49 = (tT T33 x46 1 12) ∧ σ50 = (rowS (1000 + x46) (fun _ => 0) (gh 12 σ42)) ∧ CX a 1 K 244 4 T σ T49 σ50 ∧ (σ50.2.1 5 a = (x1 : Int)) ∧ (σ50.2.1 6 a = 0) ∧ (σ50.2.1 7 a = 0) ∧ (σ50.2.1 8 a = 0) ∧ (σ50.2.1 9 a = 0) ∧ (σ50.2.1 10 a = 0) ∧ (σ50.2.1 11 a = (x15 : Int)) ∧ (σ50.2.1 12 a = (x30 : Int)) ∧ (σ50.2.1 13 a = -1) ∧ (σ50.2.1 14 a = -1) ∧ (σ50.2.1 15 a = -1) ∧ (σ50.2.1 16 a = -1) ∧ (T49 x1 = (13, 208)) ∧ (T49 x15 = (1, 12)) ∧ (T49 x30 = (1, 12)) ∧ (T49 x46 = (1, 12)) ∧ NX 7 a T T49 ∧ NX 41 a T T49 ∧ CXJ S0 a 1 T T49 σ50 ∧ UNF a 1 x46 T49 σ50 := ⟨_, _, rfl, rfl, (cx45.newI hx47 (by decide)), (by rw [rowS_ne (by omega)]; exact f5), (by rw [rowS_ne (by omega)]; exact f6), (by rw [rowS_ne (by omega)]; exact f7), (by rw [rowS_ne (by omega)]; exact f8), (by rw [rowS_ne (by omega)]; exact f9), (by rw [rowS_ne (by omega)]; exact f10), (by rw [rowS_ne (by omega)]; exact f11), (by rw [rowS_ne (by omega)]; exact f12), (by rw [rowS_ne (by omega)]; exact f13), (by rw [rowS_ne (by omega)]; exact f14), (by rw [rowS_ne (by omega)]; exact f15), (by rw [rowS_ne (by omega)]; exact f16), (tk_keep o38 (by decide) hx47), (tk_keep o39 (by decide) hx47), (tk_keep o40 (by decide) hx47), tT_eq, (nx7.mk9 (by decide)), (nx41.mk9 (by decide)), ne48j.1, ne48j.2⟩
  rw [← eT51]
  rw [← eS52]
  refine tn_putFr (ci := 1) (i := 8) (n := 13) (r := true) (v := (x46 : Int)) tyX1 tyX1_ok nmX1 dX1_init_34 rfl lay_1 (by decide) fl1_21 rfl rfl rfl (tyX1_ok 8 (by decide)) (vl_ref rfl).symm rfl rfl (cx53.r (by decide)) rfl rfl ?_
  obtain ⟨σ59, eS61, cx62, f5, f6, f7, f8, f9, f10, f11, f12, f13, f14, f15, f16, cj⟩ : ∃ (σ59 : MS), σ59 = (sA 13 a ((x46 : Int)) σ50) ∧ CX a 1 K 244 4 T σ T49 σ59 ∧ (σ59.2.1 5 a = (x1 : Int)) ∧ (σ59.2.1 6 a = 0) ∧ (σ59.2.1 7 a = 0) ∧ (σ59.2.1 8 a = 0) ∧ (σ59.2.1 9 a = 0) ∧ (σ59.2.1 10 a = 0) ∧ (σ59.2.1 11 a = (x15 : Int)) ∧ (σ59.2.1 12 a = (x30 : Int)) ∧ (σ59.2.1 13 a = (x46 : Int)) ∧ (σ59.2.1 14 a = -1) ∧ (σ59.2.1 15 a = -1) ∧ (σ59.2.1 16 a = -1) ∧ CXJ S0 a 1 T T49 σ59 := ⟨_, rfl, (cx53.put (by decide)), (rc_o (by decide) f5), (rc_o (by decide) f6), (rc_o (by decide) f7), (rc_o (by decide) f8), (rc_o (by decide) f9), (rc_o (by decide) f10), (rc_o (by decide) f11), (rc_o (by decide) f12), ra_eq, (rc_o (by decide) f14), (rc_o (by decide) f15), (rc_o (by decide) f16), (CXJ.putA cj cx53.1 (by decide) rfl un (by rw [o57]; decide) ne48z)⟩
  rw [← eS61]
  refine tn_aload_n dX1_init_37 rfl 0 rfl ?_
  refine tn_bipush dX1_init_38 (by decide) ?_
  refine tn_newI (N := 12) (k := 11) dX1_init_40 arC_int (by decide) rfl (by decide) (fun x63 hx64 => ?_)
  have ne65 := cx62.ne hx64
  have ne65z := (cx62.fresh hx64).resolve_right (fun e => ne65 e.symm)
  have ne65j := CXJ.new (T2 := (tT T49 x63 11 12)) (σ2 := (rowS (1000 + x63) (fun _ => 0) (gh 12 σ59))) cj cx62.1 cx62.2.1 hx64 (by rw [tT_eq]; decide) (fun b9 e9 => tT_ne e9) (fun n9 c9 hn9 hc9 => by rw [rowS_ne (by omega)]; rfl)
  obtain ⟨T66, σ67, eT68, eS69, cx70, f5, f6, f7, f8, f9, f10, f11, f12, f13, f14, f15, f16, o71, o72, o73, o74, o75, nx7, nx41, cj, un⟩ : ∃ (T66 : CT) (σ67 : MS), T66 = (tT T49 x63 11 12) ∧ σ67 = (rowS (1000 + x63) (fun _ => 0) (gh 12 σ59)) ∧ CX a 1 K 256 5 T σ T66 σ67 ∧ (σ67.2.1 5 a = (x1 : Int)) ∧ (σ67.2.1 6 a = 0) ∧ (σ67.2.1 7 a = 0) ∧ (σ67.2.1 8 a = 0) ∧ (σ67.2.1 9 a = 0) ∧ (σ67.2.1 10 a = 0) ∧ (σ67.2.1 11 a = (x15 : Int)) ∧ (σ67.2.1 12 a = (x30 : Int)) ∧ (σ67.2.1 13 a = (x46 : Int)) ∧ (σ67.2.1 14 a = -1) ∧ (σ67.2.1 15 a = -1) ∧ (σ67.2.1 16 a = -1) ∧ (T66 x1 = (13, 208)) ∧ (T66 x15 = (1, 12)) ∧ (T66 x30 = (1, 12)) ∧ (T66 x46 = (1, 12)) ∧ (T66 x63 = (11, 12)) ∧ NX 7 a T T66 ∧ NX 41 a T T66 ∧ CXJ S0 a 1 T T66 σ67 ∧ UNF a 1 x63 T66 σ67 := ⟨_, _, rfl, rfl, (cx62.newI hx64 (by decide)), (by rw [rowS_ne (by omega)]; exact f5), (by rw [rowS_ne (by omega)]; exact f6), (by rw [rowS_ne (by omega)]; exact f7), (by rw [rowS_ne (by omega)]; exact f8), (by rw [rowS_ne (by omega)]; exact f9), (by rw [rowS_ne (by omega)]; exact f10), (by rw [rowS_ne (by omega)]; exact f11), (by rw [rowS_ne (by omega)]; exact f12), (by rw [rowS_ne (by omega)]; exact f13), (by rw [rowS_ne (by omega)]; exact f14), (by rw [rowS_ne (by omega)]; exact f15), (by rw [rowS_ne (by omega)]; exact f16), (tk_keep o54 (by decide) hx64), (tk_keep o55 (by decide) hx64), (tk_keep o56 (by decide) hx64), (tk_keep o57 (by decide) hx64), tT_eq, (nx7.mk9 (by decide)), (nx41.mk9 (by decide)), ne65j.1, ne65j.2⟩
  rw [← eT68]
  rw [← eS69]
  refine tn_putFr (ci := 1) (i := 9) (n := 14) (r := true) (v := (x63 : Int)) tyX1 tyX1_ok nmX1 dX1_init_42 rfl lay_1 (by decide) fl1_24 rfl rfl rfl (tyX1_ok 9 (by decide)) (vl_ref rfl).symm rfl rfl (cx70.r (by decide)) rfl rfl ?_
  obtain ⟨σ77, eS79, cx80, f5, f6, f7, f8, f9, f10, f11, f12, f13, f14, f15, f16, cj⟩ : ∃ (σ77 : MS), σ77 = (sA 14 a ((x63 : Int)) σ67) ∧ CX a 1 K 256 5 T σ T66 σ77 ∧ (σ77.2.1 5 a = (x1 : Int)) ∧ (σ77.2.1 6 a = 0) ∧ (σ77.2.1 7 a = 0) ∧ (σ77.2.1 8 a = 0) ∧ (σ77.2.1 9 a = 0) ∧ (σ77.2.1 10 a = 0) ∧ (σ77.2.1 11 a = (x15 : Int)) ∧ (σ77.2.1 12 a = (x30 : Int)) ∧ (σ77.2.1 13 a = (x46 : Int)) ∧ (σ77.2.1 14 a = (x63 : Int)) ∧ (σ77.2.1 15 a = -1) ∧ (σ77.2.1 16 a = -1) ∧ CXJ S0 a 1 T T66 σ77 := ⟨_, rfl, (cx70.put (by decide)), (rc_o (by decide) f5), (rc_o (by decide) f6), (rc_o (by decide) f7), (rc_o (by decide) f8), (rc_o (by decide) f9), (rc_o (by decide) f10), (rc_o (by decide) f11), (rc_o (by decide) f12), (rc_o (by decide) f13), ra_eq, (rc_o (by decide) f15), (rc_o (by decide) f16), (CXJ.putA cj cx70.1 (by decide) rfl un (by rw [o75]; decide) ne65z)⟩
  rw [← eS79]
  refine tn_aload_n dX1_init_45 rfl 0 rfl ?_
  refine tn_sipush dX1_init_46 (by decide) ?_
  refine tn_newI (N := 144) (k := 1) dX1_init_49 arC_int (by decide) rfl (by decide) (fun x81 hx82 => ?_)
  have ne83 := cx80.ne hx82
  have ne83z := (cx80.fresh hx82).resolve_right (fun e => ne83 e.symm)
  have ne83j := CXJ.new (T2 := (tT T66 x81 1 144)) (σ2 := (rowS (1000 + x81) (fun _ => 0) (gh 144 σ77))) cj cx80.1 cx80.2.1 hx82 (by rw [tT_eq]; decide) (fun b9 e9 => tT_ne e9) (fun n9 c9 hn9 hc9 => by rw [rowS_ne (by omega)]; rfl)
  obtain ⟨T84, σ85, eT86, eS87, cx88, f5, f6, f7, f8, f9, f10, f11, f12, f13, f14, f15, f16, o89, o90, o91, o92, o93, o94, nx7, nx41, cj, un⟩ : ∃ (T84 : CT) (σ85 : MS), T84 = (tT T66 x81 1 144) ∧ σ85 = (rowS (1000 + x81) (fun _ => 0) (gh 144 σ77)) ∧ CX a 1 K 400 6 T σ T84 σ85 ∧ (σ85.2.1 5 a = (x1 : Int)) ∧ (σ85.2.1 6 a = 0) ∧ (σ85.2.1 7 a = 0) ∧ (σ85.2.1 8 a = 0) ∧ (σ85.2.1 9 a = 0) ∧ (σ85.2.1 10 a = 0) ∧ (σ85.2.1 11 a = (x15 : Int)) ∧ (σ85.2.1 12 a = (x30 : Int)) ∧ (σ85.2.1 13 a = (x46 : Int)) ∧ (σ85.2.1 14 a = (x63 : Int)) ∧ (σ85.2.1 15 a = -1) ∧ (σ85.2.1 16 a = -1) ∧ (T84 x1 = (13, 208)) ∧ (T84 x15 = (1, 12)) ∧ (T84 x30 = (1, 12)) ∧ (T84 x46 = (1, 12)) ∧ (T84 x63 = (11, 12)) ∧ (T84 x81 = (1, 144)) ∧ NX 7 a T T84 ∧ NX 41 a T T84 ∧ CXJ S0 a 1 T T84 σ85 ∧ UNF a 1 x81 T84 σ85 := ⟨_, _, rfl, rfl, (cx80.newI hx82 (by decide)), (by rw [rowS_ne (by omega)]; exact f5), (by rw [rowS_ne (by omega)]; exact f6), (by rw [rowS_ne (by omega)]; exact f7), (by rw [rowS_ne (by omega)]; exact f8), (by rw [rowS_ne (by omega)]; exact f9), (by rw [rowS_ne (by omega)]; exact f10), (by rw [rowS_ne (by omega)]; exact f11), (by rw [rowS_ne (by omega)]; exact f12), (by rw [rowS_ne (by omega)]; exact f13), (by rw [rowS_ne (by omega)]; exact f14), (by rw [rowS_ne (by omega)]; exact f15), (by rw [rowS_ne (by omega)]; exact f16), (tk_keep o71 (by decide) hx82), (tk_keep o72 (by decide) hx82), (tk_keep o73 (by decide) hx82), (tk_keep o74 (by decide) hx82), (tk_keep o75 (by decide) hx82), tT_eq, (nx7.mk9 (by decide)), (nx41.mk9 (by decide)), ne83j.1, ne83j.2⟩
  rw [← eT86]
  rw [← eS87]
  refine tn_putFr (ci := 1) (i := 10) (n := 15) (r := true) (v := (x81 : Int)) tyX1 tyX1_ok nmX1 dX1_init_51 rfl lay_1 (by decide) fl1_27 rfl rfl rfl (tyX1_ok 10 (by decide)) (vl_ref rfl).symm rfl rfl (cx88.r (by decide)) rfl rfl ?_
  obtain ⟨σ96, eS98, cx99, f5, f6, f7, f8, f9, f10, f11, f12, f13, f14, f15, f16, cj⟩ : ∃ (σ96 : MS), σ96 = (sA 15 a ((x81 : Int)) σ85) ∧ CX a 1 K 400 6 T σ T84 σ96 ∧ (σ96.2.1 5 a = (x1 : Int)) ∧ (σ96.2.1 6 a = 0) ∧ (σ96.2.1 7 a = 0) ∧ (σ96.2.1 8 a = 0) ∧ (σ96.2.1 9 a = 0) ∧ (σ96.2.1 10 a = 0) ∧ (σ96.2.1 11 a = (x15 : Int)) ∧ (σ96.2.1 12 a = (x30 : Int)) ∧ (σ96.2.1 13 a = (x46 : Int)) ∧ (σ96.2.1 14 a = (x63 : Int)) ∧ (σ96.2.1 15 a = (x81 : Int)) ∧ (σ96.2.1 16 a = -1) ∧ CXJ S0 a 1 T T84 σ96 := ⟨_, rfl, (cx88.put (by decide)), (rc_o (by decide) f5), (rc_o (by decide) f6), (rc_o (by decide) f7), (rc_o (by decide) f8), (rc_o (by decide) f9), (rc_o (by decide) f10), (rc_o (by decide) f11), (rc_o (by decide) f12), (rc_o (by decide) f13), (rc_o (by decide) f14), ra_eq, (rc_o (by decide) f16), (CXJ.putA cj cx88.1 (by decide) rfl un (by rw [o94]; decide) ne83z)⟩
  rw [← eS98]
  refine tn_aload_n dX1_init_54 rfl 0 rfl ?_
  refine tn_bipush dX1_init_55 (by decide) ?_
  refine tn_newI (N := 13) (k := 1) dX1_init_57 arC_int (by decide) rfl (by decide) (fun x100 hx101 => ?_)
  have ne102 := cx99.ne hx101
  have ne102z := (cx99.fresh hx101).resolve_right (fun e => ne102 e.symm)
  have ne102j := CXJ.new (T2 := (tT T84 x100 1 13)) (σ2 := (rowS (1000 + x100) (fun _ => 0) (gh 13 σ96))) cj cx99.1 cx99.2.1 hx101 (by rw [tT_eq]; decide) (fun b9 e9 => tT_ne e9) (fun n9 c9 hn9 hc9 => by rw [rowS_ne (by omega)]; rfl)
  obtain ⟨T103, σ104, eT105, eS106, cx107, f5, f6, f7, f8, f9, f10, f11, f12, f13, f14, f15, f16, o108, o109, o110, o111, o112, o113, o114, nx7, nx41, cj, un⟩ : ∃ (T103 : CT) (σ104 : MS), T103 = (tT T84 x100 1 13) ∧ σ104 = (rowS (1000 + x100) (fun _ => 0) (gh 13 σ96)) ∧ CX a 1 K 413 7 T σ T103 σ104 ∧ (σ104.2.1 5 a = (x1 : Int)) ∧ (σ104.2.1 6 a = 0) ∧ (σ104.2.1 7 a = 0) ∧ (σ104.2.1 8 a = 0) ∧ (σ104.2.1 9 a = 0) ∧ (σ104.2.1 10 a = 0) ∧ (σ104.2.1 11 a = (x15 : Int)) ∧ (σ104.2.1 12 a = (x30 : Int)) ∧ (σ104.2.1 13 a = (x46 : Int)) ∧ (σ104.2.1 14 a = (x63 : Int)) ∧ (σ104.2.1 15 a = (x81 : Int)) ∧ (σ104.2.1 16 a = -1) ∧ (T103 x1 = (13, 208)) ∧ (T103 x15 = (1, 12)) ∧ (T103 x30 = (1, 12)) ∧ (T103 x46 = (1, 12)) ∧ (T103 x63 = (11, 12)) ∧ (T103 x81 = (1, 144)) ∧ (T103 x100 = (1, 13)) ∧ NX 7 a T T103 ∧ NX 41 a T T103 ∧ CXJ S0 a 1 T T103 σ104 ∧ UNF a 1 x100 T103 σ104 := ⟨_, _, rfl, rfl, (cx99.newI hx101 (by decide)), (by rw [rowS_ne (by omega)]; exact f5), (by rw [rowS_ne (by omega)]; exact f6), (by rw [rowS_ne (by omega)]; exact f7), (by rw [rowS_ne (by omega)]; exact f8), (by rw [rowS_ne (by omega)]; exact f9), (by rw [rowS_ne (by omega)]; exact f10), (by rw [rowS_ne (by omega)]; exact f11), (by rw [rowS_ne (by omega)]; exact f12), (by rw [rowS_ne (by omega)]; exact f13), (by rw [rowS_ne (by omega)]; exact f14), (by rw [rowS_ne (by omega)]; exact f15), (by rw [rowS_ne (by omega)]; exact f16), (tk_keep o89 (by decide) hx101), (tk_keep o90 (by decide) hx101), (tk_keep o91 (by decide) hx101), (tk_keep o92 (by decide) hx101), (tk_keep o93 (by decide) hx101), (tk_keep o94 (by decide) hx101), tT_eq, (nx7.mk9 (by decide)), (nx41.mk9 (by decide)), ne102j.1, ne102j.2⟩
  rw [← eT105]
  rw [← eS106]
  refine tn_putFr (ci := 1) (i := 11) (n := 16) (r := true) (v := (x100 : Int)) tyX1 tyX1_ok nmX1 dX1_init_59 rfl lay_1 (by decide) fl1_30 rfl rfl rfl (tyX1_ok 11 (by decide)) (vl_ref rfl).symm rfl rfl (cx107.r (by decide)) rfl rfl ?_
  obtain ⟨σ116, eS118, cx119, f5, f6, f7, f8, f9, f10, f11, f12, f13, f14, f15, f16, cj⟩ : ∃ (σ116 : MS), σ116 = (sA 16 a ((x100 : Int)) σ104) ∧ CX a 1 K 413 7 T σ T103 σ116 ∧ (σ116.2.1 5 a = (x1 : Int)) ∧ (σ116.2.1 6 a = 0) ∧ (σ116.2.1 7 a = 0) ∧ (σ116.2.1 8 a = 0) ∧ (σ116.2.1 9 a = 0) ∧ (σ116.2.1 10 a = 0) ∧ (σ116.2.1 11 a = (x15 : Int)) ∧ (σ116.2.1 12 a = (x30 : Int)) ∧ (σ116.2.1 13 a = (x46 : Int)) ∧ (σ116.2.1 14 a = (x63 : Int)) ∧ (σ116.2.1 15 a = (x81 : Int)) ∧ (σ116.2.1 16 a = (x100 : Int)) ∧ CXJ S0 a 1 T T103 σ116 := ⟨_, rfl, (cx107.put (by decide)), (rc_o (by decide) f5), (rc_o (by decide) f6), (rc_o (by decide) f7), (rc_o (by decide) f8), (rc_o (by decide) f9), (rc_o (by decide) f10), (rc_o (by decide) f11), (rc_o (by decide) f12), (rc_o (by decide) f13), (rc_o (by decide) f14), (rc_o (by decide) f15), ra_eq, (CXJ.putA cj cx107.1 (by decide) rfl un (by rw [o114]; decide) ne102z)⟩
  rw [← eS118]
  refine tn_tag (ci := 1) (k := 31) (by decide) cx119.1 (by decide) ?_
  have hf9 : ∀ m, m < 111 → cls m = 1 → FO m 31 T103 (σ116.2.1 m a) := fun m hm9 hc9 => by
    have q9 := clsR_1 m hm9 hc9
    have q8 : m = 5 ∨ m = 6 ∨ m = 7 ∨ m = 8 ∨ m = 9 ∨ m = 10 ∨ m = 11 ∨ m = 12 ∨ m = 13 ∨ m = 14 ∨ m = 15 ∨ m = 16 := by omega
    rcases q8 with q8 | q8 | q8 | q8 | q8 | q8 | q8 | q8 | q8 | q8 | q8 | q8
    · subst q8; rw [f5]; exact fo_5 ⟨_, rfl, ⟨by rw [o108]; decide, by rw [o108]; decide⟩, fun h => absurd h (by decide), fun _ => tg1 o108⟩
    · subst q8; rw [f6]; exact fo_6 (by decide)
    · subst q8; rw [f7]; exact fo_7 (by decide)
    · subst q8; rw [f8]; exact fo_8 (by decide)
    · subst q8; rw [f9]; exact fo_9 (by decide)
    · subst q8; rw [f10]; exact fo_10 (by decide)
    · subst q8; rw [f11]; exact fo_11 (⟨_, rfl, AR.of o109 (by decide) (by decide)⟩)
    · subst q8; rw [f12]; exact fo_12 (⟨_, rfl, AR.of o110 (by decide) (by decide)⟩)
    · subst q8; rw [f13]; exact fo_13 (⟨_, rfl, AR.of o111 (by decide) (by decide)⟩)
    · subst q8; rw [f14]; exact fo_14 (⟨_, rfl, AR.of o112 (by decide) (by decide)⟩)
    · subst q8; rw [f15]; exact fo_15 (⟨_, rfl, AR.of o113 (by decide) (by decide)⟩)
    · subst q8; rw [f16]; exact fo_16 (⟨_, rfl, AR.of o114 (by decide) (by decide)⟩)
  have jq9 : ∀ f ∈ AFL, cls f = 1 → f = 5 ∨ f = 11 ∨ f = 12 ∨ f = 13 ∨ f = 14 ∨ f = 15 ∨ f = 16 := by decide
  have cjf := CXJ.fin (k := 31) cj cx119.1 (by decide) (fun f9 h9 c9 => by
    have q7 := jq9 f9 h9 c9
    rcases q7 with q7 | q7 | q7 | q7 | q7 | q7 | q7
    · subst q7; rw [f5]; exact Int.natCast_nonneg _
    · subst q7; rw [f11]; exact Int.natCast_nonneg _
    · subst q7; rw [f12]; exact Int.natCast_nonneg _
    · subst q7; rw [f13]; exact Int.natCast_nonneg _
    · subst q7; rw [f14]; exact Int.natCast_nonneg _
    · subst q7; rw [f15]; exact Int.natCast_nonneg _
    · subst q7; rw [f16]; exact Int.natCast_nonneg _)
  exact tn_vret rfl dX1_init_62 ⟨rfl, tT_eq, cx119.2.1.tag cx119.1 (by decide) hf9 (fun _ y _ => Or.inl (by rw [f6]; omega)), cx119.2.2.1.tagC (by decide), cx119.2.2.2.1.tag, cx119.2.2.2.2.1, cx119.2.2.2.2.2, cjf.1, cjf.2, nx7.tag, nx41.tag⟩
end
section
set_option maxHeartbeats 1000000 in
set_option maxRecDepth 20000 in
theorem kj_X1_init_50 (d : Nat) {T : CT} {σ : MS} {a : Nat} {K : List Nat} (hraw : T a = (80 + 1, 0)) (hb : WTn T σ) (hcd : CD K T) (hdf : ∀ j, j < 200 → σ.2.1 j (a : Int) = dfF j) {S0 : Nat → Prop} (hij : INJT S0 T σ) : Tn (d + 1) m_X1_init 0 T σ [(0, .ref a)] [] (fun ro T2 σ2 => ro = none ∧ T2 a = (50, 0) ∧ WTn T2 σ2 ∧ CD (a :: K) T2 ∧ KPx a T σ T2 σ2 ∧ σ2.1 0 = σ.1 0 + (413 : Nat) ∧ σ2.1 1 = σ.1 1 + (7 : Nat) ∧ INJT S0 T2 σ2 ∧ FRN T T2 σ2 ∧ NX 7 a T T2 ∧ NX 41 a T T2) := by
  have cx0 : CX a 1 K 0 0 T σ T σ := CX.begin hraw hb hcd
  have cj : CXJ S0 a 1 T T σ := CXJ.begin hraw (fun f9 h9 c9 => (hdf f9 (by have := afl_lt h9; omega)).trans ((by decide : ∀ f ∈ AFL, dfF f = -1) f9 h9)) hij
  have nx7 : NX 7 a T T := NX.begin (by decide)
  have nx41 : NX 41 a T T := NX.begin (by decide)
  have f5 : σ.2.1 5 a = -1 := (hdf 5 (by decide)).trans (by decide)
  have f6 : σ.2.1 6 a = 0 := (hdf 6 (by decide)).trans (by decide)
  have f7 : σ.2.1 7 a = 0 := (hdf 7 (by decide)).trans (by decide)
  have f8 : σ.2.1 8 a = 0 := (hdf 8 (by decide)).trans (by decide)
  have f9 : σ.2.1 9 a = 0 := (hdf 9 (by decide)).trans (by decide)
  have f10 : σ.2.1 10 a = 0 := (hdf 10 (by decide)).trans (by decide)
  have f11 : σ.2.1 11 a = -1 := (hdf 11 (by decide)).trans (by decide)
  have f12 : σ.2.1 12 a = -1 := (hdf 12 (by decide)).trans (by decide)
  have f13 : σ.2.1 13 a = -1 := (hdf 13 (by decide)).trans (by decide)
  have f14 : σ.2.1 14 a = -1 := (hdf 14 (by decide)).trans (by decide)
  have f15 : σ.2.1 15 a = -1 := (hdf 15 (by decide)).trans (by decide)
  have f16 : σ.2.1 16 a = -1 := (hdf 16 (by decide)).trans (by decide)
  refine tn_aload_n dX1_init_0 rfl 0 rfl ?_
  refine tn_objInit dX1_init_1 mlo1_3 oiI oiC (by omega) (Nat.le_of_ble_eq_true rfl) ?_
  refine tn_aload_n dX1_init_4 rfl 0 rfl ?_
  refine tn_sipush dX1_init_5 (by decide) ?_
  refine tn_newI (N := 208) (k := 1) dX1_init_8 arC_int (by decide) rfl (by decide) (fun x1 hx2 => ?_)
  have ne3 := cx0.ne hx2
  have ne3z := (cx0.fresh hx2).resolve_right (fun e => ne3 e.symm)
  have ne3j := CXJ.new (T2 := (tT T x1 1 208)) (σ2 := (rowS (1000 + x1) (fun _ => 0) (gh 208 σ))) cj cx0.1 cx0.2.1 hx2 (by rw [tT_eq]; decide) (fun b9 e9 => tT_ne e9) (fun n9 c9 hn9 hc9 => by rw [rowS_ne (by omega)]; rfl)
  obtain ⟨T4, σ5, eT6, eS7, cx8, f5, f6, f7, f8, f9, f10, f11, f12, f13, f14, f15, f16, o9, nx7, nx41, cj, un⟩ : ∃ (T4 : CT) (σ5 : MS), T4 = (tT T x1 1 208) ∧ σ5 = (rowS (1000 + x1) (fun _ => 0) (gh 208 σ)) ∧ CX a 1 K 208 1 T σ T4 σ5 ∧ (σ5.2.1 5 a = -1) ∧ (σ5.2.1 6 a = 0) ∧ (σ5.2.1 7 a = 0) ∧ (σ5.2.1 8 a = 0) ∧ (σ5.2.1 9 a = 0) ∧ (σ5.2.1 10 a = 0) ∧ (σ5.2.1 11 a = -1) ∧ (σ5.2.1 12 a = -1) ∧ (σ5.2.1 13 a = -1) ∧ (σ5.2.1 14 a = -1) ∧ (σ5.2.1 15 a = -1) ∧ (σ5.2.1 16 a = -1) ∧ (T4 x1 = (1, 208)) ∧ NX 7 a T T4 ∧ NX 41 a T T4 ∧ CXJ S0 a 1 T T4 σ5 ∧ UNF a 1 x1 T4 σ5 := ⟨_, _, rfl, rfl, (cx0.newI hx2 (by decide)), (by rw [rowS_ne (by omega)]; exact f5), (by rw [rowS_ne (by omega)]; exact f6), (by rw [rowS_ne (by omega)]; exact f7), (by rw [rowS_ne (by omega)]; exact f8), (by rw [rowS_ne (by omega)]; exact f9), (by rw [rowS_ne (by omega)]; exact f10), (by rw [rowS_ne (by omega)]; exact f11), (by rw [rowS_ne (by omega)]; exact f12), (by rw [rowS_ne (by omega)]; exact f13), (by rw [rowS_ne (by omega)]; exact f14), (by rw [rowS_ne (by omega)]; exact f15), (by rw [rowS_ne (by omega)]; exact f16), tT_eq, (nx7.mk9 (by decide)), (nx41.mk9 (by decide)), ne3j.1, ne3j.2⟩
  rw [← eT6]
  rw [← eS7]
  refine tn_putVr (ci := 1) (i := 0) (n := 5) (r := true) (v := (x1 : Int)) tyX1 tyX1_ok nmX1 dX1_init_10 rfl lay_1 (by decide) fl1_9 rfl (tyX1_ok 0 (by decide)) (vl_ref rfl).symm rfl rfl (cx8.r (by decide)) rfl rfl ?_
  obtain ⟨σ11, eS13, cx14, f5, f6, f7, f8, f9, f10, f11, f12, f13, f14, f15, f16, cj⟩ : ∃ (σ11 : MS), σ11 = (sA 5 a ((x1 : Int)) σ5) ∧ CX a 1 K 208 1 T σ T4 σ11 ∧ (σ11.2.1 5 a = (x1 : Int)) ∧ (σ11.2.1 6 a = 0) ∧ (σ11.2.1 7 a = 0) ∧ (σ11.2.1 8 a = 0) ∧ (σ11.2.1 9 a = 0) ∧ (σ11.2.1 10 a = 0) ∧ (σ11.2.1 11 a = -1) ∧ (σ11.2.1 12 a = -1) ∧ (σ11.2.1 13 a = -1) ∧ (σ11.2.1 14 a = -1) ∧ (σ11.2.1 15 a = -1) ∧ (σ11.2.1 16 a = -1) ∧ CXJ S0 a 1 T T4 σ11 := ⟨_, rfl, (cx8.put (by decide)), ra_eq, (rc_o (by decide) f6), (rc_o (by decide) f7), (rc_o (by decide) f8), (rc_o (by decide) f9), (rc_o (by decide) f10), (rc_o (by decide) f11), (rc_o (by decide) f12), (rc_o (by decide) f13), (rc_o (by decide) f14), (rc_o (by decide) f15), (rc_o (by decide) f16), (CXJ.putA cj cx8.1 (by decide) rfl un (by rw [o9]; decide) ne3z)⟩
  rw [← eS13]
  refine tn_aload_n dX1_init_13 rfl 0 rfl ?_
  refine tn_bipush dX1_init_14 (by decide) ?_
  refine tn_newI (N := 12) (k := 1) dX1_init_16 arC_int (by decide) rfl (by decide) (fun x15 hx16 => ?_)
  have ne17 := cx14.ne hx16
  have ne17z := (cx14.fresh hx16).resolve_right (fun e => ne17 e.symm)
  have ne17j := CXJ.new (T2 := (tT T4 x15 1 12)) (σ2 := (rowS (1000 + x15) (fun _ => 0) (gh 12 σ11))) cj cx14.1 cx14.2.1 hx16 (by rw [tT_eq]; decide) (fun b9 e9 => tT_ne e9) (fun n9 c9 hn9 hc9 => by rw [rowS_ne (by omega)]; rfl)
  obtain ⟨T18, σ19, eT20, eS21, cx22, f5, f6, f7, f8, f9, f10, f11, f12, f13, f14, f15, f16, o23, o24, nx7, nx41, cj, un⟩ : ∃ (T18 : CT) (σ19 : MS), T18 = (tT T4 x15 1 12) ∧ σ19 = (rowS (1000 + x15) (fun _ => 0) (gh 12 σ11)) ∧ CX a 1 K 220 2 T σ T18 σ19 ∧ (σ19.2.1 5 a = (x1 : Int)) ∧ (σ19.2.1 6 a = 0) ∧ (σ19.2.1 7 a = 0) ∧ (σ19.2.1 8 a = 0) ∧ (σ19.2.1 9 a = 0) ∧ (σ19.2.1 10 a = 0) ∧ (σ19.2.1 11 a = -1) ∧ (σ19.2.1 12 a = -1) ∧ (σ19.2.1 13 a = -1) ∧ (σ19.2.1 14 a = -1) ∧ (σ19.2.1 15 a = -1) ∧ (σ19.2.1 16 a = -1) ∧ (T18 x1 = (1, 208)) ∧ (T18 x15 = (1, 12)) ∧ NX 7 a T T18 ∧ NX 41 a T T18 ∧ CXJ S0 a 1 T T18 σ19 ∧ UNF a 1 x15 T18 σ19 := ⟨_, _, rfl, rfl, (cx14.newI hx16 (by decide)), (by rw [rowS_ne (by omega)]; exact f5), (by rw [rowS_ne (by omega)]; exact f6), (by rw [rowS_ne (by omega)]; exact f7), (by rw [rowS_ne (by omega)]; exact f8), (by rw [rowS_ne (by omega)]; exact f9), (by rw [rowS_ne (by omega)]; exact f10), (by rw [rowS_ne (by omega)]; exact f11), (by rw [rowS_ne (by omega)]; exact f12), (by rw [rowS_ne (by omega)]; exact f13), (by rw [rowS_ne (by omega)]; exact f14), (by rw [rowS_ne (by omega)]; exact f15), (by rw [rowS_ne (by omega)]; exact f16), (tk_keep o9 (by decide) hx16), tT_eq, (nx7.mk9 (by decide)), (nx41.mk9 (by decide)), ne17j.1, ne17j.2⟩
  rw [← eT20]
  rw [← eS21]
  refine tn_putFr (ci := 1) (i := 6) (n := 11) (r := true) (v := (x15 : Int)) tyX1 tyX1_ok nmX1 dX1_init_18 rfl lay_1 (by decide) fl1_15 rfl rfl rfl (tyX1_ok 6 (by decide)) (vl_ref rfl).symm rfl rfl (cx22.r (by decide)) rfl rfl ?_
  obtain ⟨σ26, eS28, cx29, f5, f6, f7, f8, f9, f10, f11, f12, f13, f14, f15, f16, cj⟩ : ∃ (σ26 : MS), σ26 = (sA 11 a ((x15 : Int)) σ19) ∧ CX a 1 K 220 2 T σ T18 σ26 ∧ (σ26.2.1 5 a = (x1 : Int)) ∧ (σ26.2.1 6 a = 0) ∧ (σ26.2.1 7 a = 0) ∧ (σ26.2.1 8 a = 0) ∧ (σ26.2.1 9 a = 0) ∧ (σ26.2.1 10 a = 0) ∧ (σ26.2.1 11 a = (x15 : Int)) ∧ (σ26.2.1 12 a = -1) ∧ (σ26.2.1 13 a = -1) ∧ (σ26.2.1 14 a = -1) ∧ (σ26.2.1 15 a = -1) ∧ (σ26.2.1 16 a = -1) ∧ CXJ S0 a 1 T T18 σ26 := ⟨_, rfl, (cx22.put (by decide)), (rc_o (by decide) f5), (rc_o (by decide) f6), (rc_o (by decide) f7), (rc_o (by decide) f8), (rc_o (by decide) f9), (rc_o (by decide) f10), ra_eq, (rc_o (by decide) f12), (rc_o (by decide) f13), (rc_o (by decide) f14), (rc_o (by decide) f15), (rc_o (by decide) f16), (CXJ.putA cj cx22.1 (by decide) rfl un (by rw [o24]; decide) ne17z)⟩
  rw [← eS28]
  refine tn_aload_n dX1_init_21 rfl 0 rfl ?_
  refine tn_bipush dX1_init_22 (by decide) ?_
  refine tn_newI (N := 12) (k := 1) dX1_init_24 arC_int (by decide) rfl (by decide) (fun x30 hx31 => ?_)
  have ne32 := cx29.ne hx31
  have ne32z := (cx29.fresh hx31).resolve_right (fun e => ne32 e.symm)
  have ne32j := CXJ.new (T2 := (tT T18 x30 1 12)) (σ2 := (rowS (1000 + x30) (fun _ => 0) (gh 12 σ26))) cj cx29.1 cx29.2.1 hx31 (by rw [tT_eq]; decide) (fun b9 e9 => tT_ne e9) (fun n9 c9 hn9 hc9 => by rw [rowS_ne (by omega)]; rfl)
  obtain ⟨T33, σ34, eT35, eS36, cx37, f5, f6, f7, f8, f9, f10, f11, f12, f13, f14, f15, f16, o38, o39, o40, nx7, nx41, cj, un⟩ : ∃ (T33 : CT) (σ34 : MS), T33 = (tT T18 x30 1 12) ∧ σ34 = (rowS (1000 + x30) (fun _ => 0) (gh 12 σ26)) ∧ CX a 1 K 232 3 T σ T33 σ34 ∧ (σ34.2.1 5 a = (x1 : Int)) ∧ (σ34.2.1 6 a = 0) ∧ (σ34.2.1 7 a = 0) ∧ (σ34.2.1 8 a = 0) ∧ (σ34.2.1 9 a = 0) ∧ (σ34.2.1 10 a = 0) ∧ (σ34.2.1 11 a = (x15 : Int)) ∧ (σ34.2.1 12 a = -1) ∧ (σ34.2.1 13 a = -1) ∧ (σ34.2.1 14 a = -1) ∧ (σ34.2.1 15 a = -1) ∧ (σ34.2.1 16 a = -1) ∧ (T33 x1 = (1, 208)) ∧ (T33 x15 = (1, 12)) ∧ (T33 x30 = (1, 12)) ∧ NX 7 a T T33 ∧ NX 41 a T T33 ∧ CXJ S0 a 1 T T33 σ34 ∧ UNF a 1 x30 T33 σ34 := ⟨_, _, rfl, rfl, (cx29.newI hx31 (by decide)), (by rw [rowS_ne (by omega)]; exact f5), (by rw [rowS_ne (by omega)]; exact f6), (by rw [rowS_ne (by omega)]; exact f7), (by rw [rowS_ne (by omega)]; exact f8), (by rw [rowS_ne (by omega)]; exact f9), (by rw [rowS_ne (by omega)]; exact f10), (by rw [rowS_ne (by omega)]; exact f11), (by rw [rowS_ne (by omega)]; exact f12), (by rw [rowS_ne (by omega)]; exact f13), (by rw [rowS_ne (by omega)]; exact f14), (by rw [rowS_ne (by omega)]; exact f15), (by rw [rowS_ne (by omega)]; exact f16), (tk_keep o23 (by decide) hx31), (tk_keep o24 (by decide) hx31), tT_eq, (nx7.mk9 (by decide)), (nx41.mk9 (by decide)), ne32j.1, ne32j.2⟩
  rw [← eT35]
  rw [← eS36]
  refine tn_putFr (ci := 1) (i := 7) (n := 12) (r := true) (v := (x30 : Int)) tyX1 tyX1_ok nmX1 dX1_init_26 rfl lay_1 (by decide) fl1_18 rfl rfl rfl (tyX1_ok 7 (by decide)) (vl_ref rfl).symm rfl rfl (cx37.r (by decide)) rfl rfl ?_
  obtain ⟨σ42, eS44, cx45, f5, f6, f7, f8, f9, f10, f11, f12, f13, f14, f15, f16, cj⟩ : ∃ (σ42 : MS), σ42 = (sA 12 a ((x30 : Int)) σ34) ∧ CX a 1 K 232 3 T σ T33 σ42 ∧ (σ42.2.1 5 a = (x1 : Int)) ∧ (σ42.2.1 6 a = 0) ∧ (σ42.2.1 7 a = 0) ∧ (σ42.2.1 8 a = 0) ∧ (σ42.2.1 9 a = 0) ∧ (σ42.2.1 10 a = 0) ∧ (σ42.2.1 11 a = (x15 : Int)) ∧ (σ42.2.1 12 a = (x30 : Int)) ∧ (σ42.2.1 13 a = -1) ∧ (σ42.2.1 14 a = -1) ∧ (σ42.2.1 15 a = -1) ∧ (σ42.2.1 16 a = -1) ∧ CXJ S0 a 1 T T33 σ42 := ⟨_, rfl, (cx37.put (by decide)), (rc_o (by decide) f5), (rc_o (by decide) f6), (rc_o (by decide) f7), (rc_o (by decide) f8), (rc_o (by decide) f9), (rc_o (by decide) f10), (rc_o (by decide) f11), ra_eq, (rc_o (by decide) f13), (rc_o (by decide) f14), (rc_o (by decide) f15), (rc_o (by decide) f16), (CXJ.putA cj cx37.1 (by decide) rfl un (by rw [o40]; decide) ne32z)⟩
  rw [← eS44]
  refine tn_aload_n dX1_init_29 rfl 0 rfl ?_
  refine tn_bipush dX1_init_30 (by decide) ?_
  refine tn_newI (N := 12) (k := 1) dX1_init_32 arC_int (by decide) rfl (by decide) (fun x46 hx47 => ?_)
  have ne48 := cx45.ne hx47
  have ne48z := (cx45.fresh hx47).resolve_right (fun e => ne48 e.symm)
  have ne48j := CXJ.new (T2 := (tT T33 x46 1 12)) (σ2 := (rowS (1000 + x46) (fun _ => 0) (gh 12 σ42))) cj cx45.1 cx45.2.1 hx47 (by rw [tT_eq]; decide) (fun b9 e9 => tT_ne e9) (fun n9 c9 hn9 hc9 => by rw [rowS_ne (by omega)]; rfl)
  obtain ⟨T49, σ50, eT51, eS52, cx53, f5, f6, f7, f8, f9, f10, f11, f12, f13, f14, f15, f16, o54, o55, o56, o57, nx7, nx41, cj, un⟩ : ∃ (T49 : CT) (σ50 : MS), T49 = (tT T33 x46 1 12) ∧ σ50 = (rowS (1000 + x46) (fun _ => 0) (gh 12 σ42)) ∧ CX a 1 K 244 4 T σ T49 σ50 ∧ (σ50.2.1 5 a = (x1 : Int)) ∧ (σ50.2.1 6 a = 0) ∧ (σ50.2.1 7 a = 0) ∧ (σ50.2.1 8 a = 0) ∧ (σ50.2.1 9 a = 0) ∧ (σ50.2.1 10 a = 0) ∧ (σ50.2.1 11 a = (x15 : Int)) ∧ (σ50.2.1 12 a = (x30 : Int)) ∧ (σ50.2.1 13 a = -1) ∧ (σ50.2.1 14 a = -1) ∧ (σ50.2.1 15 a = -1) ∧ (σ50.2.1 16 a = -1) ∧ (T49 x1 = (1, 208)) ∧ (T49 x15 = (1, 12)) ∧ (T49 x30 = (1, 12)) ∧ (T49 x46 = (1, 12)) ∧ NX 7 a T T49 ∧ NX 41 a T T49 ∧ CXJ S0 a 1 T T49 σ50 ∧ UNF a 1 x46 T49 σ50 := ⟨_, _, rfl, rfl, (cx45.newI hx47 (by decide)), (by rw [rowS_ne (by omega)]; exact f5), (by rw [rowS_ne (by omega)]; exact f6), (by rw [rowS_ne (by omega)]; exact f7), (by rw [rowS_ne (by omega)]; exact f8), (by rw [rowS_ne (by omega)]; exact f9), (by rw [rowS_ne (by omega)]; exact f10), (by rw [rowS_ne (by omega)]; exact f11), (by rw [rowS_ne (by omega)]; exact f12), (by rw [rowS_ne (by omega)]; exact f13), (by rw [rowS_ne (by omega)]; exact f14), (by rw [rowS_ne (by omega)]; exact f15), (by rw [rowS_ne (by omega)]; exact f16), (tk_keep o38 (by decide) hx47), (tk_keep o39 (by decide) hx47), (tk_keep o40 (by decide) hx47), tT_eq, (nx7.mk9 (by decide)), (nx41.mk9 (by decide)), ne48j.1, ne48j.2⟩
  rw [← eT51]
  rw [← eS52]
  refine tn_putFr (ci := 1) (i := 8) (n := 13) (r := true) (v := (x46 : Int)) tyX1 tyX1_ok nmX1 dX1_init_34 rfl lay_1 (by decide) fl1_21 rfl rfl rfl (tyX1_ok 8 (by decide)) (vl_ref rfl).symm rfl rfl (cx53.r (by decide)) rfl rfl ?_
  obtain ⟨σ59, eS61, cx62, f5, f6, f7, f8, f9, f10, f11, f12, f13, f14, f15, f16, cj⟩ : ∃ (σ59 : MS), σ59 = (sA 13 a ((x46 : Int)) σ50) ∧ CX a 1 K 244 4 T σ T49 σ59 ∧ (σ59.2.1 5 a = (x1 : Int)) ∧ (σ59.2.1 6 a = 0) ∧ (σ59.2.1 7 a = 0) ∧ (σ59.2.1 8 a = 0) ∧ (σ59.2.1 9 a = 0) ∧ (σ59.2.1 10 a = 0) ∧ (σ59.2.1 11 a = (x15 : Int)) ∧ (σ59.2.1 12 a = (x30 : Int)) ∧ (σ59.2.1 13 a = (x46 : Int)) ∧ (σ59.2.1 14 a = -1) ∧ (σ59.2.1 15 a = -1) ∧ (σ59.2.1 16 a = -1) ∧ CXJ S0 a 1 T T49 σ59 := ⟨_, rfl, (cx53.put (by decide)), (rc_o (by decide) f5), (rc_o (by decide) f6), (rc_o (by decide) f7), (rc_o (by decide) f8), (rc_o (by decide) f9), (rc_o (by decide) f10), (rc_o (by decide) f11), (rc_o (by decide) f12), ra_eq, (rc_o (by decide) f14), (rc_o (by decide) f15), (rc_o (by decide) f16), (CXJ.putA cj cx53.1 (by decide) rfl un (by rw [o57]; decide) ne48z)⟩
  rw [← eS61]
  refine tn_aload_n dX1_init_37 rfl 0 rfl ?_
  refine tn_bipush dX1_init_38 (by decide) ?_
  refine tn_newI (N := 12) (k := 11) dX1_init_40 arC_int (by decide) rfl (by decide) (fun x63 hx64 => ?_)
  have ne65 := cx62.ne hx64
  have ne65z := (cx62.fresh hx64).resolve_right (fun e => ne65 e.symm)
  have ne65j := CXJ.new (T2 := (tT T49 x63 11 12)) (σ2 := (rowS (1000 + x63) (fun _ => 0) (gh 12 σ59))) cj cx62.1 cx62.2.1 hx64 (by rw [tT_eq]; decide) (fun b9 e9 => tT_ne e9) (fun n9 c9 hn9 hc9 => by rw [rowS_ne (by omega)]; rfl)
  obtain ⟨T66, σ67, eT68, eS69, cx70, f5, f6, f7, f8, f9, f10, f11, f12, f13, f14, f15, f16, o71, o72, o73, o74, o75, nx7, nx41, cj, un⟩ : ∃ (T66 : CT) (σ67 : MS), T66 = (tT T49 x63 11 12) ∧ σ67 = (rowS (1000 + x63) (fun _ => 0) (gh 12 σ59)) ∧ CX a 1 K 256 5 T σ T66 σ67 ∧ (σ67.2.1 5 a = (x1 : Int)) ∧ (σ67.2.1 6 a = 0) ∧ (σ67.2.1 7 a = 0) ∧ (σ67.2.1 8 a = 0) ∧ (σ67.2.1 9 a = 0) ∧ (σ67.2.1 10 a = 0) ∧ (σ67.2.1 11 a = (x15 : Int)) ∧ (σ67.2.1 12 a = (x30 : Int)) ∧ (σ67.2.1 13 a = (x46 : Int)) ∧ (σ67.2.1 14 a = -1) ∧ (σ67.2.1 15 a = -1) ∧ (σ67.2.1 16 a = -1) ∧ (T66 x1 = (1, 208)) ∧ (T66 x15 = (1, 12)) ∧ (T66 x30 = (1, 12)) ∧ (T66 x46 = (1, 12)) ∧ (T66 x63 = (11, 12)) ∧ NX 7 a T T66 ∧ NX 41 a T T66 ∧ CXJ S0 a 1 T T66 σ67 ∧ UNF a 1 x63 T66 σ67 := ⟨_, _, rfl, rfl, (cx62.newI hx64 (by decide)), (by rw [rowS_ne (by omega)]; exact f5), (by rw [rowS_ne (by omega)]; exact f6), (by rw [rowS_ne (by omega)]; exact f7), (by rw [rowS_ne (by omega)]; exact f8), (by rw [rowS_ne (by omega)]; exact f9), (by rw [rowS_ne (by omega)]; exact f10), (by rw [rowS_ne (by omega)]; exact f11), (by rw [rowS_ne (by omega)]; exact f12), (by rw [rowS_ne (by omega)]; exact f13), (by rw [rowS_ne (by omega)]; exact f14), (by rw [rowS_ne (by omega)]; exact f15), (by rw [rowS_ne (by omega)]; exact f16), (tk_keep o54 (by decide) hx64), (tk_keep o55 (by decide) hx64), (tk_keep o56 (by decide) hx64), (tk_keep o57 (by decide) hx64), tT_eq, (nx7.mk9 (by decide)), (nx41.mk9 (by decide)), ne65j.1, ne65j.2⟩
  rw [← eT68]
  rw [← eS69]
  refine tn_putFr (ci := 1) (i := 9) (n := 14) (r := true) (v := (x63 : Int)) tyX1 tyX1_ok nmX1 dX1_init_42 rfl lay_1 (by decide) fl1_24 rfl rfl rfl (tyX1_ok 9 (by decide)) (vl_ref rfl).symm rfl rfl (cx70.r (by decide)) rfl rfl ?_
  obtain ⟨σ77, eS79, cx80, f5, f6, f7, f8, f9, f10, f11, f12, f13, f14, f15, f16, cj⟩ : ∃ (σ77 : MS), σ77 = (sA 14 a ((x63 : Int)) σ67) ∧ CX a 1 K 256 5 T σ T66 σ77 ∧ (σ77.2.1 5 a = (x1 : Int)) ∧ (σ77.2.1 6 a = 0) ∧ (σ77.2.1 7 a = 0) ∧ (σ77.2.1 8 a = 0) ∧ (σ77.2.1 9 a = 0) ∧ (σ77.2.1 10 a = 0) ∧ (σ77.2.1 11 a = (x15 : Int)) ∧ (σ77.2.1 12 a = (x30 : Int)) ∧ (σ77.2.1 13 a = (x46 : Int)) ∧ (σ77.2.1 14 a = (x63 : Int)) ∧ (σ77.2.1 15 a = -1) ∧ (σ77.2.1 16 a = -1) ∧ CXJ S0 a 1 T T66 σ77 := ⟨_, rfl, (cx70.put (by decide)), (rc_o (by decide) f5), (rc_o (by decide) f6), (rc_o (by decide) f7), (rc_o (by decide) f8), (rc_o (by decide) f9), (rc_o (by decide) f10), (rc_o (by decide) f11), (rc_o (by decide) f12), (rc_o (by decide) f13), ra_eq, (rc_o (by decide) f15), (rc_o (by decide) f16), (CXJ.putA cj cx70.1 (by decide) rfl un (by rw [o75]; decide) ne65z)⟩
  rw [← eS79]
  refine tn_aload_n dX1_init_45 rfl 0 rfl ?_
  refine tn_sipush dX1_init_46 (by decide) ?_
  refine tn_newI (N := 144) (k := 1) dX1_init_49 arC_int (by decide) rfl (by decide) (fun x81 hx82 => ?_)
  have ne83 := cx80.ne hx82
  have ne83z := (cx80.fresh hx82).resolve_right (fun e => ne83 e.symm)
  have ne83j := CXJ.new (T2 := (tT T66 x81 1 144)) (σ2 := (rowS (1000 + x81) (fun _ => 0) (gh 144 σ77))) cj cx80.1 cx80.2.1 hx82 (by rw [tT_eq]; decide) (fun b9 e9 => tT_ne e9) (fun n9 c9 hn9 hc9 => by rw [rowS_ne (by omega)]; rfl)
  obtain ⟨T84, σ85, eT86, eS87, cx88, f5, f6, f7, f8, f9, f10, f11, f12, f13, f14, f15, f16, o89, o90, o91, o92, o93, o94, nx7, nx41, cj, un⟩ : ∃ (T84 : CT) (σ85 : MS), T84 = (tT T66 x81 1 144) ∧ σ85 = (rowS (1000 + x81) (fun _ => 0) (gh 144 σ77)) ∧ CX a 1 K 400 6 T σ T84 σ85 ∧ (σ85.2.1 5 a = (x1 : Int)) ∧ (σ85.2.1 6 a = 0) ∧ (σ85.2.1 7 a = 0) ∧ (σ85.2.1 8 a = 0) ∧ (σ85.2.1 9 a = 0) ∧ (σ85.2.1 10 a = 0) ∧ (σ85.2.1 11 a = (x15 : Int)) ∧ (σ85.2.1 12 a = (x30 : Int)) ∧ (σ85.2.1 13 a = (x46 : Int)) ∧ (σ85.2.1 14 a = (x63 : Int)) ∧ (σ85.2.1 15 a = -1) ∧ (σ85.2.1 16 a = -1) ∧ (T84 x1 = (1, 208)) ∧ (T84 x15 = (1, 12)) ∧ (T84 x30 = (1, 12)) ∧ (T84 x46 = (1, 12)) ∧ (T84 x63 = (11, 12)) ∧ (T84 x81 = (1, 144)) ∧ NX 7 a T T84 ∧ NX 41 a T T84 ∧ CXJ S0 a 1 T T84 σ85 ∧ UNF a 1 x81 T84 σ85 := ⟨_, _, rfl, rfl, (cx80.newI hx82 (by decide)), (by rw [rowS_ne (by omega)]; exact f5), (by rw [rowS_ne (by omega)]; exact f6), (by rw [rowS_ne (by omega)]; exact f7), (by rw [rowS_ne (by omega)]; exact f8), (by rw [rowS_ne (by omega)]; exact f9), (by rw [rowS_ne (by omega)]; exact f10), (by rw [rowS_ne (by omega)]; exact f11), (by rw [rowS_ne (by omega)]; exact f12), (by rw [rowS_ne (by omega)]; exact f13), (by rw [rowS_ne (by omega)]; exact f14), (by rw [rowS_ne (by omega)]; exact f15), (by rw [rowS_ne (by omega)]; exact f16), (tk_keep o71 (by decide) hx82), (tk_keep o72 (by decide) hx82), (tk_keep o73 (by decide) hx82), (tk_keep o74 (by decide) hx82), (tk_keep o75 (by decide) hx82), tT_eq, (nx7.mk9 (by decide)), (nx41.mk9 (by decide)), ne83j.1, ne83j.2⟩
  rw [← eT86]
  rw [← eS87]
  refine tn_putFr (ci := 1) (i := 10) (n := 15) (r := true) (v := (x81 : Int)) tyX1 tyX1_ok nmX1 dX1_init_51 rfl lay_1 (by decide) fl1_27 rfl rfl rfl (tyX1_ok 10 (by decide)) (vl_ref rfl).symm rfl rfl (cx88.r (by decide)) rfl rfl ?_
  obtain ⟨σ96, eS98, cx99, f5, f6, f7, f8, f9, f10, f11, f12, f13, f14, f15, f16, cj⟩ : ∃ (σ96 : MS), σ96 = (sA 15 a ((x81 : Int)) σ85) ∧ CX a 1 K 400 6 T σ T84 σ96 ∧ (σ96.2.1 5 a = (x1 : Int)) ∧ (σ96.2.1 6 a = 0) ∧ (σ96.2.1 7 a = 0) ∧ (σ96.2.1 8 a = 0) ∧ (σ96.2.1 9 a = 0) ∧ (σ96.2.1 10 a = 0) ∧ (σ96.2.1 11 a = (x15 : Int)) ∧ (σ96.2.1 12 a = (x30 : Int)) ∧ (σ96.2.1 13 a = (x46 : Int)) ∧ (σ96.2.1 14 a = (x63 : Int)) ∧ (σ96.2.1 15 a = (x81 : Int)) ∧ (σ96.2.1 16 a = -1) ∧ CXJ S0 a 1 T T84 σ96 := ⟨_, rfl, (cx88.put (by decide)), (rc_o (by decide) f5), (rc_o (by decide) f6), (rc_o (by decide) f7), (rc_o (by decide) f8), (rc_o (by decide) f9), (rc_o (by decide) f10), (rc_o (by decide) f11), (rc_o (by decide) f12), (rc_o (by decide) f13), (rc_o (by decide) f14), ra_eq, (rc_o (by decide) f16), (CXJ.putA cj cx88.1 (by decide) rfl un (by rw [o94]; decide) ne83z)⟩
  rw [← eS98]
  refine tn_aload_n dX1_init_54 rfl 0 rfl ?_
  refine tn_bipush dX1_init_55 (by decide) ?_
  refine tn_newI (N := 13) (k := 1) dX1_init_57 arC_int (by decide) rfl (by decide) (fun x100 hx101 => ?_)
  have ne102 := cx99.ne hx101
  have ne102z := (cx99.fresh hx101).resolve_right (fun e => ne102 e.symm)
  have ne102j := CXJ.new (T2 := (tT T84 x100 1 13)) (σ2 := (rowS (1000 + x100) (fun _ => 0) (gh 13 σ96))) cj cx99.1 cx99.2.1 hx101 (by rw [tT_eq]; decide) (fun b9 e9 => tT_ne e9) (fun n9 c9 hn9 hc9 => by rw [rowS_ne (by omega)]; rfl)
  obtain ⟨T103, σ104, eT105, eS106, cx107, f5, f6, f7, f8, f9, f10, f11, f12, f13, f14, f15, f16, o108, o109, o110, o111, o112, o113, o114, nx7, nx41, cj, un⟩ : ∃ (T103 : CT) (σ104 : MS), T103 = (tT T84 x100 1 13) ∧ σ104 = (rowS (1000 + x100) (fun _ => 0) (gh 13 σ96)) ∧ CX a 1 K 413 7 T σ T103 σ104 ∧ (σ104.2.1 5 a = (x1 : Int)) ∧ (σ104.2.1 6 a = 0) ∧ (σ104.2.1 7 a = 0) ∧ (σ104.2.1 8 a = 0) ∧ (σ104.2.1 9 a = 0) ∧ (σ104.2.1 10 a = 0) ∧ (σ104.2.1 11 a = (x15 : Int)) ∧ (σ104.2.1 12 a = (x30 : Int)) ∧ (σ104.2.1 13 a = (x46 : Int)) ∧ (σ104.2.1 14 a = (x63 : Int)) ∧ (σ104.2.1 15 a = (x81 : Int)) ∧ (σ104.2.1 16 a = -1) ∧ (T103 x1 = (1, 208)) ∧ (T103 x15 = (1, 12)) ∧ (T103 x30 = (1, 12)) ∧ (T103 x46 = (1, 12)) ∧ (T103 x63 = (11, 12)) ∧ (T103 x81 = (1, 144)) ∧ (T103 x100 = (1, 13)) ∧ NX 7 a T T103 ∧ NX 41 a T T103 ∧ CXJ S0 a 1 T T103 σ104 ∧ UNF a 1 x100 T103 σ104 := ⟨_, _, rfl, rfl, (cx99.newI hx101 (by decide)), (by rw [rowS_ne (by omega)]; exact f5), (by rw [rowS_ne (by omega)]; exact f6), (by rw [rowS_ne (by omega)]; exact f7), (by rw [rowS_ne (by omega)]; exact f8), (by rw [rowS_ne (by omega)]; exact f9), (by rw [rowS_ne (by omega)]; exact f10), (by rw [rowS_ne (by omega)]; exact f11), (by rw [rowS_ne (by omega)]; exact f12), (by rw [rowS_ne (by omega)]; exact f13), (by rw [rowS_ne (by omega)]; exact f14), (by rw [rowS_ne (by omega)]; exact f15), (by rw [rowS_ne (by omega)]; exact f16), (tk_keep o89 (by decide) hx101), (tk_keep o90 (by decide) hx101), (tk_keep o91 (by decide) hx101), (tk_keep o92 (by decide) hx101), (tk_keep o93 (by decide) hx101), (tk_keep o94 (by decide) hx101), tT_eq, (nx7.mk9 (by decide)), (nx41.mk9 (by decide)), ne102j.1, ne102j.2⟩
  rw [← eT105]
  rw [← eS106]
  refine tn_putFr (ci := 1) (i := 11) (n := 16) (r := true) (v := (x100 : Int)) tyX1 tyX1_ok nmX1 dX1_init_59 rfl lay_1 (by decide) fl1_30 rfl rfl rfl (tyX1_ok 11 (by decide)) (vl_ref rfl).symm rfl rfl (cx107.r (by decide)) rfl rfl ?_
  obtain ⟨σ116, eS118, cx119, f5, f6, f7, f8, f9, f10, f11, f12, f13, f14, f15, f16, cj⟩ : ∃ (σ116 : MS), σ116 = (sA 16 a ((x100 : Int)) σ104) ∧ CX a 1 K 413 7 T σ T103 σ116 ∧ (σ116.2.1 5 a = (x1 : Int)) ∧ (σ116.2.1 6 a = 0) ∧ (σ116.2.1 7 a = 0) ∧ (σ116.2.1 8 a = 0) ∧ (σ116.2.1 9 a = 0) ∧ (σ116.2.1 10 a = 0) ∧ (σ116.2.1 11 a = (x15 : Int)) ∧ (σ116.2.1 12 a = (x30 : Int)) ∧ (σ116.2.1 13 a = (x46 : Int)) ∧ (σ116.2.1 14 a = (x63 : Int)) ∧ (σ116.2.1 15 a = (x81 : Int)) ∧ (σ116.2.1 16 a = (x100 : Int)) ∧ CXJ S0 a 1 T T103 σ116 := ⟨_, rfl, (cx107.put (by decide)), (rc_o (by decide) f5), (rc_o (by decide) f6), (rc_o (by decide) f7), (rc_o (by decide) f8), (rc_o (by decide) f9), (rc_o (by decide) f10), (rc_o (by decide) f11), (rc_o (by decide) f12), (rc_o (by decide) f13), (rc_o (by decide) f14), (rc_o (by decide) f15), ra_eq, (CXJ.putA cj cx107.1 (by decide) rfl un (by rw [o114]; decide) ne102z)⟩
  rw [← eS118]
  refine tn_tag (ci := 1) (k := 50) (by decide) cx119.1 (by decide) ?_
  have hf9 : ∀ m, m < 111 → cls m = 1 → FO m 50 T103 (σ116.2.1 m a) := fun m hm9 hc9 => by
    have q9 := clsR_1 m hm9 hc9
    have q8 : m = 5 ∨ m = 6 ∨ m = 7 ∨ m = 8 ∨ m = 9 ∨ m = 10 ∨ m = 11 ∨ m = 12 ∨ m = 13 ∨ m = 14 ∨ m = 15 ∨ m = 16 := by omega
    rcases q8 with q8 | q8 | q8 | q8 | q8 | q8 | q8 | q8 | q8 | q8 | q8 | q8
    · subst q8; rw [f5]; exact fo_5 ⟨_, rfl, ⟨by rw [o108]; decide, by rw [o108]; decide⟩, fun _ => tg1 o108, fun h => absurd rfl h⟩
    · subst q8; rw [f6]; exact fo_6 (by decide)
    · subst q8; rw [f7]; exact fo_7 (by decide)
    · subst q8; rw [f8]; exact fo_8 (by decide)
    · subst q8; rw [f9]; exact fo_9 (by decide)
    · subst q8; rw [f10]; exact fo_10 (by decide)
    · subst q8; rw [f11]; exact fo_11 (⟨_, rfl, AR.of o109 (by decide) (by decide)⟩)
    · subst q8; rw [f12]; exact fo_12 (⟨_, rfl, AR.of o110 (by decide) (by decide)⟩)
    · subst q8; rw [f13]; exact fo_13 (⟨_, rfl, AR.of o111 (by decide) (by decide)⟩)
    · subst q8; rw [f14]; exact fo_14 (⟨_, rfl, AR.of o112 (by decide) (by decide)⟩)
    · subst q8; rw [f15]; exact fo_15 (⟨_, rfl, AR.of o113 (by decide) (by decide)⟩)
    · subst q8; rw [f16]; exact fo_16 (⟨_, rfl, AR.of o114 (by decide) (by decide)⟩)
  have jq9 : ∀ f ∈ AFL, cls f = 1 → f = 5 ∨ f = 11 ∨ f = 12 ∨ f = 13 ∨ f = 14 ∨ f = 15 ∨ f = 16 := by decide
  have cjf := CXJ.fin (k := 50) cj cx119.1 (by decide) (fun f9 h9 c9 => by
    have q7 := jq9 f9 h9 c9
    rcases q7 with q7 | q7 | q7 | q7 | q7 | q7 | q7
    · subst q7; rw [f5]; exact Int.natCast_nonneg _
    · subst q7; rw [f11]; exact Int.natCast_nonneg _
    · subst q7; rw [f12]; exact Int.natCast_nonneg _
    · subst q7; rw [f13]; exact Int.natCast_nonneg _
    · subst q7; rw [f14]; exact Int.natCast_nonneg _
    · subst q7; rw [f15]; exact Int.natCast_nonneg _
    · subst q7; rw [f16]; exact Int.natCast_nonneg _)
  exact tn_vret rfl dX1_init_62 ⟨rfl, tT_eq, cx119.2.1.tag cx119.1 (by decide) hf9 (fun _ y _ => Or.inl (by rw [f6]; omega)), cx119.2.2.1.tagC (by decide), cx119.2.2.2.1.tag, cx119.2.2.2.2.1, cx119.2.2.2.2.2, cjf.1, cjf.2, nx7.tag, nx41.tag⟩
end
section
set_option maxHeartbeats 1000000 in
set_option maxRecDepth 20000 in
theorem kj_X7_init_37 (d : Nat) {T : CT} {σ : MS} {a : Nat} {K : List Nat} {cs : Nat} (hraw : T a = (80 + 7, 0)) (hb : WTn T σ) (hcd : CD K T) (hdf : ∀ j, j < 200 → σ.2.1 j (a : Int) = dfF j) {S0 : Nat → Prop} (hij : INJT S0 T σ) (h_cs : T cs = (5, 6)) : Tn (d + 1) m_X7_init 0 T σ [(0, .ref a), (1, .ref cs)] [] (fun ro T2 σ2 => ro = none ∧ T2 a = (37, 0) ∧ WTn T2 σ2 ∧ CD K T2 ∧ KPx a T σ T2 σ2 ∧ σ2.1 0 = σ.1 0 + (2063 : Nat) ∧ σ2.1 1 = σ.1 1 + (6 : Nat) ∧ INJT S0 T2 σ2 ∧ FRN T T2 σ2 ∧ NX 7 a T T2 ∧ NX 41 a T T2 ∧ σ2.2.1 57 (a : Int) = 0 ∧ σ2.2.1 55 (a : Int) = (cs : Int) ∧ σ2.2.1 56 (a : Int) = 0) := by
  have cx0 : CX a 7 K 0 0 T σ T σ := CX.begin hraw hb hcd
  have cj : CXJ S0 a 7 T T σ := CXJ.begin hraw (fun f9 h9 c9 => (hdf f9 (by have := afl_lt h9; omega)).trans ((by decide : ∀ f ∈ AFL, dfF f = -1) f9 h9)) hij
  have nx7 : NX 7 a T T := NX.begin (by decide)
  have nx41 : NX 41 a T T := NX.begin (by decide)
  have f55 : σ.2.1 55 a = -1 := (hdf 55 (by decide)).trans (by decide)
  have f56 : σ.2.1 56 a = 0 := (hdf 56 (by decide)).trans (by decide)
  have f57 : σ.2.1 57 a = 0 := (hdf 57 (by decide)).trans (by decide)
  have f58 : σ.2.1 58 a = 0 := (hdf 58 (by decide)).trans (by decide)
  have f59 : σ.2.1 59 a = -1 := (hdf 59 (by decide)).trans (by decide)
  have f60 : σ.2.1 60 a = -1 := (hdf 60 (by decide)).trans (by decide)
  have f61 : σ.2.1 61 a = -1 := (hdf 61 (by decide)).trans (by decide)
  have f62 : σ.2.1 62 a = -1 := (hdf 62 (by decide)).trans (by decide)
  have f63 : σ.2.1 63 a = -1 := (hdf 63 (by decide)).trans (by decide)
  have f64 : σ.2.1 64 a = -1 := (hdf 64 (by decide)).trans (by decide)
  have f65 : σ.2.1 65 a = 0 := (hdf 65 (by decide)).trans (by decide)
  have f66 : σ.2.1 66 a = 0 := (hdf 66 (by decide)).trans (by decide)
  have f67 : σ.2.1 67 a = 0 := (hdf 67 (by decide)).trans (by decide)
  have f68 : σ.2.1 68 a = 0 := (hdf 68 (by decide)).trans (by decide)
  have f69 : σ.2.1 69 a = -1 := (hdf 69 (by decide)).trans (by decide)
  have f70 : σ.2.1 70 a = 0 := (hdf 70 (by decide)).trans (by decide)
  have f71 : σ.2.1 71 a = 0 := (hdf 71 (by decide)).trans (by decide)
  refine tn_aload_n dX7_init_0 rfl 0 rfl ?_
  refine tn_objInit dX7_init_1 mlo7_3 oiI oiC (by omega) (Nat.le_of_ble_eq_true rfl) ?_
  refine tn_aload_n dX7_init_4 rfl 0 rfl ?_
  refine tn_bipush dX7_init_5 (by decide) ?_
  refine tn_newI (N := 9) (k := 15) dX7_init_7 arC_int (by decide) rfl (by decide) (fun x1 hx2 => ?_)
  have ne3 := cx0.ne hx2
  have ne3z := (cx0.fresh hx2).resolve_right (fun e => ne3 e.symm)
  have ne3j := CXJ.new (T2 := (tT T x1 15 9)) (σ2 := (rowS (1000 + x1) (fun _ => 0) (gh 9 σ))) cj cx0.1 cx0.2.1 hx2 (by rw [tT_eq]; decide) (fun b9 e9 => tT_ne e9) (fun n9 c9 hn9 hc9 => by rw [rowS_ne (by omega)]; rfl)
  obtain ⟨T4, σ5, eT6, eS7, cx8, f55, f56, f57, f58, f59, f60, f61, f62, f63, f64, f65, f66, f67, f68, f69, f70, f71, o9, o10, nx7, nx41, cj, un⟩ : ∃ (T4 : CT) (σ5 : MS), T4 = (tT T x1 15 9) ∧ σ5 = (rowS (1000 + x1) (fun _ => 0) (gh 9 σ)) ∧ CX a 7 K 9 1 T σ T4 σ5 ∧ (σ5.2.1 55 a = -1) ∧ (σ5.2.1 56 a = 0) ∧ (σ5.2.1 57 a = 0) ∧ (σ5.2.1 58 a = 0) ∧ (σ5.2.1 59 a = -1) ∧ (σ5.2.1 60 a = -1) ∧ (σ5.2.1 61 a = -1) ∧ (σ5.2.1 62 a = -1) ∧ (σ5.2.1 63 a = -1) ∧ (σ5.2.1 64 a = -1) ∧ (σ5.2.1 65 a = 0) ∧ (σ5.2.1 66 a = 0) ∧ (σ5.2.1 67 a = 0) ∧ (σ5.2.1 68 a = 0) ∧ (σ5.2.1 69 a = -1) ∧ (σ5.2.1 70 a = 0) ∧ (σ5.2.1 71 a = 0) ∧ (T4 cs = (5, 6)) ∧ (T4 x1 = (15, 9)) ∧ NX 7 a T T4 ∧ NX 41 a T T4 ∧ CXJ S0 a 7 T T4 σ5 ∧ UNF a 7 x1 T4 σ5 := ⟨_, _, rfl, rfl, (cx0.newI hx2 (by decide)), (by rw [rowS_ne (by omega)]; exact f55), (by rw [rowS_ne (by omega)]; exact f56), (by rw [rowS_ne (by omega)]; exact f57), (by rw [rowS_ne (by omega)]; exact f58), (by rw [rowS_ne (by omega)]; exact f59), (by rw [rowS_ne (by omega)]; exact f60), (by rw [rowS_ne (by omega)]; exact f61), (by rw [rowS_ne (by omega)]; exact f62), (by rw [rowS_ne (by omega)]; exact f63), (by rw [rowS_ne (by omega)]; exact f64), (by rw [rowS_ne (by omega)]; exact f65), (by rw [rowS_ne (by omega)]; exact f66), (by rw [rowS_ne (by omega)]; exact f67), (by rw [rowS_ne (by omega)]; exact f68), (by rw [rowS_ne (by omega)]; exact f69), (by rw [rowS_ne (by omega)]; exact f70), (by rw [rowS_ne (by omega)]; exact f71), (tk_keep h_cs (by decide) hx2), tT_eq, (nx7.mk9 (by decide)), (nx41.mk9 (by decide)), ne3j.1, ne3j.2⟩
  rw [← eT6]
  rw [← eS7]
  refine tn_putFr (ci := 7) (i := 4) (n := 59) (r := true) (v := (x1 : Int)) tyX7 tyX7_ok nmX7 dX7_init_9 rfl lay_7 (by decide) fl7_9 rfl rfl rfl (tyX7_ok 4 (by decide)) (vl_ref rfl).symm rfl rfl (cx8.r (by decide)) rfl rfl ?_
  obtain ⟨σ12, eS14, cx15, f55, f56, f57, f58, f59, f60, f61, f62, f63, f64, f65, f66, f67, f68, f69, f70, f71, cj⟩ : ∃ (σ12 : MS), σ12 = (sA 59 a ((x1 : Int)) σ5) ∧ CX a 7 K 9 1 T σ T4 σ12 ∧ (σ12.2.1 55 a = -1) ∧ (σ12.2.1 56 a = 0) ∧ (σ12.2.1 57 a = 0) ∧ (σ12.2.1 58 a = 0) ∧ (σ12.2.1 59 a = (x1 : Int)) ∧ (σ12.2.1 60 a = -1) ∧ (σ12.2.1 61 a = -1) ∧ (σ12.2.1 62 a = -1) ∧ (σ12.2.1 63 a = -1) ∧ (σ12.2.1 64 a = -1) ∧ (σ12.2.1 65 a = 0) ∧ (σ12.2.1 66 a = 0) ∧ (σ12.2.1 67 a = 0) ∧ (σ12.2.1 68 a = 0) ∧ (σ12.2.1 69 a = -1) ∧ (σ12.2.1 70 a = 0) ∧ (σ12.2.1 71 a = 0) ∧ CXJ S0 a 7 T T4 σ12 := ⟨_, rfl, (cx8.put (by decide)), (rc_o (by decide) f55), (rc_o (by decide) f56), (rc_o (by decide) f57), (rc_o (by decide) f58), ra_eq, (rc_o (by decide) f60), (rc_o (by decide) f61), (rc_o (by decide) f62), (rc_o (by decide) f63), (rc_o (by decide) f64), (rc_o (by decide) f65), (rc_o (by decide) f66), (rc_o (by decide) f67), (rc_o (by decide) f68), (rc_o (by decide) f69), (rc_o (by decide) f70), (rc_o (by decide) f71), (CXJ.putA cj cx8.1 (by decide) rfl un (by rw [o10]; decide) ne3z)⟩
  rw [← eS14]
  refine tn_aload_n dX7_init_12 rfl 0 rfl ?_
  refine tn_bipush dX7_init_13 (by decide) ?_
  refine tn_newI (N := 9) (k := 1) dX7_init_15 arC_int (by decide) rfl (by decide) (fun x16 hx17 => ?_)
  have ne18 := cx15.ne hx17
  have ne18z := (cx15.fresh hx17).resolve_right (fun e => ne18 e.symm)
  have ne18j := CXJ.new (T2 := (tT T4 x16 1 9)) (σ2 := (rowS (1000 + x16) (fun _ => 0) (gh 9 σ12))) cj cx15.1 cx15.2.1 hx17 (by rw [tT_eq]; decide) (fun b9 e9 => tT_ne e9) (fun n9 c9 hn9 hc9 => by rw [rowS_ne (by omega)]; rfl)
  obtain ⟨T19, σ20, eT21, eS22, cx23, f55, f56, f57, f58, f59, f60, f61, f62, f63, f64, f65, f66, f67, f68, f69, f70, f71, o24, o25, o26, nx7, nx41, cj, un⟩ : ∃ (T19 : CT) (σ20 : MS), T19 = (tT T4 x16 1 9) ∧ σ20 = (rowS (1000 + x16) (fun _ => 0) (gh 9 σ12)) ∧ CX a 7 K 18 2 T σ T19 σ20 ∧ (σ20.2.1 55 a = -1) ∧ (σ20.2.1 56 a = 0) ∧ (σ20.2.1 57 a = 0) ∧ (σ20.2.1 58 a = 0) ∧ (σ20.2.1 59 a = (x1 : Int)) ∧ (σ20.2.1 60 a = -1) ∧ (σ20.2.1 61 a = -1) ∧ (σ20.2.1 62 a = -1) ∧ (σ20.2.1 63 a = -1) ∧ (σ20.2.1 64 a = -1) ∧ (σ20.2.1 65 a = 0) ∧ (σ20.2.1 66 a = 0) ∧ (σ20.2.1 67 a = 0) ∧ (σ20.2.1 68 a = 0) ∧ (σ20.2.1 69 a = -1) ∧ (σ20.2.1 70 a = 0) ∧ (σ20.2.1 71 a = 0) ∧ (T19 cs = (5, 6)) ∧ (T19 x1 = (15, 9)) ∧ (T19 x16 = (1, 9)) ∧ NX 7 a T T19 ∧ NX 41 a T T19 ∧ CXJ S0 a 7 T T19 σ20 ∧ UNF a 7 x16 T19 σ20 := ⟨_, _, rfl, rfl, (cx15.newI hx17 (by decide)), (by rw [rowS_ne (by omega)]; exact f55), (by rw [rowS_ne (by omega)]; exact f56), (by rw [rowS_ne (by omega)]; exact f57), (by rw [rowS_ne (by omega)]; exact f58), (by rw [rowS_ne (by omega)]; exact f59), (by rw [rowS_ne (by omega)]; exact f60), (by rw [rowS_ne (by omega)]; exact f61), (by rw [rowS_ne (by omega)]; exact f62), (by rw [rowS_ne (by omega)]; exact f63), (by rw [rowS_ne (by omega)]; exact f64), (by rw [rowS_ne (by omega)]; exact f65), (by rw [rowS_ne (by omega)]; exact f66), (by rw [rowS_ne (by omega)]; exact f67), (by rw [rowS_ne (by omega)]; exact f68), (by rw [rowS_ne (by omega)]; exact f69), (by rw [rowS_ne (by omega)]; exact f70), (by rw [rowS_ne (by omega)]; exact f71), (tk_keep o9 (by decide) hx17), (tk_keep o10 (by decide) hx17), tT_eq, (nx7.mk9 (by decide)), (nx41.mk9 (by decide)), ne18j.1, ne18j.2⟩
  rw [← eT21]
  rw [← eS22]
  refine tn_putFr (ci := 7) (i := 5) (n := 60) (r := true) (v := (x16 : Int)) tyX7 tyX7_ok nmX7 dX7_init_17 rfl lay_7 (by decide) fl7_15 rfl rfl rfl (tyX7_ok 5 (by decide)) (vl_ref rfl).symm rfl rfl (cx23.r (by decide)) rfl rfl ?_
  obtain ⟨σ28, eS30, cx31, f55, f56, f57, f58, f59, f60, f61, f62, f63, f64, f65, f66, f67, f68, f69, f70, f71, cj⟩ : ∃ (σ28 : MS), σ28 = (sA 60 a ((x16 : Int)) σ20) ∧ CX a 7 K 18 2 T σ T19 σ28 ∧ (σ28.2.1 55 a = -1) ∧ (σ28.2.1 56 a = 0) ∧ (σ28.2.1 57 a = 0) ∧ (σ28.2.1 58 a = 0) ∧ (σ28.2.1 59 a = (x1 : Int)) ∧ (σ28.2.1 60 a = (x16 : Int)) ∧ (σ28.2.1 61 a = -1) ∧ (σ28.2.1 62 a = -1) ∧ (σ28.2.1 63 a = -1) ∧ (σ28.2.1 64 a = -1) ∧ (σ28.2.1 65 a = 0) ∧ (σ28.2.1 66 a = 0) ∧ (σ28.2.1 67 a = 0) ∧ (σ28.2.1 68 a = 0) ∧ (σ28.2.1 69 a = -1) ∧ (σ28.2.1 70 a = 0) ∧ (σ28.2.1 71 a = 0) ∧ CXJ S0 a 7 T T19 σ28 := ⟨_, rfl, (cx23.put (by decide)), (rc_o (by decide) f55), (rc_o (by decide) f56), (rc_o (by decide) f57), (rc_o (by decide) f58), (rc_o (by decide) f59), ra_eq, (rc_o (by decide) f61), (rc_o (by decide) f62), (rc_o (by decide) f63), (rc_o (by decide) f64), (rc_o (by decide) f65), (rc_o (by decide) f66), (rc_o (by decide) f67), (rc_o (by decide) f68), (rc_o (by decide) f69), (rc_o (by decide) f70), (rc_o (by decide) f71), (CXJ.putA cj cx23.1 (by decide) rfl un (by rw [o26]; decide) ne18z)⟩
  rw [← eS30]
  refine tn_aload_n dX7_init_20 rfl 0 rfl ?_
  refine tn_bipush dX7_init_21 (by decide) ?_
  refine tn_newI (N := 9) (k := 1) dX7_init_23 arC_int (by decide) rfl (by decide) (fun x32 hx33 => ?_)
  have ne34 := cx31.ne hx33
  have ne34z := (cx31.fresh hx33).resolve_right (fun e => ne34 e.symm)
  have ne34j := CXJ.new (T2 := (tT T19 x32 1 9)) (σ2 := (rowS (1000 + x32) (fun _ => 0) (gh 9 σ28))) cj cx31.1 cx31.2.1 hx33 (by rw [tT_eq]; decide) (fun b9 e9 => tT_ne e9) (fun n9 c9 hn9 hc9 => by rw [rowS_ne (by omega)]; rfl)
  obtain ⟨T35, σ36, eT37, eS38, cx39, f55, f56, f57, f58, f59, f60, f61, f62, f63, f64, f65, f66, f67, f68, f69, f70, f71, o40, o41, o42, o43, nx7, nx41, cj, un⟩ : ∃ (T35 : CT) (σ36 : MS), T35 = (tT T19 x32 1 9) ∧ σ36 = (rowS (1000 + x32) (fun _ => 0) (gh 9 σ28)) ∧ CX a 7 K 27 3 T σ T35 σ36 ∧ (σ36.2.1 55 a = -1) ∧ (σ36.2.1 56 a = 0) ∧ (σ36.2.1 57 a = 0) ∧ (σ36.2.1 58 a = 0) ∧ (σ36.2.1 59 a = (x1 : Int)) ∧ (σ36.2.1 60 a = (x16 : Int)) ∧ (σ36.2.1 61 a = -1) ∧ (σ36.2.1 62 a = -1) ∧ (σ36.2.1 63 a = -1) ∧ (σ36.2.1 64 a = -1) ∧ (σ36.2.1 65 a = 0) ∧ (σ36.2.1 66 a = 0) ∧ (σ36.2.1 67 a = 0) ∧ (σ36.2.1 68 a = 0) ∧ (σ36.2.1 69 a = -1) ∧ (σ36.2.1 70 a = 0) ∧ (σ36.2.1 71 a = 0) ∧ (T35 cs = (5, 6)) ∧ (T35 x1 = (15, 9)) ∧ (T35 x16 = (1, 9)) ∧ (T35 x32 = (1, 9)) ∧ NX 7 a T T35 ∧ NX 41 a T T35 ∧ CXJ S0 a 7 T T35 σ36 ∧ UNF a 7 x32 T35 σ36 := ⟨_, _, rfl, rfl, (cx31.newI hx33 (by decide)), (by rw [rowS_ne (by omega)]; exact f55), (by rw [rowS_ne (by omega)]; exact f56), (by rw [rowS_ne (by omega)]; exact f57), (by rw [rowS_ne (by omega)]; exact f58), (by rw [rowS_ne (by omega)]; exact f59), (by rw [rowS_ne (by omega)]; exact f60), (by rw [rowS_ne (by omega)]; exact f61), (by rw [rowS_ne (by omega)]; exact f62), (by rw [rowS_ne (by omega)]; exact f63), (by rw [rowS_ne (by omega)]; exact f64), (by rw [rowS_ne (by omega)]; exact f65), (by rw [rowS_ne (by omega)]; exact f66), (by rw [rowS_ne (by omega)]; exact f67), (by rw [rowS_ne (by omega)]; exact f68), (by rw [rowS_ne (by omega)]; exact f69), (by rw [rowS_ne (by omega)]; exact f70), (by rw [rowS_ne (by omega)]; exact f71), (tk_keep o24 (by decide) hx33), (tk_keep o25 (by decide) hx33), (tk_keep o26 (by decide) hx33), tT_eq, (nx7.mk9 (by decide)), (nx41.mk9 (by decide)), ne34j.1, ne34j.2⟩
  rw [← eT37]
  rw [← eS38]
  refine tn_putFr (ci := 7) (i := 6) (n := 61) (r := true) (v := (x32 : Int)) tyX7 tyX7_ok nmX7 dX7_init_25 rfl lay_7 (by decide) fl7_18 rfl rfl rfl (tyX7_ok 6 (by decide)) (vl_ref rfl).symm rfl rfl (cx39.r (by decide)) rfl rfl ?_
  obtain ⟨σ45, eS47, cx48, f55, f56, f57, f58, f59, f60, f61, f62, f63, f64, f65, f66, f67, f68, f69, f70, f71, cj⟩ : ∃ (σ45 : MS), σ45 = (sA 61 a ((x32 : Int)) σ36) ∧ CX a 7 K 27 3 T σ T35 σ45 ∧ (σ45.2.1 55 a = -1) ∧ (σ45.2.1 56 a = 0) ∧ (σ45.2.1 57 a = 0) ∧ (σ45.2.1 58 a = 0) ∧ (σ45.2.1 59 a = (x1 : Int)) ∧ (σ45.2.1 60 a = (x16 : Int)) ∧ (σ45.2.1 61 a = (x32 : Int)) ∧ (σ45.2.1 62 a = -1) ∧ (σ45.2.1 63 a = -1) ∧ (σ45.2.1 64 a = -1) ∧ (σ45.2.1 65 a = 0) ∧ (σ45.2.1 66 a = 0) ∧ (σ45.2.1 67 a = 0) ∧ (σ45.2.1 68 a = 0) ∧ (σ45.2.1 69 a = -1) ∧ (σ45.2.1 70 a = 0) ∧ (σ45.2.1 71 a = 0) ∧ CXJ S0 a 7 T T35 σ45 := ⟨_, rfl, (cx39.put (by decide)), (rc_o (by decide) f55), (rc_o (by decide) f56), (rc_o (by decide) f57), (rc_o (by decide) f58), (rc_o (by decide) f59), (rc_o (by decide) f60), ra_eq, (rc_o (by decide) f62), (rc_o (by decide) f63), (rc_o (by decide) f64), (rc_o (by decide) f65), (rc_o (by decide) f66), (rc_o (by decide) f67), (rc_o (by decide) f68), (rc_o (by decide) f69), (rc_o (by decide) f70), (rc_o (by decide) f71), (CXJ.putA cj cx39.1 (by decide) rfl un (by rw [o43]; decide) ne34z)⟩
  rw [← eS47]
  refine tn_aload_n dX7_init_28 rfl 0 rfl ?_
  refine tn_bipush dX7_init_29 (by decide) ?_
  refine tn_newI (N := 108) (k := 1) dX7_init_31 arC_int (by decide) rfl (by decide) (fun x49 hx50 => ?_)
  have ne51 := cx48.ne hx50
  have ne51z := (cx48.fresh hx50).resolve_right (fun e => ne51 e.symm)
  have ne51j := CXJ.new (T2 := (tT T35 x49 1 108)) (σ2 := (rowS (1000 + x49) (fun _ => 0) (gh 108 σ45))) cj cx48.1 cx48.2.1 hx50 (by rw [tT_eq]; decide) (fun b9 e9 => tT_ne e9) (fun n9 c9 hn9 hc9 => by rw [rowS_ne (by omega)]; rfl)
  obtain ⟨T52, σ53, eT54, eS55, cx56, f55, f56, f57, f58, f59, f60, f61, f62, f63, f64, f65, f66, f67, f68, f69, f70, f71, o57, o58, o59, o60, o61, nx7, nx41, cj, un⟩ : ∃ (T52 : CT) (σ53 : MS), T52 = (tT T35 x49 1 108) ∧ σ53 = (rowS (1000 + x49) (fun _ => 0) (gh 108 σ45)) ∧ CX a 7 K 135 4 T σ T52 σ53 ∧ (σ53.2.1 55 a = -1) ∧ (σ53.2.1 56 a = 0) ∧ (σ53.2.1 57 a = 0) ∧ (σ53.2.1 58 a = 0) ∧ (σ53.2.1 59 a = (x1 : Int)) ∧ (σ53.2.1 60 a = (x16 : Int)) ∧ (σ53.2.1 61 a = (x32 : Int)) ∧ (σ53.2.1 62 a = -1) ∧ (σ53.2.1 63 a = -1) ∧ (σ53.2.1 64 a = -1) ∧ (σ53.2.1 65 a = 0) ∧ (σ53.2.1 66 a = 0) ∧ (σ53.2.1 67 a = 0) ∧ (σ53.2.1 68 a = 0) ∧ (σ53.2.1 69 a = -1) ∧ (σ53.2.1 70 a = 0) ∧ (σ53.2.1 71 a = 0) ∧ (T52 cs = (5, 6)) ∧ (T52 x1 = (15, 9)) ∧ (T52 x16 = (1, 9)) ∧ (T52 x32 = (1, 9)) ∧ (T52 x49 = (1, 108)) ∧ NX 7 a T T52 ∧ NX 41 a T T52 ∧ CXJ S0 a 7 T T52 σ53 ∧ UNF a 7 x49 T52 σ53 := ⟨_, _, rfl, rfl, (cx48.newI hx50 (by decide)), (by rw [rowS_ne (by omega)]; exact f55), (by rw [rowS_ne (by omega)]; exact f56), (by rw [rowS_ne (by omega)]; exact f57), (by rw [rowS_ne (by omega)]; exact f58), (by rw [rowS_ne (by omega)]; exact f59), (by rw [rowS_ne (by omega)]; exact f60), (by rw [rowS_ne (by omega)]; exact f61), (by rw [rowS_ne (by omega)]; exact f62), (by rw [rowS_ne (by omega)]; exact f63), (by rw [rowS_ne (by omega)]; exact f64), (by rw [rowS_ne (by omega)]; exact f65), (by rw [rowS_ne (by omega)]; exact f66), (by rw [rowS_ne (by omega)]; exact f67), (by rw [rowS_ne (by omega)]; exact f68), (by rw [rowS_ne (by omega)]; exact f69), (by rw [rowS_ne (by omega)]; exact f70), (by rw [rowS_ne (by omega)]; exact f71), (tk_keep o40 (by decide) hx50), (tk_keep o41 (by decide) hx50), (tk_keep o42 (by decide) hx50), (tk_keep o43 (by decide) hx50), tT_eq, (nx7.mk9 (by decide)), (nx41.mk9 (by decide)), ne51j.1, ne51j.2⟩
  rw [← eT54]
  rw [← eS55]
  refine tn_putFr (ci := 7) (i := 7) (n := 62) (r := true) (v := (x49 : Int)) tyX7 tyX7_ok nmX7 dX7_init_33 rfl lay_7 (by decide) fl7_21 rfl rfl rfl (tyX7_ok 7 (by decide)) (vl_ref rfl).symm rfl rfl (cx56.r (by decide)) rfl rfl ?_
  obtain ⟨σ63, eS65, cx66, f55, f56, f57, f58, f59, f60, f61, f62, f63, f64, f65, f66, f67, f68, f69, f70, f71, cj⟩ : ∃ (σ63 : MS), σ63 = (sA 62 a ((x49 : Int)) σ53) ∧ CX a 7 K 135 4 T σ T52 σ63 ∧ (σ63.2.1 55 a = -1) ∧ (σ63.2.1 56 a = 0) ∧ (σ63.2.1 57 a = 0) ∧ (σ63.2.1 58 a = 0) ∧ (σ63.2.1 59 a = (x1 : Int)) ∧ (σ63.2.1 60 a = (x16 : Int)) ∧ (σ63.2.1 61 a = (x32 : Int)) ∧ (σ63.2.1 62 a = (x49 : Int)) ∧ (σ63.2.1 63 a = -1) ∧ (σ63.2.1 64 a = -1) ∧ (σ63.2.1 65 a = 0) ∧ (σ63.2.1 66 a = 0) ∧ (σ63.2.1 67 a = 0) ∧ (σ63.2.1 68 a = 0) ∧ (σ63.2.1 69 a = -1) ∧ (σ63.2.1 70 a = 0) ∧ (σ63.2.1 71 a = 0) ∧ CXJ S0 a 7 T T52 σ63 := ⟨_, rfl, (cx56.put (by decide)), (rc_o (by decide) f55), (rc_o (by decide) f56), (rc_o (by decide) f57), (rc_o (by decide) f58), (rc_o (by decide) f59), (rc_o (by decide) f60), (rc_o (by decide) f61), ra_eq, (rc_o (by decide) f63), (rc_o (by decide) f64), (rc_o (by decide) f65), (rc_o (by decide) f66), (rc_o (by decide) f67), (rc_o (by decide) f68), (rc_o (by decide) f69), (rc_o (by decide) f70), (rc_o (by decide) f71), (CXJ.putA cj cx56.1 (by decide) rfl un (by rw [o61]; decide) ne51z)⟩
  rw [← eS65]
  refine tn_aload_n dX7_init_36 rfl 0 rfl ?_
  refine tn_sipush dX7_init_37 (by decide) ?_
  refine tn_newI (N := 1728) (k := 1) dX7_init_40 arC_int (by decide) rfl (by decide) (fun x67 hx68 => ?_)
  have ne69 := cx66.ne hx68
  have ne69z := (cx66.fresh hx68).resolve_right (fun e => ne69 e.symm)
  have ne69j := CXJ.new (T2 := (tT T52 x67 1 1728)) (σ2 := (rowS (1000 + x67) (fun _ => 0) (gh 1728 σ63))) cj cx66.1 cx66.2.1 hx68 (by rw [tT_eq]; decide) (fun b9 e9 => tT_ne e9) (fun n9 c9 hn9 hc9 => by rw [rowS_ne (by omega)]; rfl)
  obtain ⟨T70, σ71, eT72, eS73, cx74, f55, f56, f57, f58, f59, f60, f61, f62, f63, f64, f65, f66, f67, f68, f69, f70, f71, o75, o76, o77, o78, o79, o80, nx7, nx41, cj, un⟩ : ∃ (T70 : CT) (σ71 : MS), T70 = (tT T52 x67 1 1728) ∧ σ71 = (rowS (1000 + x67) (fun _ => 0) (gh 1728 σ63)) ∧ CX a 7 K 1863 5 T σ T70 σ71 ∧ (σ71.2.1 55 a = -1) ∧ (σ71.2.1 56 a = 0) ∧ (σ71.2.1 57 a = 0) ∧ (σ71.2.1 58 a = 0) ∧ (σ71.2.1 59 a = (x1 : Int)) ∧ (σ71.2.1 60 a = (x16 : Int)) ∧ (σ71.2.1 61 a = (x32 : Int)) ∧ (σ71.2.1 62 a = (x49 : Int)) ∧ (σ71.2.1 63 a = -1) ∧ (σ71.2.1 64 a = -1) ∧ (σ71.2.1 65 a = 0) ∧ (σ71.2.1 66 a = 0) ∧ (σ71.2.1 67 a = 0) ∧ (σ71.2.1 68 a = 0) ∧ (σ71.2.1 69 a = -1) ∧ (σ71.2.1 70 a = 0) ∧ (σ71.2.1 71 a = 0) ∧ (T70 cs = (5, 6)) ∧ (T70 x1 = (15, 9)) ∧ (T70 x16 = (1, 9)) ∧ (T70 x32 = (1, 9)) ∧ (T70 x49 = (1, 108)) ∧ (T70 x67 = (1, 1728)) ∧ NX 7 a T T70 ∧ NX 41 a T T70 ∧ CXJ S0 a 7 T T70 σ71 ∧ UNF a 7 x67 T70 σ71 := ⟨_, _, rfl, rfl, (cx66.newI hx68 (by decide)), (by rw [rowS_ne (by omega)]; exact f55), (by rw [rowS_ne (by omega)]; exact f56), (by rw [rowS_ne (by omega)]; exact f57), (by rw [rowS_ne (by omega)]; exact f58), (by rw [rowS_ne (by omega)]; exact f59), (by rw [rowS_ne (by omega)]; exact f60), (by rw [rowS_ne (by omega)]; exact f61), (by rw [rowS_ne (by omega)]; exact f62), (by rw [rowS_ne (by omega)]; exact f63), (by rw [rowS_ne (by omega)]; exact f64), (by rw [rowS_ne (by omega)]; exact f65), (by rw [rowS_ne (by omega)]; exact f66), (by rw [rowS_ne (by omega)]; exact f67), (by rw [rowS_ne (by omega)]; exact f68), (by rw [rowS_ne (by omega)]; exact f69), (by rw [rowS_ne (by omega)]; exact f70), (by rw [rowS_ne (by omega)]; exact f71), (tk_keep o57 (by decide) hx68), (tk_keep o58 (by decide) hx68), (tk_keep o59 (by decide) hx68), (tk_keep o60 (by decide) hx68), (tk_keep o61 (by decide) hx68), tT_eq, (nx7.mk9 (by decide)), (nx41.mk9 (by decide)), ne69j.1, ne69j.2⟩
  rw [← eT72]
  rw [← eS73]
  refine tn_putFr (ci := 7) (i := 8) (n := 63) (r := true) (v := (x67 : Int)) tyX7 tyX7_ok nmX7 dX7_init_42 rfl lay_7 (by decide) fl7_24 rfl rfl rfl (tyX7_ok 8 (by decide)) (vl_ref rfl).symm rfl rfl (cx74.r (by decide)) rfl rfl ?_
  obtain ⟨σ82, eS84, cx85, f55, f56, f57, f58, f59, f60, f61, f62, f63, f64, f65, f66, f67, f68, f69, f70, f71, cj⟩ : ∃ (σ82 : MS), σ82 = (sA 63 a ((x67 : Int)) σ71) ∧ CX a 7 K 1863 5 T σ T70 σ82 ∧ (σ82.2.1 55 a = -1) ∧ (σ82.2.1 56 a = 0) ∧ (σ82.2.1 57 a = 0) ∧ (σ82.2.1 58 a = 0) ∧ (σ82.2.1 59 a = (x1 : Int)) ∧ (σ82.2.1 60 a = (x16 : Int)) ∧ (σ82.2.1 61 a = (x32 : Int)) ∧ (σ82.2.1 62 a = (x49 : Int)) ∧ (σ82.2.1 63 a = (x67 : Int)) ∧ (σ82.2.1 64 a = -1) ∧ (σ82.2.1 65 a = 0) ∧ (σ82.2.1 66 a = 0) ∧ (σ82.2.1 67 a = 0) ∧ (σ82.2.1 68 a = 0) ∧ (σ82.2.1 69 a = -1) ∧ (σ82.2.1 70 a = 0) ∧ (σ82.2.1 71 a = 0) ∧ CXJ S0 a 7 T T70 σ82 := ⟨_, rfl, (cx74.put (by decide)), (rc_o (by decide) f55), (rc_o (by decide) f56), (rc_o (by decide) f57), (rc_o (by decide) f58), (rc_o (by decide) f59), (rc_o (by decide) f60), (rc_o (by decide) f61), (rc_o (by decide) f62), ra_eq, (rc_o (by decide) f64), (rc_o (by decide) f65), (rc_o (by decide) f66), (rc_o (by decide) f67), (rc_o (by decide) f68), (rc_o (by decide) f69), (rc_o (by decide) f70), (rc_o (by decide) f71), (CXJ.putA cj cx74.1 (by decide) rfl un (by rw [o80]; decide) ne69z)⟩
  rw [← eS84]
  refine tn_aload_n dX7_init_45 rfl 0 rfl ?_
  refine tn_sipush dX7_init_46 (by decide) ?_
  refine tn_newI (N := 200) (k := 1) dX7_init_49 arC_int (by decide) rfl (by decide) (fun x86 hx87 => ?_)
  have ne88 := cx85.ne hx87
  have ne88z := (cx85.fresh hx87).resolve_right (fun e => ne88 e.symm)
  have ne88j := CXJ.new (T2 := (tT T70 x86 1 200)) (σ2 := (rowS (1000 + x86) (fun _ => 0) (gh 200 σ82))) cj cx85.1 cx85.2.1 hx87 (by rw [tT_eq]; decide) (fun b9 e9 => tT_ne e9) (fun n9 c9 hn9 hc9 => by rw [rowS_ne (by omega)]; rfl)
  obtain ⟨T89, σ90, eT91, eS92, cx93, f55, f56, f57, f58, f59, f60, f61, f62, f63, f64, f65, f66, f67, f68, f69, f70, f71, o94, o95, o96, o97, o98, o99, o100, nx7, nx41, cj, un⟩ : ∃ (T89 : CT) (σ90 : MS), T89 = (tT T70 x86 1 200) ∧ σ90 = (rowS (1000 + x86) (fun _ => 0) (gh 200 σ82)) ∧ CX a 7 K 2063 6 T σ T89 σ90 ∧ (σ90.2.1 55 a = -1) ∧ (σ90.2.1 56 a = 0) ∧ (σ90.2.1 57 a = 0) ∧ (σ90.2.1 58 a = 0) ∧ (σ90.2.1 59 a = (x1 : Int)) ∧ (σ90.2.1 60 a = (x16 : Int)) ∧ (σ90.2.1 61 a = (x32 : Int)) ∧ (σ90.2.1 62 a = (x49 : Int)) ∧ (σ90.2.1 63 a = (x67 : Int)) ∧ (σ90.2.1 64 a = -1) ∧ (σ90.2.1 65 a = 0) ∧ (σ90.2.1 66 a = 0) ∧ (σ90.2.1 67 a = 0) ∧ (σ90.2.1 68 a = 0) ∧ (σ90.2.1 69 a = -1) ∧ (σ90.2.1 70 a = 0) ∧ (σ90.2.1 71 a = 0) ∧ (T89 cs = (5, 6)) ∧ (T89 x1 = (15, 9)) ∧ (T89 x16 = (1, 9)) ∧ (T89 x32 = (1, 9)) ∧ (T89 x49 = (1, 108)) ∧ (T89 x67 = (1, 1728)) ∧ (T89 x86 = (1, 200)) ∧ NX 7 a T T89 ∧ NX 41 a T T89 ∧ CXJ S0 a 7 T T89 σ90 ∧ UNF a 7 x86 T89 σ90 := ⟨_, _, rfl, rfl, (cx85.newI hx87 (by decide)), (by rw [rowS_ne (by omega)]; exact f55), (by rw [rowS_ne (by omega)]; exact f56), (by rw [rowS_ne (by omega)]; exact f57), (by rw [rowS_ne (by omega)]; exact f58), (by rw [rowS_ne (by omega)]; exact f59), (by rw [rowS_ne (by omega)]; exact f60), (by rw [rowS_ne (by omega)]; exact f61), (by rw [rowS_ne (by omega)]; exact f62), (by rw [rowS_ne (by omega)]; exact f63), (by rw [rowS_ne (by omega)]; exact f64), (by rw [rowS_ne (by omega)]; exact f65), (by rw [rowS_ne (by omega)]; exact f66), (by rw [rowS_ne (by omega)]; exact f67), (by rw [rowS_ne (by omega)]; exact f68), (by rw [rowS_ne (by omega)]; exact f69), (by rw [rowS_ne (by omega)]; exact f70), (by rw [rowS_ne (by omega)]; exact f71), (tk_keep o75 (by decide) hx87), (tk_keep o76 (by decide) hx87), (tk_keep o77 (by decide) hx87), (tk_keep o78 (by decide) hx87), (tk_keep o79 (by decide) hx87), (tk_keep o80 (by decide) hx87), tT_eq, (nx7.mk9 (by decide)), (nx41.mk9 (by decide)), ne88j.1, ne88j.2⟩
  rw [← eT91]
  rw [← eS92]
  refine tn_putFr (ci := 7) (i := 9) (n := 64) (r := true) (v := (x86 : Int)) tyX7 tyX7_ok nmX7 dX7_init_51 rfl lay_7 (by decide) fl7_27 rfl rfl rfl (tyX7_ok 9 (by decide)) (vl_ref rfl).symm rfl rfl (cx93.r (by decide)) rfl rfl ?_
  obtain ⟨σ102, eS104, cx105, f55, f56, f57, f58, f59, f60, f61, f62, f63, f64, f65, f66, f67, f68, f69, f70, f71, cj⟩ : ∃ (σ102 : MS), σ102 = (sA 64 a ((x86 : Int)) σ90) ∧ CX a 7 K 2063 6 T σ T89 σ102 ∧ (σ102.2.1 55 a = -1) ∧ (σ102.2.1 56 a = 0) ∧ (σ102.2.1 57 a = 0) ∧ (σ102.2.1 58 a = 0) ∧ (σ102.2.1 59 a = (x1 : Int)) ∧ (σ102.2.1 60 a = (x16 : Int)) ∧ (σ102.2.1 61 a = (x32 : Int)) ∧ (σ102.2.1 62 a = (x49 : Int)) ∧ (σ102.2.1 63 a = (x67 : Int)) ∧ (σ102.2.1 64 a = (x86 : Int)) ∧ (σ102.2.1 65 a = 0) ∧ (σ102.2.1 66 a = 0) ∧ (σ102.2.1 67 a = 0) ∧ (σ102.2.1 68 a = 0) ∧ (σ102.2.1 69 a = -1) ∧ (σ102.2.1 70 a = 0) ∧ (σ102.2.1 71 a = 0) ∧ CXJ S0 a 7 T T89 σ102 := ⟨_, rfl, (cx93.put (by decide)), (rc_o (by decide) f55), (rc_o (by decide) f56), (rc_o (by decide) f57), (rc_o (by decide) f58), (rc_o (by decide) f59), (rc_o (by decide) f60), (rc_o (by decide) f61), (rc_o (by decide) f62), (rc_o (by decide) f63), ra_eq, (rc_o (by decide) f65), (rc_o (by decide) f66), (rc_o (by decide) f67), (rc_o (by decide) f68), (rc_o (by decide) f69), (rc_o (by decide) f70), (rc_o (by decide) f71), (CXJ.putA cj cx93.1 (by decide) rfl un (by rw [o100]; decide) ne88z)⟩
  rw [← eS104]
  refine tn_aload_n dX7_init_54 rfl 0 rfl ?_
  refine tn_aload_n dX7_init_55 rfl 1 rfl ?_
  refine tn_putFr (ci := 7) (i := 0) (n := 55) (r := true) (v := (cs : Int)) tyX7 tyX7_ok nmX7 dX7_init_56 rfl lay_7 (by decide) fl7_30 rfl rfl rfl (tyX7_ok 0 (by decide)) (vl_ref rfl).symm rfl rfl (cx105.r (by decide)) rfl rfl ?_
  obtain ⟨σ107, eS109, cx110, f55, f56, f57, f58, f59, f60, f61, f62, f63, f64, f65, f66, f67, f68, f69, f70, f71, cj⟩ : ∃ (σ107 : MS), σ107 = (sA 55 a ((cs : Int)) σ102) ∧ CX a 7 K 2063 6 T σ T89 σ107 ∧ (σ107.2.1 55 a = (cs : Int)) ∧ (σ107.2.1 56 a = 0) ∧ (σ107.2.1 57 a = 0) ∧ (σ107.2.1 58 a = 0) ∧ (σ107.2.1 59 a = (x1 : Int)) ∧ (σ107.2.1 60 a = (x16 : Int)) ∧ (σ107.2.1 61 a = (x32 : Int)) ∧ (σ107.2.1 62 a = (x49 : Int)) ∧ (σ107.2.1 63 a = (x67 : Int)) ∧ (σ107.2.1 64 a = (x86 : Int)) ∧ (σ107.2.1 65 a = 0) ∧ (σ107.2.1 66 a = 0) ∧ (σ107.2.1 67 a = 0) ∧ (σ107.2.1 68 a = 0) ∧ (σ107.2.1 69 a = -1) ∧ (σ107.2.1 70 a = 0) ∧ (σ107.2.1 71 a = 0) ∧ CXJ S0 a 7 T T89 σ107 := ⟨_, rfl, (cx105.put (by decide)), ra_eq, (rc_o (by decide) f56), (rc_o (by decide) f57), (rc_o (by decide) f58), (rc_o (by decide) f59), (rc_o (by decide) f60), (rc_o (by decide) f61), (rc_o (by decide) f62), (rc_o (by decide) f63), (rc_o (by decide) f64), (rc_o (by decide) f65), (rc_o (by decide) f66), (rc_o (by decide) f67), (rc_o (by decide) f68), (rc_o (by decide) f69), (rc_o (by decide) f70), (rc_o (by decide) f71), (CXJ.put cj cx105.1 cx105.2.1 (by decide))⟩
  rw [← eS109]
  refine tn_tag (ci := 7) (k := 37) (by decide) cx110.1 (by decide) ?_
  have hf9 : ∀ m, m < 111 → cls m = 7 → FO m 37 T89 (σ107.2.1 m a) := fun m hm9 hc9 => by
    have q9 := clsR_7 m hm9 hc9
    have q8 : m = 55 ∨ m = 56 ∨ m = 57 ∨ m = 58 ∨ m = 59 ∨ m = 60 ∨ m = 61 ∨ m = 62 ∨ m = 63 ∨ m = 64 ∨ m = 65 ∨ m = 66 ∨ m = 67 ∨ m = 68 ∨ m = 69 ∨ m = 70 ∨ m = 71 := by omega
    rcases q8 with q8 | q8 | q8 | q8 | q8 | q8 | q8 | q8 | q8 | q8 | q8 | q8 | q8 | q8 | q8 | q8 | q8
    · subst q8; rw [f55]; exact fo_55 ⟨_, rfl, by rw [o94], fun h => absurd h (by decide), fun _ => tg1 o94⟩
    · subst q8; rw [f56]; exact fo_56 (by decide)
    · subst q8; rw [f57]; exact fo_57 (by decide)
    · subst q8; rw [f58]; exact fo_58 (by decide)
    · subst q8; rw [f59]; exact fo_59 (⟨_, rfl, AR.of o95 (by decide) (by decide)⟩)
    · subst q8; rw [f60]; exact fo_60 (⟨_, rfl, AR.of o96 (by decide) (by decide)⟩)
    · subst q8; rw [f61]; exact fo_61 ⟨_, rfl, by rw [o97], fun h => absurd h (by decide), fun _ => tg1 o97⟩
    · subst q8; rw [f62]; exact fo_62 (⟨_, rfl, AR.of o98 (by decide) (by decide)⟩)
    · subst q8; rw [f63]; exact fo_63 (⟨_, rfl, AR.of o99 (by decide) (by decide)⟩)
    · subst q8; rw [f64]; exact fo_64 (⟨_, rfl, AR.of o100 (by decide) (by decide)⟩)
    · subst q8; rw [f65]; exact fo_65 (by decide)
    · subst q8; rw [f66]; exact fo_66 (by decide)
    · subst q8; rw [f67]; exact fo_67 (by decide)
    · subst q8; rw [f68]; exact fo_68 (by decide)
    · subst q8; rw [f69]; exact fo_69 (Or.inl (by decide))
    · subst q8; rw [f70]; exact fo_70 (by decide)
    · subst q8; rw [f71]; exact fo_71 (by decide)
  have jq9 : ∀ f ∈ AFL, cls f = 7 → f = 59 ∨ f = 60 ∨ f = 61 ∨ f = 62 ∨ f = 63 ∨ f = 64 := by decide
  have cjf := CXJ.fin (k := 37) cj cx110.1 (by decide) (fun f9 h9 c9 => by
    have q7 := jq9 f9 h9 c9
    rcases q7 with q7 | q7 | q7 | q7 | q7 | q7
    · subst q7; rw [f59]; exact Int.natCast_nonneg _
    · subst q7; rw [f60]; exact Int.natCast_nonneg _
    · subst q7; rw [f61]; exact Int.natCast_nonneg _
    · subst q7; rw [f62]; exact Int.natCast_nonneg _
    · subst q7; rw [f63]; exact Int.natCast_nonneg _
    · subst q7; rw [f64]; exact Int.natCast_nonneg _)
  exact tn_vret rfl dX7_init_59 ⟨rfl, tT_eq, cx110.2.1.tag cx110.1 (by decide) hf9 (fun h => absurd h (by decide)), cx110.2.2.1.tag (by rw [cx110.1]; decide) (by decide), cx110.2.2.2.1.tag, cx110.2.2.2.2.1, cx110.2.2.2.2.2, cjf.1, cjf.2, nx7.tag, nx41.tag, f57, f55, f56⟩
end
section
set_option maxHeartbeats 1000000 in
set_option maxRecDepth 20000 in
theorem kj_X3_init_33 (d : Nat) {T : CT} {σ : MS} {a : Nat} {K : List Nat} (hraw : T a = (80 + 3, 0)) (hb : WTn T σ) (hcd : CD K T) (hdf : ∀ j, j < 200 → σ.2.1 j (a : Int) = dfF j) {S0 : Nat → Prop} (hij : INJT S0 T σ) : Tn (d + 1) m_X3_init 0 T σ [(0, .ref a)] [] (fun ro T2 σ2 => ro = none ∧ T2 a = (33, 0) ∧ WTn T2 σ2 ∧ CD K T2 ∧ KPx a T σ T2 σ2 ∧ σ2.1 0 = σ.1 0 + (1008 : Nat) ∧ σ2.1 1 = σ.1 1 + (4 : Nat) ∧ INJT S0 T2 σ2 ∧ FRN T T2 σ2 ∧ NX 7 a T T2 ∧ NX 41 a T T2) := by
  have cx0 : CX a 3 K 0 0 T σ T σ := CX.begin hraw hb hcd
  have cj : CXJ S0 a 3 T T σ := CXJ.begin hraw (fun f9 h9 c9 => (hdf f9 (by have := afl_lt h9; omega)).trans ((by decide : ∀ f ∈ AFL, dfF f = -1) f9 h9)) hij
  have nx7 : NX 7 a T T := NX.begin (by decide)
  have nx41 : NX 41 a T T := NX.begin (by decide)
  have f18 : σ.2.1 18 a = -1 := (hdf 18 (by decide)).trans (by decide)
  have f19 : σ.2.1 19 a = -1 := (hdf 19 (by decide)).trans (by decide)
  have f20 : σ.2.1 20 a = -1 := (hdf 20 (by decide)).trans (by decide)
  have f21 : σ.2.1 21 a = -1 := (hdf 21 (by decide)).trans (by decide)
  have f22 : σ.2.1 22 a = 0 := (hdf 22 (by decide)).trans (by decide)
  refine tn_aload_n dX3_init_0 rfl 0 rfl ?_
  refine tn_objInit dX3_init_1 mlo3_3 oiI oiC (by omega) (Nat.le_of_ble_eq_true rfl) ?_
  refine tn_aload_n dX3_init_4 rfl 0 rfl ?_
  refine tn_sipush dX3_init_5 (by decide) ?_
  refine tn_newJ (N := 603) dX3_init_8 arC_long rfl (by decide) (fun x1 hx2 => ?_)
  have ne3 := cx0.ne hx2
  have ne3z := (cx0.fresh hx2).resolve_right (fun e => ne3 e.symm)
  have ne3j := CXJ.new (T2 := (tT T x1 3 603)) (σ2 := (rowL x1 (fun _ => 0) (gh 603 σ))) cj cx0.1 cx0.2.1 hx2 (by rw [tT_eq]; decide) (fun b9 e9 => tT_ne e9) (fun n9 c9 hn9 hc9 => rfl)
  obtain ⟨T4, σ5, eT6, eS7, cx8, f18, f19, f20, f21, f22, o9, nx7, nx41, cj, un⟩ : ∃ (T4 : CT) (σ5 : MS), T4 = (tT T x1 3 603) ∧ σ5 = (rowL x1 (fun _ => 0) (gh 603 σ)) ∧ CX a 3 K 603 1 T σ T4 σ5 ∧ (σ5.2.1 18 a = -1) ∧ (σ5.2.1 19 a = -1) ∧ (σ5.2.1 20 a = -1) ∧ (σ5.2.1 21 a = -1) ∧ (σ5.2.1 22 a = 0) ∧ (T4 x1 = (3, 603)) ∧ NX 7 a T T4 ∧ NX 41 a T T4 ∧ CXJ S0 a 3 T T4 σ5 ∧ UNF a 3 x1 T4 σ5 := ⟨_, _, rfl, rfl, (cx0.newJ hx2), f18, f19, f20, f21, f22, tT_eq, (nx7.mk9 (by decide)), (nx41.mk9 (by decide)), ne3j.1, ne3j.2⟩
  rw [← eT6]
  rw [← eS7]
  refine tn_putFr (ci := 3) (i := 0) (n := 18) (r := true) (v := (x1 : Int)) tyX3 tyX3_ok nmX3 dX3_init_10 rfl lay_3 (by decide) fl3_9 rfl rfl rfl (tyX3_ok 0 (by decide)) (vl_ref rfl).symm rfl rfl (cx8.r (by decide)) rfl rfl ?_
  obtain ⟨σ11, eS13, cx14, f18, f19, f20, f21, f22, cj⟩ : ∃ (σ11 : MS), σ11 = (sA 18 a ((x1 : Int)) σ5) ∧ CX a 3 K 603 1 T σ T4 σ11 ∧ (σ11.2.1 18 a = (x1 : Int)) ∧ (σ11.2.1 19 a = -1) ∧ (σ11.2.1 20 a = -1) ∧ (σ11.2.1 21 a = -1) ∧ (σ11.2.1 22 a = 0) ∧ CXJ S0 a 3 T T4 σ11 := ⟨_, rfl, (cx8.put (by decide)), ra_eq, (rc_o (by decide) f19), (rc_o (by decide) f20), (rc_o (by decide) f21), (rc_o (by decide) f22), (CXJ.putA cj cx8.1 (by decide) rfl un (by rw [o9]; decide) ne3z)⟩
  rw [← eS13]
  refine tn_aload_n dX3_init_13 rfl 0 rfl ?_
  refine tn_iconst dX3_init_14 ?_
  refine tn_newJ (N := 3) dX3_init_15 arC_long rfl (by decide) (fun x15 hx16 => ?_)
  have ne17 := cx14.ne hx16
  have ne17z := (cx14.fresh hx16).resolve_right (fun e => ne17 e.symm)
  have ne17j := CXJ.new (T2 := (tT T4 x15 3 3)) (σ2 := (rowL x15 (fun _ => 0) (gh 3 σ11))) cj cx14.1 cx14.2.1 hx16 (by rw [tT_eq]; decide) (fun b9 e9 => tT_ne e9) (fun n9 c9 hn9 hc9 => rfl)
  obtain ⟨T18, σ19, eT20, eS21, cx22, f18, f19, f20, f21, f22, o23, o24, nx7, nx41, cj, un⟩ : ∃ (T18 : CT) (σ19 : MS), T18 = (tT T4 x15 3 3) ∧ σ19 = (rowL x15 (fun _ => 0) (gh 3 σ11)) ∧ CX a 3 K 606 2 T σ T18 σ19 ∧ (σ19.2.1 18 a = (x1 : Int)) ∧ (σ19.2.1 19 a = -1) ∧ (σ19.2.1 20 a = -1) ∧ (σ19.2.1 21 a = -1) ∧ (σ19.2.1 22 a = 0) ∧ (T18 x1 = (3, 603)) ∧ (T18 x15 = (3, 3)) ∧ NX 7 a T T18 ∧ NX 41 a T T18 ∧ CXJ S0 a 3 T T18 σ19 ∧ UNF a 3 x15 T18 σ19 := ⟨_, _, rfl, rfl, (cx14.newJ hx16), f18, f19, f20, f21, f22, (tk_keep o9 (by decide) hx16), tT_eq, (nx7.mk9 (by decide)), (nx41.mk9 (by decide)), ne17j.1, ne17j.2⟩
  rw [← eT20]
  rw [← eS21]
  refine tn_putFr (ci := 3) (i := 1) (n := 19) (r := true) (v := (x15 : Int)) tyX3 tyX3_ok nmX3 dX3_init_17 rfl lay_3 (by decide) fl3_15 rfl rfl rfl (tyX3_ok 1 (by decide)) (vl_ref rfl).symm rfl rfl (cx22.r (by decide)) rfl rfl ?_
  obtain ⟨σ26, eS28, cx29, f18, f19, f20, f21, f22, cj⟩ : ∃ (σ26 : MS), σ26 = (sA 19 a ((x15 : Int)) σ19) ∧ CX a 3 K 606 2 T σ T18 σ26 ∧ (σ26.2.1 18 a = (x1 : Int)) ∧ (σ26.2.1 19 a = (x15 : Int)) ∧ (σ26.2.1 20 a = -1) ∧ (σ26.2.1 21 a = -1) ∧ (σ26.2.1 22 a = 0) ∧ CXJ S0 a 3 T T18 σ26 := ⟨_, rfl, (cx22.put (by decide)), (rc_o (by decide) f18), ra_eq, (rc_o (by decide) f20), (rc_o (by decide) f21), (rc_o (by decide) f22), (CXJ.putA cj cx22.1 (by decide) rfl un (by rw [o24]; decide) ne17z)⟩
  rw [← eS28]
  refine tn_aload_n dX3_init_20 rfl 0 rfl ?_
  refine tn_sipush dX3_init_21 (by decide) ?_
  refine tn_newI (N := 201) (k := 1) dX3_init_24 arC_int (by decide) rfl (by decide) (fun x30 hx31 => ?_)
  have ne32 := cx29.ne hx31
  have ne32z := (cx29.fresh hx31).resolve_right (fun e => ne32 e.symm)
  have ne32j := CXJ.new (T2 := (tT T18 x30 1 201)) (σ2 := (rowS (1000 + x30) (fun _ => 0) (gh 201 σ26))) cj cx29.1 cx29.2.1 hx31 (by rw [tT_eq]; decide) (fun b9 e9 => tT_ne e9) (fun n9 c9 hn9 hc9 => by rw [rowS_ne (by omega)]; rfl)
  obtain ⟨T33, σ34, eT35, eS36, cx37, f18, f19, f20, f21, f22, o38, o39, o40, nx7, nx41, cj, un⟩ : ∃ (T33 : CT) (σ34 : MS), T33 = (tT T18 x30 1 201) ∧ σ34 = (rowS (1000 + x30) (fun _ => 0) (gh 201 σ26)) ∧ CX a 3 K 807 3 T σ T33 σ34 ∧ (σ34.2.1 18 a = (x1 : Int)) ∧ (σ34.2.1 19 a = (x15 : Int)) ∧ (σ34.2.1 20 a = -1) ∧ (σ34.2.1 21 a = -1) ∧ (σ34.2.1 22 a = 0) ∧ (T33 x1 = (3, 603)) ∧ (T33 x15 = (3, 3)) ∧ (T33 x30 = (1, 201)) ∧ NX 7 a T T33 ∧ NX 41 a T T33 ∧ CXJ S0 a 3 T T33 σ34 ∧ UNF a 3 x30 T33 σ34 := ⟨_, _, rfl, rfl, (cx29.newI hx31 (by decide)), (by rw [rowS_ne (by omega)]; exact f18), (by rw [rowS_ne (by omega)]; exact f19), (by rw [rowS_ne (by omega)]; exact f20), (by rw [rowS_ne (by omega)]; exact f21), (by rw [rowS_ne (by omega)]; exact f22), (tk_keep o23 (by decide) hx31), (tk_keep o24 (by decide) hx31), tT_eq, (nx7.mk9 (by decide)), (nx41.mk9 (by decide)), ne32j.1, ne32j.2⟩
  rw [← eT35]
  rw [← eS36]
  refine tn_putFr (ci := 3) (i := 2) (n := 20) (r := true) (v := (x30 : Int)) tyX3 tyX3_ok nmX3 dX3_init_26 rfl lay_3 (by decide) fl3_18 rfl rfl rfl (tyX3_ok 2 (by decide)) (vl_ref rfl).symm rfl rfl (cx37.r (by decide)) rfl rfl ?_
  obtain ⟨σ42, eS44, cx45, f18, f19, f20, f21, f22, cj⟩ : ∃ (σ42 : MS), σ42 = (sA 20 a ((x30 : Int)) σ34) ∧ CX a 3 K 807 3 T σ T33 σ42 ∧ (σ42.2.1 18 a = (x1 : Int)) ∧ (σ42.2.1 19 a = (x15 : Int)) ∧ (σ42.2.1 20 a = (x30 : Int)) ∧ (σ42.2.1 21 a = -1) ∧ (σ42.2.1 22 a = 0) ∧ CXJ S0 a 3 T T33 σ42 := ⟨_, rfl, (cx37.put (by decide)), (rc_o (by decide) f18), (rc_o (by decide) f19), ra_eq, (rc_o (by decide) f21), (rc_o (by decide) f22), (CXJ.putA cj cx37.1 (by decide) rfl un (by rw [o40]; decide) ne32z)⟩
  rw [← eS44]
  refine tn_aload_n dX3_init_29 rfl 0 rfl ?_
  refine tn_sipush dX3_init_30 (by decide) ?_
  refine tn_newI (N := 201) (k := 1) dX3_init_33 arC_int (by decide) rfl (by decide) (fun x46 hx47 => ?_)
  have ne48 := cx45.ne hx47
  have ne48z := (cx45.fresh hx47).resolve_right (fun e => ne48 e.symm)
  have ne48j := CXJ.new (T2 := (tT T33 x46 1 201)) (σ2 := (rowS (1000 + x46) (fun _ => 0) (gh 201 σ42))) cj cx45.1 cx45.2.1 hx47 (by rw [tT_eq]; decide) (fun b9 e9 => tT_ne e9) (fun n9 c9 hn9 hc9 => by rw [rowS_ne (by omega)]; rfl)
  obtain ⟨T49, σ50, eT51, eS52, cx53, f18, f19, f20, f21, f22, o54, o55, o56, o57, nx7, nx41, cj, un⟩ : ∃ (T49 : CT) (σ50 : MS), T49 = (tT T33 x46 1 201) ∧ σ50 = (rowS (1000 + x46) (fun _ => 0) (gh 201 σ42)) ∧ CX a 3 K 1008 4 T σ T49 σ50 ∧ (σ50.2.1 18 a = (x1 : Int)) ∧ (σ50.2.1 19 a = (x15 : Int)) ∧ (σ50.2.1 20 a = (x30 : Int)) ∧ (σ50.2.1 21 a = -1) ∧ (σ50.2.1 22 a = 0) ∧ (T49 x1 = (3, 603)) ∧ (T49 x15 = (3, 3)) ∧ (T49 x30 = (1, 201)) ∧ (T49 x46 = (1, 201)) ∧ NX 7 a T T49 ∧ NX 41 a T T49 ∧ CXJ S0 a 3 T T49 σ50 ∧ UNF a 3 x46 T49 σ50 := ⟨_, _, rfl, rfl, (cx45.newI hx47 (by decide)), (by rw [rowS_ne (by omega)]; exact f18), (by rw [rowS_ne (by omega)]; exact f19), (by rw [rowS_ne (by omega)]; exact f20), (by rw [rowS_ne (by omega)]; exact f21), (by rw [rowS_ne (by omega)]; exact f22), (tk_keep o38 (by decide) hx47), (tk_keep o39 (by decide) hx47), (tk_keep o40 (by decide) hx47), tT_eq, (nx7.mk9 (by decide)), (nx41.mk9 (by decide)), ne48j.1, ne48j.2⟩
  rw [← eT51]
  rw [← eS52]
  refine tn_putFr (ci := 3) (i := 3) (n := 21) (r := true) (v := (x46 : Int)) tyX3 tyX3_ok nmX3 dX3_init_35 rfl lay_3 (by decide) fl3_22 rfl rfl rfl (tyX3_ok 3 (by decide)) (vl_ref rfl).symm rfl rfl (cx53.r (by decide)) rfl rfl ?_
  obtain ⟨σ59, eS61, cx62, f18, f19, f20, f21, f22, cj⟩ : ∃ (σ59 : MS), σ59 = (sA 21 a ((x46 : Int)) σ50) ∧ CX a 3 K 1008 4 T σ T49 σ59 ∧ (σ59.2.1 18 a = (x1 : Int)) ∧ (σ59.2.1 19 a = (x15 : Int)) ∧ (σ59.2.1 20 a = (x30 : Int)) ∧ (σ59.2.1 21 a = (x46 : Int)) ∧ (σ59.2.1 22 a = 0) ∧ CXJ S0 a 3 T T49 σ59 := ⟨_, rfl, (cx53.put (by decide)), (rc_o (by decide) f18), (rc_o (by decide) f19), (rc_o (by decide) f20), ra_eq, (rc_o (by decide) f22), (CXJ.putA cj cx53.1 (by decide) rfl un (by rw [o57]; decide) ne48z)⟩
  rw [← eS61]
  refine tn_tag (ci := 3) (k := 33) (by decide) cx62.1 (by decide) ?_
  have hf9 : ∀ m, m < 111 → cls m = 3 → FO m 33 T49 (σ59.2.1 m a) := fun m hm9 hc9 => by
    have q9 := clsR_3 m hm9 hc9
    have q8 : m = 18 ∨ m = 19 ∨ m = 20 ∨ m = 21 ∨ m = 22 := by omega
    rcases q8 with q8 | q8 | q8 | q8 | q8
    · subst q8; rw [f18]; exact fo_18 (⟨_, rfl, AR.of o54 (by decide) (by decide)⟩)
    · subst q8; rw [f19]; exact fo_19 (⟨_, rfl, AR.of o55 (by decide) (by decide)⟩)
    · subst q8; rw [f20]; exact fo_20 (⟨_, rfl, AR.of o56 (by decide) (by decide)⟩)
    · subst q8; rw [f21]; exact fo_21 (⟨_, rfl, AR.of o57 (by decide) (by decide)⟩)
    · subst q8; rw [f22]; exact fo_22 (by decide)
  have jq9 : ∀ f ∈ AFL, cls f = 3 → f = 18 ∨ f = 19 ∨ f = 20 ∨ f = 21 := by decide
  have cjf := CXJ.fin (k := 33) cj cx62.1 (by decide) (fun f9 h9 c9 => by
    have q7 := jq9 f9 h9 c9
    rcases q7 with q7 | q7 | q7 | q7
    · subst q7; rw [f18]; exact Int.natCast_nonneg _
    · subst q7; rw [f19]; exact Int.natCast_nonneg _
    · subst q7; rw [f20]; exact Int.natCast_nonneg _
    · subst q7; rw [f21]; exact Int.natCast_nonneg _)
  exact tn_vret rfl dX3_init_38 ⟨rfl, tT_eq, cx62.2.1.tag cx62.1 (by decide) hf9 (fun h => absurd h (by decide)), cx62.2.2.1.tag (by rw [cx62.1]; decide) (by decide), cx62.2.2.2.1.tag, cx62.2.2.2.2.1, cx62.2.2.2.2.2, cjf.1, cjf.2, nx7.tag, nx41.tag⟩
end
section
set_option maxHeartbeats 1000000 in
set_option maxRecDepth 20000 in
theorem kj_X2_init_32 (d : Nat) {T : CT} {σ : MS} {a : Nat} {K : List Nat} {fl : Nat} (hraw : T a = (80 + 2, 0)) (hb : WTn T σ) (hcd : CD K T) (hdf : ∀ j, j < 200 → σ.2.1 j (a : Int) = dfF j) {S0 : Nat → Prop} (hij : INJT S0 T σ) (h_fl : T fl = (33, 0)) : Tn (d + 1) m_X2_init 0 T σ [(0, .ref a), (1, .ref fl)] [] (fun ro T2 σ2 => ro = none ∧ T2 a = (32, 0) ∧ WTn T2 σ2 ∧ CD K T2 ∧ KPx a T σ T2 σ2 ∧ σ2.1 0 = σ.1 0 + (0 : Nat) ∧ σ2.1 1 = σ.1 1 + (0 : Nat) ∧ INJT S0 T2 σ2 ∧ FRN T T2 σ2 ∧ NX 7 a T T2 ∧ NX 41 a T T2) := by
  have cx0 : CX a 2 K 0 0 T σ T σ := CX.begin hraw hb hcd
  have cj : CXJ S0 a 2 T T σ := CXJ.begin hraw (fun f9 h9 c9 => (hdf f9 (by have := afl_lt h9; omega)).trans ((by decide : ∀ f ∈ AFL, dfF f = -1) f9 h9)) hij
  have nx7 : NX 7 a T T := NX.begin (by decide)
  have nx41 : NX 41 a T T := NX.begin (by decide)
  have f17 : σ.2.1 17 a = -1 := (hdf 17 (by decide)).trans (by decide)
  refine tn_aload_n dX2_init_0 rfl 0 rfl ?_
  refine tn_objInit dX2_init_1 mlo2_3 oiI oiC (by omega) (Nat.le_of_ble_eq_true rfl) ?_
  refine tn_aload_n dX2_init_4 rfl 0 rfl ?_
  refine tn_aload_n dX2_init_5 rfl 1 rfl ?_
  refine tn_putFr (ci := 2) (i := 0) (n := 17) (r := true) (v := (fl : Int)) tyX2 tyX2_ok nmX2 dX2_init_6 rfl lay_2 (by decide) fl2_9 rfl rfl rfl (tyX2_ok 0 (by decide)) (vl_ref rfl).symm rfl rfl (cx0.r (by decide)) rfl rfl ?_
  obtain ⟨σ2, eS4, cx5, f17, cj⟩ : ∃ (σ2 : MS), σ2 = (sA 17 a ((fl : Int)) σ) ∧ CX a 2 K 0 0 T σ T σ2 ∧ (σ2.2.1 17 a = (fl : Int)) ∧ CXJ S0 a 2 T T σ2 := ⟨_, rfl, (cx0.put (by decide)), ra_eq, (CXJ.put cj cx0.1 cx0.2.1 (by decide))⟩
  rw [← eS4]
  refine tn_tag (ci := 2) (k := 32) (by decide) cx5.1 (by decide) ?_
  have hf9 : ∀ m, m < 111 → cls m = 2 → FO m 32 T (σ2.2.1 m a) := fun m hm9 hc9 => by
    have q9 := clsR_2 m hm9 hc9
    have q8 : m = 17 := by omega
    subst q8; rw [f17]; exact fo_17 (⟨_, rfl, tg1 h_fl⟩)
  have jq9 : ∀ f ∈ AFL, cls f = 2 → False := by decide
  have cjf := CXJ.fin (k := 32) cj cx5.1 (by decide) (fun f9 h9 c9 => by exact (jq9 f9 h9 c9).elim)
  exact tn_vret rfl dX2_init_9 ⟨rfl, tT_eq, cx5.2.1.tag cx5.1 (by decide) hf9 (fun h => absurd h (by decide)), cx5.2.2.1.tag (by rw [cx5.1]; decide) (by decide), cx5.2.2.2.1.tag, cx5.2.2.2.2.1, cx5.2.2.2.2.2, cjf.1, cjf.2, nx7.tag, nx41.tag⟩
end
section
set_option maxHeartbeats 1000000 in
set_option maxRecDepth 20000 in
theorem kj_X4_init_34 (d : Nat) {T : CT} {σ : MS} {a : Nat} {K : List Nat} {fl : Nat} (hraw : T a = (80 + 4, 0)) (hb : WTn T σ) (hcd : CD K T) (hdf : ∀ j, j < 200 → σ.2.1 j (a : Int) = dfF j) {S0 : Nat → Prop} (hij : INJT S0 T σ) (h_fl : T fl = (33, 0)) : Tn (d + 1) m_X4_init 0 T σ [(0, .ref a), (1, .ref fl)] [] (fun ro T2 σ2 => ro = none ∧ T2 a = (34, 0) ∧ WTn T2 σ2 ∧ CD K T2 ∧ KPx a T σ T2 σ2 ∧ σ2.1 0 = σ.1 0 + (8 : Nat) ∧ σ2.1 1 = σ.1 1 + (1 : Nat) ∧ INJT S0 T2 σ2 ∧ FRN T T2 σ2 ∧ NX 7 a T T2 ∧ NX 41 a T T2) := by
  have cx0 : CX a 4 K 0 0 T σ T σ := CX.begin hraw hb hcd
  have cj : CXJ S0 a 4 T T σ := CXJ.begin hraw (fun f9 h9 c9 => (hdf f9 (by have := afl_lt h9; omega)).trans ((by decide : ∀ f ∈ AFL, dfF f = -1) f9 h9)) hij
  have nx7 : NX 7 a T T := NX.begin (by decide)
  have nx41 : NX 41 a T T := NX.begin (by decide)
  have f23 : σ.2.1 23 a = -1 := (hdf 23 (by decide)).trans (by decide)
  have f24 : σ.2.1 24 a = -1 := (hdf 24 (by decide)).trans (by decide)
  have f25 : σ.2.1 25 a = -1 := (hdf 25 (by decide)).trans (by decide)
  have f26 : σ.2.1 26 a = -1 := (hdf 26 (by decide)).trans (by decide)
  have f27 : σ.2.1 27 a = 0 := (hdf 27 (by decide)).trans (by decide)
  have f28 : σ.2.1 28 a = 0 := (hdf 28 (by decide)).trans (by decide)
  have f29 : σ.2.1 29 a = 0 := (hdf 29 (by decide)).trans (by decide)
  have f30 : σ.2.1 30 a = 0 := (hdf 30 (by decide)).trans (by decide)
  have f31 : σ.2.1 31 a = 0 := (hdf 31 (by decide)).trans (by decide)
  have f32 : σ.2.1 32 a = 0 := (hdf 32 (by decide)).trans (by decide)
  refine tn_aload_n dX4_init_0 rfl 0 rfl ?_
  refine tn_objInit dX4_init_1 mlo4_3 oiI oiC (by omega) (Nat.le_of_ble_eq_true rfl) ?_
  refine tn_aload_n dX4_init_4 rfl 0 rfl ?_
  refine tn_bipush dX4_init_5 (by decide) ?_
  refine tn_newI (N := 8) (k := 1) dX4_init_7 arC_int (by decide) rfl (by decide) (fun x1 hx2 => ?_)
  have ne3 := cx0.ne hx2
  have ne3z := (cx0.fresh hx2).resolve_right (fun e => ne3 e.symm)
  have ne3j := CXJ.new (T2 := (tT T x1 1 8)) (σ2 := (rowS (1000 + x1) (fun _ => 0) (gh 8 σ))) cj cx0.1 cx0.2.1 hx2 (by rw [tT_eq]; decide) (fun b9 e9 => tT_ne e9) (fun n9 c9 hn9 hc9 => by rw [rowS_ne (by omega)]; rfl)
  obtain ⟨T4, σ5, eT6, eS7, cx8, f23, f24, f25, f26, f27, f28, f29, f30, f31, f32, o9, o10, nx7, nx41, cj, un⟩ : ∃ (T4 : CT) (σ5 : MS), T4 = (tT T x1 1 8) ∧ σ5 = (rowS (1000 + x1) (fun _ => 0) (gh 8 σ)) ∧ CX a 4 K 8 1 T σ T4 σ5 ∧ (σ5.2.1 23 a = -1) ∧ (σ5.2.1 24 a = -1) ∧ (σ5.2.1 25 a = -1) ∧ (σ5.2.1 26 a = -1) ∧ (σ5.2.1 27 a = 0) ∧ (σ5.2.1 28 a = 0) ∧ (σ5.2.1 29 a = 0) ∧ (σ5.2.1 30 a = 0) ∧ (σ5.2.1 31 a = 0) ∧ (σ5.2.1 32 a = 0) ∧ (T4 fl = (33, 0)) ∧ (T4 x1 = (1, 8)) ∧ NX 7 a T T4 ∧ NX 41 a T T4 ∧ CXJ S0 a 4 T T4 σ5 ∧ UNF a 4 x1 T4 σ5 := ⟨_, _, rfl, rfl, (cx0.newI hx2 (by decide)), (by rw [rowS_ne (by omega)]; exact f23), (by rw [rowS_ne (by omega)]; exact f24), (by rw [rowS_ne (by omega)]; exact f25), (by rw [rowS_ne (by omega)]; exact f26), (by rw [rowS_ne (by omega)]; exact f27), (by rw [rowS_ne (by omega)]; exact f28), (by rw [rowS_ne (by omega)]; exact f29), (by rw [rowS_ne (by omega)]; exact f30), (by rw [rowS_ne (by omega)]; exact f31), (by rw [rowS_ne (by omega)]; exact f32), (tk_keep h_fl (by decide) hx2), tT_eq, (nx7.mk9 (by decide)), (nx41.mk9 (by decide)), ne3j.1, ne3j.2⟩
  rw [← eT6]
  rw [← eS7]
  refine tn_putFr (ci := 4) (i := 1) (n := 24) (r := true) (v := (x1 : Int)) tyX4 tyX4_ok nmX4 dX4_init_9 rfl lay_4 (by decide) fl4_9 rfl rfl rfl (tyX4_ok 1 (by decide)) (vl_ref rfl).symm rfl rfl (cx8.r (by decide)) rfl rfl ?_
  obtain ⟨σ12, eS14, cx15, f23, f24, f25, f26, f27, f28, f29, f30, f31, f32, cj⟩ : ∃ (σ12 : MS), σ12 = (sA 24 a ((x1 : Int)) σ5) ∧ CX a 4 K 8 1 T σ T4 σ12 ∧ (σ12.2.1 23 a = -1) ∧ (σ12.2.1 24 a = (x1 : Int)) ∧ (σ12.2.1 25 a = -1) ∧ (σ12.2.1 26 a = -1) ∧ (σ12.2.1 27 a = 0) ∧ (σ12.2.1 28 a = 0) ∧ (σ12.2.1 29 a = 0) ∧ (σ12.2.1 30 a = 0) ∧ (σ12.2.1 31 a = 0) ∧ (σ12.2.1 32 a = 0) ∧ CXJ S0 a 4 T T4 σ12 := ⟨_, rfl, (cx8.put (by decide)), (rc_o (by decide) f23), ra_eq, (rc_o (by decide) f25), (rc_o (by decide) f26), (rc_o (by decide) f27), (rc_o (by decide) f28), (rc_o (by decide) f29), (rc_o (by decide) f30), (rc_o (by decide) f31), (rc_o (by decide) f32), (CXJ.putA cj cx8.1 (by decide) rfl un (by rw [o10]; decide) ne3z)⟩
  rw [← eS14]
  refine tn_aload_n dX4_init_12 rfl 0 rfl ?_
  refine tn_aload_n dX4_init_13 rfl 1 rfl ?_
  refine tn_putFr (ci := 4) (i := 0) (n := 23) (r := true) (v := (fl : Int)) tyX4 tyX4_ok nmX4 dX4_init_14 rfl lay_4 (by decide) fl4_15 rfl rfl rfl (tyX4_ok 0 (by decide)) (vl_ref rfl).symm rfl rfl (cx15.r (by decide)) rfl rfl ?_
  obtain ⟨σ17, eS19, cx20, f23, f24, f25, f26, f27, f28, f29, f30, f31, f32, cj⟩ : ∃ (σ17 : MS), σ17 = (sA 23 a ((fl : Int)) σ12) ∧ CX a 4 K 8 1 T σ T4 σ17 ∧ (σ17.2.1 23 a = (fl : Int)) ∧ (σ17.2.1 24 a = (x1 : Int)) ∧ (σ17.2.1 25 a = -1) ∧ (σ17.2.1 26 a = -1) ∧ (σ17.2.1 27 a = 0) ∧ (σ17.2.1 28 a = 0) ∧ (σ17.2.1 29 a = 0) ∧ (σ17.2.1 30 a = 0) ∧ (σ17.2.1 31 a = 0) ∧ (σ17.2.1 32 a = 0) ∧ CXJ S0 a 4 T T4 σ17 := ⟨_, rfl, (cx15.put (by decide)), ra_eq, (rc_o (by decide) f24), (rc_o (by decide) f25), (rc_o (by decide) f26), (rc_o (by decide) f27), (rc_o (by decide) f28), (rc_o (by decide) f29), (rc_o (by decide) f30), (rc_o (by decide) f31), (rc_o (by decide) f32), (CXJ.put cj cx15.1 cx15.2.1 (by decide))⟩
  rw [← eS19]
  refine tn_tag (ci := 4) (k := 34) (by decide) cx20.1 (by decide) ?_
  have hf9 : ∀ m, m < 111 → cls m = 4 → FO m 34 T4 (σ17.2.1 m a) := fun m hm9 hc9 => by
    have q9 := clsR_4 m hm9 hc9
    have q8 : m = 23 ∨ m = 24 ∨ m = 25 ∨ m = 26 ∨ m = 27 ∨ m = 28 ∨ m = 29 ∨ m = 30 ∨ m = 31 ∨ m = 32 := by omega
    rcases q8 with q8 | q8 | q8 | q8 | q8 | q8 | q8 | q8 | q8 | q8
    · subst q8; rw [f23]; exact fo_23 (⟨_, rfl, tg1 o9⟩)
    · subst q8; rw [f24]; exact fo_24 (⟨_, rfl, AR.of o10 (by decide) (by decide)⟩)
    · subst q8; rw [f25]; exact fo_25 (Or.inl (by decide))
    · subst q8; rw [f26]; exact fo_26 (Or.inl (by decide))
    · subst q8; rw [f27]; exact fo_27 (by decide)
    · subst q8; rw [f28]; exact fo_28 (by decide)
    · subst q8; rw [f29]; exact fo_29 (by decide)
    · subst q8; rw [f30]; exact fo_30 (by decide)
    · subst q8; rw [f31]; exact fo_31 (by decide)
    · subst q8; rw [f32]; exact fo_32 (by decide)
  have jq9 : ∀ f ∈ AFL, cls f = 4 → f = 24 := by decide
  have cjf := CXJ.fin (k := 34) cj cx20.1 (by decide) (fun f9 h9 c9 => by
    have q7 := jq9 f9 h9 c9
    subst q7; rw [f24]; exact Int.natCast_nonneg _)
  exact tn_vret rfl dX4_init_17 ⟨rfl, tT_eq, cx20.2.1.tag cx20.1 (by decide) hf9 (fun h => absurd h (by decide)), cx20.2.2.1.tag (by rw [cx20.1]; decide) (by decide), cx20.2.2.2.1.tag, cx20.2.2.2.2.1, cx20.2.2.2.2.2, cjf.1, cjf.2, nx7.tag, nx41.tag⟩
end
section
set_option maxHeartbeats 1000000 in
set_option maxRecDepth 20000 in
theorem kj_X6_init_36 (d : Nat) {T : CT} {σ : MS} {a : Nat} {K : List Nat} (hraw : T a = (80 + 6, 0)) (hb : WTn T σ) (hcd : CD K T) (hdf : ∀ j, j < 200 → σ.2.1 j (a : Int) = dfF j) {S0 : Nat → Prop} (hij : INJT S0 T σ) : Tn (d + 1) m_X6_init 0 T σ [(0, .ref a)] [] (fun ro T2 σ2 => ro = none ∧ T2 a = (36, 0) ∧ WTn T2 σ2 ∧ CD K T2 ∧ KPx a T σ T2 σ2 ∧ σ2.1 0 = σ.1 0 + (387 : Nat) ∧ σ2.1 1 = σ.1 1 + (3 : Nat) ∧ INJT S0 T2 σ2 ∧ FRN T T2 σ2 ∧ NX 7 a T T2 ∧ NX 41 a T T2) := by
  have cx0 : CX a 6 K 0 0 T σ T σ := CX.begin hraw hb hcd
  have cj : CXJ S0 a 6 T T σ := CXJ.begin hraw (fun f9 h9 c9 => (hdf f9 (by have := afl_lt h9; omega)).trans ((by decide : ∀ f ∈ AFL, dfF f = -1) f9 h9)) hij
  have nx7 : NX 7 a T T := NX.begin (by decide)
  have nx41 : NX 41 a T T := NX.begin (by decide)
  have f52 : σ.2.1 52 a = -1 := (hdf 52 (by decide)).trans (by decide)
  have f53 : σ.2.1 53 a = -1 := (hdf 53 (by decide)).trans (by decide)
  have f54 : σ.2.1 54 a = -1 := (hdf 54 (by decide)).trans (by decide)
  refine tn_aload_n dX6_init_0 rfl 0 rfl ?_
  refine tn_objInit dX6_init_1 mlo6_3 oiI oiC (by omega) (Nat.le_of_ble_eq_true rfl) ?_
  refine tn_aload_n dX6_init_4 rfl 0 rfl ?_
  refine tn_sipush dX6_init_5 (by decide) ?_
  refine tn_newI (N := 192) (k := 1) dX6_init_8 arC_int (by decide) rfl (by decide) (fun x1 hx2 => ?_)
  have ne3 := cx0.ne hx2
  have ne3z := (cx0.fresh hx2).resolve_right (fun e => ne3 e.symm)
  have ne3j := CXJ.new (T2 := (tT T x1 1 192)) (σ2 := (rowS (1000 + x1) (fun _ => 0) (gh 192 σ))) cj cx0.1 cx0.2.1 hx2 (by rw [tT_eq]; decide) (fun b9 e9 => tT_ne e9) (fun n9 c9 hn9 hc9 => by rw [rowS_ne (by omega)]; rfl)
  obtain ⟨T4, σ5, eT6, eS7, cx8, f52, f53, f54, o9, nx7, nx41, cj, un⟩ : ∃ (T4 : CT) (σ5 : MS), T4 = (tT T x1 1 192) ∧ σ5 = (rowS (1000 + x1) (fun _ => 0) (gh 192 σ)) ∧ CX a 6 K 192 1 T σ T4 σ5 ∧ (σ5.2.1 52 a = -1) ∧ (σ5.2.1 53 a = -1) ∧ (σ5.2.1 54 a = -1) ∧ (T4 x1 = (1, 192)) ∧ NX 7 a T T4 ∧ NX 41 a T T4 ∧ CXJ S0 a 6 T T4 σ5 ∧ UNF a 6 x1 T4 σ5 := ⟨_, _, rfl, rfl, (cx0.newI hx2 (by decide)), (by rw [rowS_ne (by omega)]; exact f52), (by rw [rowS_ne (by omega)]; exact f53), (by rw [rowS_ne (by omega)]; exact f54), tT_eq, (nx7.mk9 (by decide)), (nx41.mk9 (by decide)), ne3j.1, ne3j.2⟩
  rw [← eT6]
  rw [← eS7]
  refine tn_putFr (ci := 6) (i := 0) (n := 52) (r := true) (v := (x1 : Int)) tyX6 tyX6_ok nmX6 dX6_init_10 rfl lay_6 (by decide) fl6_9 rfl rfl rfl (tyX6_ok 0 (by decide)) (vl_ref rfl).symm rfl rfl (cx8.r (by decide)) rfl rfl ?_
  obtain ⟨σ11, eS13, cx14, f52, f53, f54, cj⟩ : ∃ (σ11 : MS), σ11 = (sA 52 a ((x1 : Int)) σ5) ∧ CX a 6 K 192 1 T σ T4 σ11 ∧ (σ11.2.1 52 a = (x1 : Int)) ∧ (σ11.2.1 53 a = -1) ∧ (σ11.2.1 54 a = -1) ∧ CXJ S0 a 6 T T4 σ11 := ⟨_, rfl, (cx8.put (by decide)), ra_eq, (rc_o (by decide) f53), (rc_o (by decide) f54), (CXJ.putA cj cx8.1 (by decide) rfl un (by rw [o9]; decide) ne3z)⟩
  rw [← eS13]
  refine tn_aload_n dX6_init_13 rfl 0 rfl ?_
  refine tn_sipush dX6_init_14 (by decide) ?_
  refine tn_newI (N := 192) (k := 1) dX6_init_17 arC_int (by decide) rfl (by decide) (fun x15 hx16 => ?_)
  have ne17 := cx14.ne hx16
  have ne17z := (cx14.fresh hx16).resolve_right (fun e => ne17 e.symm)
  have ne17j := CXJ.new (T2 := (tT T4 x15 1 192)) (σ2 := (rowS (1000 + x15) (fun _ => 0) (gh 192 σ11))) cj cx14.1 cx14.2.1 hx16 (by rw [tT_eq]; decide) (fun b9 e9 => tT_ne e9) (fun n9 c9 hn9 hc9 => by rw [rowS_ne (by omega)]; rfl)
  obtain ⟨T18, σ19, eT20, eS21, cx22, f52, f53, f54, o23, o24, nx7, nx41, cj, un⟩ : ∃ (T18 : CT) (σ19 : MS), T18 = (tT T4 x15 1 192) ∧ σ19 = (rowS (1000 + x15) (fun _ => 0) (gh 192 σ11)) ∧ CX a 6 K 384 2 T σ T18 σ19 ∧ (σ19.2.1 52 a = (x1 : Int)) ∧ (σ19.2.1 53 a = -1) ∧ (σ19.2.1 54 a = -1) ∧ (T18 x1 = (1, 192)) ∧ (T18 x15 = (1, 192)) ∧ NX 7 a T T18 ∧ NX 41 a T T18 ∧ CXJ S0 a 6 T T18 σ19 ∧ UNF a 6 x15 T18 σ19 := ⟨_, _, rfl, rfl, (cx14.newI hx16 (by decide)), (by rw [rowS_ne (by omega)]; exact f52), (by rw [rowS_ne (by omega)]; exact f53), (by rw [rowS_ne (by omega)]; exact f54), (tk_keep o9 (by decide) hx16), tT_eq, (nx7.mk9 (by decide)), (nx41.mk9 (by decide)), ne17j.1, ne17j.2⟩
  rw [← eT20]
  rw [← eS21]
  refine tn_putFr (ci := 6) (i := 1) (n := 53) (r := true) (v := (x15 : Int)) tyX6 tyX6_ok nmX6 dX6_init_19 rfl lay_6 (by decide) fl6_15 rfl rfl rfl (tyX6_ok 1 (by decide)) (vl_ref rfl).symm rfl rfl (cx22.r (by decide)) rfl rfl ?_
  obtain ⟨σ26, eS28, cx29, f52, f53, f54, cj⟩ : ∃ (σ26 : MS), σ26 = (sA 53 a ((x15 : Int)) σ19) ∧ CX a 6 K 384 2 T σ T18 σ26 ∧ (σ26.2.1 52 a = (x1 : Int)) ∧ (σ26.2.1 53 a = (x15 : Int)) ∧ (σ26.2.1 54 a = -1) ∧ CXJ S0 a 6 T T18 σ26 := ⟨_, rfl, (cx22.put (by decide)), (rc_o (by decide) f52), ra_eq, (rc_o (by decide) f54), (CXJ.putA cj cx22.1 (by decide) rfl un (by rw [o24]; decide) ne17z)⟩
  rw [← eS28]
  refine tn_aload_n dX6_init_22 rfl 0 rfl ?_
  refine tn_iconst dX6_init_23 ?_
  refine tn_newJ (N := 3) dX6_init_24 arC_long rfl (by decide) (fun x30 hx31 => ?_)
  have ne32 := cx29.ne hx31
  have ne32z := (cx29.fresh hx31).resolve_right (fun e => ne32 e.symm)
  have ne32j := CXJ.new (T2 := (tT T18 x30 3 3)) (σ2 := (rowL x30 (fun _ => 0) (gh 3 σ26))) cj cx29.1 cx29.2.1 hx31 (by rw [tT_eq]; decide) (fun b9 e9 => tT_ne e9) (fun n9 c9 hn9 hc9 => rfl)
  obtain ⟨T33, σ34, eT35, eS36, cx37, f52, f53, f54, o38, o39, o40, nx7, nx41, cj, un⟩ : ∃ (T33 : CT) (σ34 : MS), T33 = (tT T18 x30 3 3) ∧ σ34 = (rowL x30 (fun _ => 0) (gh 3 σ26)) ∧ CX a 6 K 387 3 T σ T33 σ34 ∧ (σ34.2.1 52 a = (x1 : Int)) ∧ (σ34.2.1 53 a = (x15 : Int)) ∧ (σ34.2.1 54 a = -1) ∧ (T33 x1 = (1, 192)) ∧ (T33 x15 = (1, 192)) ∧ (T33 x30 = (3, 3)) ∧ NX 7 a T T33 ∧ NX 41 a T T33 ∧ CXJ S0 a 6 T T33 σ34 ∧ UNF a 6 x30 T33 σ34 := ⟨_, _, rfl, rfl, (cx29.newJ hx31), f52, f53, f54, (tk_keep o23 (by decide) hx31), (tk_keep o24 (by decide) hx31), tT_eq, (nx7.mk9 (by decide)), (nx41.mk9 (by decide)), ne32j.1, ne32j.2⟩
  rw [← eT35]
  rw [← eS36]
  refine tn_putFr (ci := 6) (i := 2) (n := 54) (r := true) (v := (x30 : Int)) tyX6 tyX6_ok nmX6 dX6_init_26 rfl lay_6 (by decide) fl6_18 rfl rfl rfl (tyX6_ok 2 (by decide)) (vl_ref rfl).symm rfl rfl (cx37.r (by decide)) rfl rfl ?_
  obtain ⟨σ42, eS44, cx45, f52, f53, f54, cj⟩ : ∃ (σ42 : MS), σ42 = (sA 54 a ((x30 : Int)) σ34) ∧ CX a 6 K 387 3 T σ T33 σ42 ∧ (σ42.2.1 52 a = (x1 : Int)) ∧ (σ42.2.1 53 a = (x15 : Int)) ∧ (σ42.2.1 54 a = (x30 : Int)) ∧ CXJ S0 a 6 T T33 σ42 := ⟨_, rfl, (cx37.put (by decide)), (rc_o (by decide) f52), (rc_o (by decide) f53), ra_eq, (CXJ.putA cj cx37.1 (by decide) rfl un (by rw [o40]; decide) ne32z)⟩
  rw [← eS44]
  refine tn_tag (ci := 6) (k := 36) (by decide) cx45.1 (by decide) ?_
  have hf9 : ∀ m, m < 111 → cls m = 6 → FO m 36 T33 (σ42.2.1 m a) := fun m hm9 hc9 => by
    have q9 := clsR_6 m hm9 hc9
    have q8 : m = 52 ∨ m = 53 ∨ m = 54 := by omega
    rcases q8 with q8 | q8 | q8
    · subst q8; rw [f52]; exact fo_52 (⟨_, rfl, AR.of o38 (by decide) (by decide)⟩)
    · subst q8; rw [f53]; exact fo_53 (⟨_, rfl, AR.of o39 (by decide) (by decide)⟩)
    · subst q8; rw [f54]; exact fo_54 (⟨_, rfl, AR.of o40 (by decide) (by decide)⟩)
  have jq9 : ∀ f ∈ AFL, cls f = 6 → f = 52 ∨ f = 53 ∨ f = 54 := by decide
  have cjf := CXJ.fin (k := 36) cj cx45.1 (by decide) (fun f9 h9 c9 => by
    have q7 := jq9 f9 h9 c9
    rcases q7 with q7 | q7 | q7
    · subst q7; rw [f52]; exact Int.natCast_nonneg _
    · subst q7; rw [f53]; exact Int.natCast_nonneg _
    · subst q7; rw [f54]; exact Int.natCast_nonneg _)
  exact tn_vret rfl dX6_init_29 ⟨rfl, tT_eq, cx45.2.1.tag cx45.1 (by decide) hf9 (fun h => absurd h (by decide)), cx45.2.2.1.tag (by rw [cx45.1]; decide) (by decide), cx45.2.2.2.1.tag, cx45.2.2.2.2.1, cx45.2.2.2.2.2, cjf.1, cjf.2, nx7.tag, nx41.tag⟩
end
section
set_option maxHeartbeats 1000000 in
set_option maxRecDepth 20000 in
theorem kj_X8_init_38 (d : Nat) {T : CT} {σ : MS} {a : Nat} {K : List Nat} {fl : Nat} (hraw : T a = (80 + 8, 0)) (hb : WTn T σ) (hcd : CD K T) (hdf : ∀ j, j < 200 → σ.2.1 j (a : Int) = dfF j) {S0 : Nat → Prop} (hij : INJT S0 T σ) (h_fl : T fl = (33, 0)) : Tn (d + 1) m_X8_init 0 T σ [(0, .ref a), (1, .ref fl)] [] (fun ro T2 σ2 => ro = none ∧ T2 a = (38, 0) ∧ WTn T2 σ2 ∧ CD K T2 ∧ KPx a T σ T2 σ2 ∧ σ2.1 0 = σ.1 0 + (2154 : Nat) ∧ σ2.1 1 = σ.1 1 + (7 : Nat) ∧ INJT S0 T2 σ2 ∧ FRN T T2 σ2 ∧ NX 7 a T T2 ∧ NX 41 a T T2) := by
  have cx0 : CX a 8 K 0 0 T σ T σ := CX.begin hraw hb hcd
  have cj : CXJ S0 a 8 T T σ := CXJ.begin hraw (fun f9 h9 c9 => (hdf f9 (by have := afl_lt h9; omega)).trans ((by decide : ∀ f ∈ AFL, dfF f = -1) f9 h9)) hij
  have nx7 : NX 7 a T T := NX.begin (by decide)
  have nx41 : NX 41 a T T := NX.begin (by decide)
  have f72 : σ.2.1 72 a = -1 := (hdf 72 (by decide)).trans (by decide)
  have f73 : σ.2.1 73 a = -1 := (hdf 73 (by decide)).trans (by decide)
  have f74 : σ.2.1 74 a = -1 := (hdf 74 (by decide)).trans (by decide)
  have f75 : σ.2.1 75 a = -1 := (hdf 75 (by decide)).trans (by decide)
  have f76 : σ.2.1 76 a = -1 := (hdf 76 (by decide)).trans (by decide)
  have f77 : σ.2.1 77 a = -1 := (hdf 77 (by decide)).trans (by decide)
  have f78 : σ.2.1 78 a = -1 := (hdf 78 (by decide)).trans (by decide)
  have f79 : σ.2.1 79 a = -1 := (hdf 79 (by decide)).trans (by decide)
  have f80 : σ.2.1 80 a = 0 := (hdf 80 (by decide)).trans (by decide)
  refine tn_aload_n dX8_init_0 rfl 0 rfl ?_
  refine tn_objInit dX8_init_1 mlo8_3 oiI oiC (by omega) (Nat.le_of_ble_eq_true rfl) ?_
  refine tn_aload_n dX8_init_4 rfl 0 rfl ?_
  refine tn_sipush dX8_init_5 (by decide) ?_
  refine tn_newJ (N := 576) dX8_init_8 arC_long rfl (by decide) (fun x1 hx2 => ?_)
  have ne3 := cx0.ne hx2
  have ne3z := (cx0.fresh hx2).resolve_right (fun e => ne3 e.symm)
  have ne3j := CXJ.new (T2 := (tT T x1 3 576)) (σ2 := (rowL x1 (fun _ => 0) (gh 576 σ))) cj cx0.1 cx0.2.1 hx2 (by rw [tT_eq]; decide) (fun b9 e9 => tT_ne e9) (fun n9 c9 hn9 hc9 => rfl)
  obtain ⟨T4, σ5, eT6, eS7, cx8, f72, f73, f74, f75, f76, f77, f78, f79, f80, o9, o10, nx7, nx41, cj, un⟩ : ∃ (T4 : CT) (σ5 : MS), T4 = (tT T x1 3 576) ∧ σ5 = (rowL x1 (fun _ => 0) (gh 576 σ)) ∧ CX a 8 K 576 1 T σ T4 σ5 ∧ (σ5.2.1 72 a = -1) ∧ (σ5.2.1 73 a = -1) ∧ (σ5.2.1 74 a = -1) ∧ (σ5.2.1 75 a = -1) ∧ (σ5.2.1 76 a = -1) ∧ (σ5.2.1 77 a = -1) ∧ (σ5.2.1 78 a = -1) ∧ (σ5.2.1 79 a = -1) ∧ (σ5.2.1 80 a = 0) ∧ (T4 fl = (33, 0)) ∧ (T4 x1 = (3, 576)) ∧ NX 7 a T T4 ∧ NX 41 a T T4 ∧ CXJ S0 a 8 T T4 σ5 ∧ UNF a 8 x1 T4 σ5 := ⟨_, _, rfl, rfl, (cx0.newJ hx2), f72, f73, f74, f75, f76, f77, f78, f79, f80, (tk_keep h_fl (by decide) hx2), tT_eq, (nx7.mk9 (by decide)), (nx41.mk9 (by decide)), ne3j.1, ne3j.2⟩
  rw [← eT6]
  rw [← eS7]
  refine tn_putFr (ci := 8) (i := 1) (n := 73) (r := true) (v := (x1 : Int)) tyX8 tyX8_ok nmX8 dX8_init_10 rfl lay_8 (by decide) fl8_9 rfl rfl rfl (tyX8_ok 1 (by decide)) (vl_ref rfl).symm rfl rfl (cx8.r (by decide)) rfl rfl ?_
  obtain ⟨σ12, eS14, cx15, f72, f73, f74, f75, f76, f77, f78, f79, f80, cj⟩ : ∃ (σ12 : MS), σ12 = (sA 73 a ((x1 : Int)) σ5) ∧ CX a 8 K 576 1 T σ T4 σ12 ∧ (σ12.2.1 72 a = -1) ∧ (σ12.2.1 73 a = (x1 : Int)) ∧ (σ12.2.1 74 a = -1) ∧ (σ12.2.1 75 a = -1) ∧ (σ12.2.1 76 a = -1) ∧ (σ12.2.1 77 a = -1) ∧ (σ12.2.1 78 a = -1) ∧ (σ12.2.1 79 a = -1) ∧ (σ12.2.1 80 a = 0) ∧ CXJ S0 a 8 T T4 σ12 := ⟨_, rfl, (cx8.put (by decide)), (rc_o (by decide) f72), ra_eq, (rc_o (by decide) f74), (rc_o (by decide) f75), (rc_o (by decide) f76), (rc_o (by decide) f77), (rc_o (by decide) f78), (rc_o (by decide) f79), (rc_o (by decide) f80), (CXJ.putA cj cx8.1 (by decide) rfl un (by rw [o10]; decide) ne3z)⟩
  rw [← eS14]
  refine tn_aload_n dX8_init_13 rfl 0 rfl ?_
  refine tn_iconst dX8_init_14 ?_
  refine tn_newJ (N := 3) dX8_init_15 arC_long rfl (by decide) (fun x16 hx17 => ?_)
  have ne18 := cx15.ne hx17
  have ne18z := (cx15.fresh hx17).resolve_right (fun e => ne18 e.symm)
  have ne18j := CXJ.new (T2 := (tT T4 x16 3 3)) (σ2 := (rowL x16 (fun _ => 0) (gh 3 σ12))) cj cx15.1 cx15.2.1 hx17 (by rw [tT_eq]; decide) (fun b9 e9 => tT_ne e9) (fun n9 c9 hn9 hc9 => rfl)
  obtain ⟨T19, σ20, eT21, eS22, cx23, f72, f73, f74, f75, f76, f77, f78, f79, f80, o24, o25, o26, nx7, nx41, cj, un⟩ : ∃ (T19 : CT) (σ20 : MS), T19 = (tT T4 x16 3 3) ∧ σ20 = (rowL x16 (fun _ => 0) (gh 3 σ12)) ∧ CX a 8 K 579 2 T σ T19 σ20 ∧ (σ20.2.1 72 a = -1) ∧ (σ20.2.1 73 a = (x1 : Int)) ∧ (σ20.2.1 74 a = -1) ∧ (σ20.2.1 75 a = -1) ∧ (σ20.2.1 76 a = -1) ∧ (σ20.2.1 77 a = -1) ∧ (σ20.2.1 78 a = -1) ∧ (σ20.2.1 79 a = -1) ∧ (σ20.2.1 80 a = 0) ∧ (T19 fl = (33, 0)) ∧ (T19 x1 = (3, 576)) ∧ (T19 x16 = (3, 3)) ∧ NX 7 a T T19 ∧ NX 41 a T T19 ∧ CXJ S0 a 8 T T19 σ20 ∧ UNF a 8 x16 T19 σ20 := ⟨_, _, rfl, rfl, (cx15.newJ hx17), f72, f73, f74, f75, f76, f77, f78, f79, f80, (tk_keep o9 (by decide) hx17), (tk_keep o10 (by decide) hx17), tT_eq, (nx7.mk9 (by decide)), (nx41.mk9 (by decide)), ne18j.1, ne18j.2⟩
  rw [← eT21]
  rw [← eS22]
  refine tn_putFr (ci := 8) (i := 2) (n := 74) (r := true) (v := (x16 : Int)) tyX8 tyX8_ok nmX8 dX8_init_17 rfl lay_8 (by decide) fl8_15 rfl rfl rfl (tyX8_ok 2 (by decide)) (vl_ref rfl).symm rfl rfl (cx23.r (by decide)) rfl rfl ?_
  obtain ⟨σ28, eS30, cx31, f72, f73, f74, f75, f76, f77, f78, f79, f80, cj⟩ : ∃ (σ28 : MS), σ28 = (sA 74 a ((x16 : Int)) σ20) ∧ CX a 8 K 579 2 T σ T19 σ28 ∧ (σ28.2.1 72 a = -1) ∧ (σ28.2.1 73 a = (x1 : Int)) ∧ (σ28.2.1 74 a = (x16 : Int)) ∧ (σ28.2.1 75 a = -1) ∧ (σ28.2.1 76 a = -1) ∧ (σ28.2.1 77 a = -1) ∧ (σ28.2.1 78 a = -1) ∧ (σ28.2.1 79 a = -1) ∧ (σ28.2.1 80 a = 0) ∧ CXJ S0 a 8 T T19 σ28 := ⟨_, rfl, (cx23.put (by decide)), (rc_o (by decide) f72), (rc_o (by decide) f73), ra_eq, (rc_o (by decide) f75), (rc_o (by decide) f76), (rc_o (by decide) f77), (rc_o (by decide) f78), (rc_o (by decide) f79), (rc_o (by decide) f80), (CXJ.putA cj cx23.1 (by decide) rfl un (by rw [o26]; decide) ne18z)⟩
  rw [← eS30]
  refine tn_aload_n dX8_init_20 rfl 0 rfl ?_
  refine tn_sipush dX8_init_21 (by decide) ?_
  refine tn_newI (N := 192) (k := 1) dX8_init_24 arC_int (by decide) rfl (by decide) (fun x32 hx33 => ?_)
  have ne34 := cx31.ne hx33
  have ne34z := (cx31.fresh hx33).resolve_right (fun e => ne34 e.symm)
  have ne34j := CXJ.new (T2 := (tT T19 x32 1 192)) (σ2 := (rowS (1000 + x32) (fun _ => 0) (gh 192 σ28))) cj cx31.1 cx31.2.1 hx33 (by rw [tT_eq]; decide) (fun b9 e9 => tT_ne e9) (fun n9 c9 hn9 hc9 => by rw [rowS_ne (by omega)]; rfl)
  obtain ⟨T35, σ36, eT37, eS38, cx39, f72, f73, f74, f75, f76, f77, f78, f79, f80, o40, o41, o42, o43, nx7, nx41, cj, un⟩ : ∃ (T35 : CT) (σ36 : MS), T35 = (tT T19 x32 1 192) ∧ σ36 = (rowS (1000 + x32) (fun _ => 0) (gh 192 σ28)) ∧ CX a 8 K 771 3 T σ T35 σ36 ∧ (σ36.2.1 72 a = -1) ∧ (σ36.2.1 73 a = (x1 : Int)) ∧ (σ36.2.1 74 a = (x16 : Int)) ∧ (σ36.2.1 75 a = -1) ∧ (σ36.2.1 76 a = -1) ∧ (σ36.2.1 77 a = -1) ∧ (σ36.2.1 78 a = -1) ∧ (σ36.2.1 79 a = -1) ∧ (σ36.2.1 80 a = 0) ∧ (T35 fl = (33, 0)) ∧ (T35 x1 = (3, 576)) ∧ (T35 x16 = (3, 3)) ∧ (T35 x32 = (1, 192)) ∧ NX 7 a T T35 ∧ NX 41 a T T35 ∧ CXJ S0 a 8 T T35 σ36 ∧ UNF a 8 x32 T35 σ36 := ⟨_, _, rfl, rfl, (cx31.newI hx33 (by decide)), (by rw [rowS_ne (by omega)]; exact f72), (by rw [rowS_ne (by omega)]; exact f73), (by rw [rowS_ne (by omega)]; exact f74), (by rw [rowS_ne (by omega)]; exact f75), (by rw [rowS_ne (by omega)]; exact f76), (by rw [rowS_ne (by omega)]; exact f77), (by rw [rowS_ne (by omega)]; exact f78), (by rw [rowS_ne (by omega)]; exact f79), (by rw [rowS_ne (by omega)]; exact f80), (tk_keep o24 (by decide) hx33), (tk_keep o25 (by decide) hx33), (tk_keep o26 (by decide) hx33), tT_eq, (nx7.mk9 (by decide)), (nx41.mk9 (by decide)), ne34j.1, ne34j.2⟩
  rw [← eT37]
  rw [← eS38]
  refine tn_putFr (ci := 8) (i := 3) (n := 75) (r := true) (v := (x32 : Int)) tyX8 tyX8_ok nmX8 dX8_init_26 rfl lay_8 (by decide) fl8_18 rfl rfl rfl (tyX8_ok 3 (by decide)) (vl_ref rfl).symm rfl rfl (cx39.r (by decide)) rfl rfl ?_
  obtain ⟨σ45, eS47, cx48, f72, f73, f74, f75, f76, f77, f78, f79, f80, cj⟩ : ∃ (σ45 : MS), σ45 = (sA 75 a ((x32 : Int)) σ36) ∧ CX a 8 K 771 3 T σ T35 σ45 ∧ (σ45.2.1 72 a = -1) ∧ (σ45.2.1 73 a = (x1 : Int)) ∧ (σ45.2.1 74 a = (x16 : Int)) ∧ (σ45.2.1 75 a = (x32 : Int)) ∧ (σ45.2.1 76 a = -1) ∧ (σ45.2.1 77 a = -1) ∧ (σ45.2.1 78 a = -1) ∧ (σ45.2.1 79 a = -1) ∧ (σ45.2.1 80 a = 0) ∧ CXJ S0 a 8 T T35 σ45 := ⟨_, rfl, (cx39.put (by decide)), (rc_o (by decide) f72), (rc_o (by decide) f73), (rc_o (by decide) f74), ra_eq, (rc_o (by decide) f76), (rc_o (by decide) f77), (rc_o (by decide) f78), (rc_o (by decide) f79), (rc_o (by decide) f80), (CXJ.putA cj cx39.1 (by decide) rfl un (by rw [o43]; decide) ne34z)⟩
  rw [← eS47]
  refine tn_aload_n dX8_init_29 rfl 0 rfl ?_
  refine tn_sipush dX8_init_30 (by decide) ?_
  refine tn_newJ (N := 576) dX8_init_33 arC_long rfl (by decide) (fun x49 hx50 => ?_)
  have ne51 := cx48.ne hx50
  have ne51z := (cx48.fresh hx50).resolve_right (fun e => ne51 e.symm)
  have ne51j := CXJ.new (T2 := (tT T35 x49 3 576)) (σ2 := (rowL x49 (fun _ => 0) (gh 576 σ45))) cj cx48.1 cx48.2.1 hx50 (by rw [tT_eq]; decide) (fun b9 e9 => tT_ne e9) (fun n9 c9 hn9 hc9 => rfl)
  obtain ⟨T52, σ53, eT54, eS55, cx56, f72, f73, f74, f75, f76, f77, f78, f79, f80, o57, o58, o59, o60, o61, nx7, nx41, cj, un⟩ : ∃ (T52 : CT) (σ53 : MS), T52 = (tT T35 x49 3 576) ∧ σ53 = (rowL x49 (fun _ => 0) (gh 576 σ45)) ∧ CX a 8 K 1347 4 T σ T52 σ53 ∧ (σ53.2.1 72 a = -1) ∧ (σ53.2.1 73 a = (x1 : Int)) ∧ (σ53.2.1 74 a = (x16 : Int)) ∧ (σ53.2.1 75 a = (x32 : Int)) ∧ (σ53.2.1 76 a = -1) ∧ (σ53.2.1 77 a = -1) ∧ (σ53.2.1 78 a = -1) ∧ (σ53.2.1 79 a = -1) ∧ (σ53.2.1 80 a = 0) ∧ (T52 fl = (33, 0)) ∧ (T52 x1 = (3, 576)) ∧ (T52 x16 = (3, 3)) ∧ (T52 x32 = (1, 192)) ∧ (T52 x49 = (3, 576)) ∧ NX 7 a T T52 ∧ NX 41 a T T52 ∧ CXJ S0 a 8 T T52 σ53 ∧ UNF a 8 x49 T52 σ53 := ⟨_, _, rfl, rfl, (cx48.newJ hx50), f72, f73, f74, f75, f76, f77, f78, f79, f80, (tk_keep o40 (by decide) hx50), (tk_keep o41 (by decide) hx50), (tk_keep o42 (by decide) hx50), (tk_keep o43 (by decide) hx50), tT_eq, (nx7.mk9 (by decide)), (nx41.mk9 (by decide)), ne51j.1, ne51j.2⟩
  rw [← eT54]
  rw [← eS55]
  refine tn_putFr (ci := 8) (i := 4) (n := 76) (r := true) (v := (x49 : Int)) tyX8 tyX8_ok nmX8 dX8_init_35 rfl lay_8 (by decide) fl8_22 rfl rfl rfl (tyX8_ok 4 (by decide)) (vl_ref rfl).symm rfl rfl (cx56.r (by decide)) rfl rfl ?_
  obtain ⟨σ63, eS65, cx66, f72, f73, f74, f75, f76, f77, f78, f79, f80, cj⟩ : ∃ (σ63 : MS), σ63 = (sA 76 a ((x49 : Int)) σ53) ∧ CX a 8 K 1347 4 T σ T52 σ63 ∧ (σ63.2.1 72 a = -1) ∧ (σ63.2.1 73 a = (x1 : Int)) ∧ (σ63.2.1 74 a = (x16 : Int)) ∧ (σ63.2.1 75 a = (x32 : Int)) ∧ (σ63.2.1 76 a = (x49 : Int)) ∧ (σ63.2.1 77 a = -1) ∧ (σ63.2.1 78 a = -1) ∧ (σ63.2.1 79 a = -1) ∧ (σ63.2.1 80 a = 0) ∧ CXJ S0 a 8 T T52 σ63 := ⟨_, rfl, (cx56.put (by decide)), (rc_o (by decide) f72), (rc_o (by decide) f73), (rc_o (by decide) f74), (rc_o (by decide) f75), ra_eq, (rc_o (by decide) f77), (rc_o (by decide) f78), (rc_o (by decide) f79), (rc_o (by decide) f80), (CXJ.putA cj cx56.1 (by decide) rfl un (by rw [o61]; decide) ne51z)⟩
  rw [← eS65]
  refine tn_aload_n dX8_init_38 rfl 0 rfl ?_
  refine tn_sipush dX8_init_39 (by decide) ?_
  refine tn_newJ (N := 603) dX8_init_42 arC_long rfl (by decide) (fun x67 hx68 => ?_)
  have ne69 := cx66.ne hx68
  have ne69z := (cx66.fresh hx68).resolve_right (fun e => ne69 e.symm)
  have ne69j := CXJ.new (T2 := (tT T52 x67 3 603)) (σ2 := (rowL x67 (fun _ => 0) (gh 603 σ63))) cj cx66.1 cx66.2.1 hx68 (by rw [tT_eq]; decide) (fun b9 e9 => tT_ne e9) (fun n9 c9 hn9 hc9 => rfl)
  obtain ⟨T70, σ71, eT72, eS73, cx74, f72, f73, f74, f75, f76, f77, f78, f79, f80, o75, o76, o77, o78, o79, o80, nx7, nx41, cj, un⟩ : ∃ (T70 : CT) (σ71 : MS), T70 = (tT T52 x67 3 603) ∧ σ71 = (rowL x67 (fun _ => 0) (gh 603 σ63)) ∧ CX a 8 K 1950 5 T σ T70 σ71 ∧ (σ71.2.1 72 a = -1) ∧ (σ71.2.1 73 a = (x1 : Int)) ∧ (σ71.2.1 74 a = (x16 : Int)) ∧ (σ71.2.1 75 a = (x32 : Int)) ∧ (σ71.2.1 76 a = (x49 : Int)) ∧ (σ71.2.1 77 a = -1) ∧ (σ71.2.1 78 a = -1) ∧ (σ71.2.1 79 a = -1) ∧ (σ71.2.1 80 a = 0) ∧ (T70 fl = (33, 0)) ∧ (T70 x1 = (3, 576)) ∧ (T70 x16 = (3, 3)) ∧ (T70 x32 = (1, 192)) ∧ (T70 x49 = (3, 576)) ∧ (T70 x67 = (3, 603)) ∧ NX 7 a T T70 ∧ NX 41 a T T70 ∧ CXJ S0 a 8 T T70 σ71 ∧ UNF a 8 x67 T70 σ71 := ⟨_, _, rfl, rfl, (cx66.newJ hx68), f72, f73, f74, f75, f76, f77, f78, f79, f80, (tk_keep o57 (by decide) hx68), (tk_keep o58 (by decide) hx68), (tk_keep o59 (by decide) hx68), (tk_keep o60 (by decide) hx68), (tk_keep o61 (by decide) hx68), tT_eq, (nx7.mk9 (by decide)), (nx41.mk9 (by decide)), ne69j.1, ne69j.2⟩
  rw [← eT72]
  rw [← eS73]
  refine tn_putFr (ci := 8) (i := 5) (n := 77) (r := true) (v := (x67 : Int)) tyX8 tyX8_ok nmX8 dX8_init_44 rfl lay_8 (by decide) fl8_25 rfl rfl rfl (tyX8_ok 5 (by decide)) (vl_ref rfl).symm rfl rfl (cx74.r (by decide)) rfl rfl ?_
  obtain ⟨σ82, eS84, cx85, f72, f73, f74, f75, f76, f77, f78, f79, f80, cj⟩ : ∃ (σ82 : MS), σ82 = (sA 77 a ((x67 : Int)) σ71) ∧ CX a 8 K 1950 5 T σ T70 σ82 ∧ (σ82.2.1 72 a = -1) ∧ (σ82.2.1 73 a = (x1 : Int)) ∧ (σ82.2.1 74 a = (x16 : Int)) ∧ (σ82.2.1 75 a = (x32 : Int)) ∧ (σ82.2.1 76 a = (x49 : Int)) ∧ (σ82.2.1 77 a = (x67 : Int)) ∧ (σ82.2.1 78 a = -1) ∧ (σ82.2.1 79 a = -1) ∧ (σ82.2.1 80 a = 0) ∧ CXJ S0 a 8 T T70 σ82 := ⟨_, rfl, (cx74.put (by decide)), (rc_o (by decide) f72), (rc_o (by decide) f73), (rc_o (by decide) f74), (rc_o (by decide) f75), (rc_o (by decide) f76), ra_eq, (rc_o (by decide) f78), (rc_o (by decide) f79), (rc_o (by decide) f80), (CXJ.putA cj cx74.1 (by decide) rfl un (by rw [o80]; decide) ne69z)⟩
  rw [← eS84]
  refine tn_aload_n dX8_init_47 rfl 0 rfl ?_
  refine tn_sipush dX8_init_48 (by decide) ?_
  refine tn_newI (N := 201) (k := 1) dX8_init_51 arC_int (by decide) rfl (by decide) (fun x86 hx87 => ?_)
  have ne88 := cx85.ne hx87
  have ne88z := (cx85.fresh hx87).resolve_right (fun e => ne88 e.symm)
  have ne88j := CXJ.new (T2 := (tT T70 x86 1 201)) (σ2 := (rowS (1000 + x86) (fun _ => 0) (gh 201 σ82))) cj cx85.1 cx85.2.1 hx87 (by rw [tT_eq]; decide) (fun b9 e9 => tT_ne e9) (fun n9 c9 hn9 hc9 => by rw [rowS_ne (by omega)]; rfl)
  obtain ⟨T89, σ90, eT91, eS92, cx93, f72, f73, f74, f75, f76, f77, f78, f79, f80, o94, o95, o96, o97, o98, o99, o100, nx7, nx41, cj, un⟩ : ∃ (T89 : CT) (σ90 : MS), T89 = (tT T70 x86 1 201) ∧ σ90 = (rowS (1000 + x86) (fun _ => 0) (gh 201 σ82)) ∧ CX a 8 K 2151 6 T σ T89 σ90 ∧ (σ90.2.1 72 a = -1) ∧ (σ90.2.1 73 a = (x1 : Int)) ∧ (σ90.2.1 74 a = (x16 : Int)) ∧ (σ90.2.1 75 a = (x32 : Int)) ∧ (σ90.2.1 76 a = (x49 : Int)) ∧ (σ90.2.1 77 a = (x67 : Int)) ∧ (σ90.2.1 78 a = -1) ∧ (σ90.2.1 79 a = -1) ∧ (σ90.2.1 80 a = 0) ∧ (T89 fl = (33, 0)) ∧ (T89 x1 = (3, 576)) ∧ (T89 x16 = (3, 3)) ∧ (T89 x32 = (1, 192)) ∧ (T89 x49 = (3, 576)) ∧ (T89 x67 = (3, 603)) ∧ (T89 x86 = (1, 201)) ∧ NX 7 a T T89 ∧ NX 41 a T T89 ∧ CXJ S0 a 8 T T89 σ90 ∧ UNF a 8 x86 T89 σ90 := ⟨_, _, rfl, rfl, (cx85.newI hx87 (by decide)), (by rw [rowS_ne (by omega)]; exact f72), (by rw [rowS_ne (by omega)]; exact f73), (by rw [rowS_ne (by omega)]; exact f74), (by rw [rowS_ne (by omega)]; exact f75), (by rw [rowS_ne (by omega)]; exact f76), (by rw [rowS_ne (by omega)]; exact f77), (by rw [rowS_ne (by omega)]; exact f78), (by rw [rowS_ne (by omega)]; exact f79), (by rw [rowS_ne (by omega)]; exact f80), (tk_keep o75 (by decide) hx87), (tk_keep o76 (by decide) hx87), (tk_keep o77 (by decide) hx87), (tk_keep o78 (by decide) hx87), (tk_keep o79 (by decide) hx87), (tk_keep o80 (by decide) hx87), tT_eq, (nx7.mk9 (by decide)), (nx41.mk9 (by decide)), ne88j.1, ne88j.2⟩
  rw [← eT91]
  rw [← eS92]
  refine tn_putFr (ci := 8) (i := 6) (n := 78) (r := true) (v := (x86 : Int)) tyX8 tyX8_ok nmX8 dX8_init_53 rfl lay_8 (by decide) fl8_28 rfl rfl rfl (tyX8_ok 6 (by decide)) (vl_ref rfl).symm rfl rfl (cx93.r (by decide)) rfl rfl ?_
  obtain ⟨σ102, eS104, cx105, f72, f73, f74, f75, f76, f77, f78, f79, f80, cj⟩ : ∃ (σ102 : MS), σ102 = (sA 78 a ((x86 : Int)) σ90) ∧ CX a 8 K 2151 6 T σ T89 σ102 ∧ (σ102.2.1 72 a = -1) ∧ (σ102.2.1 73 a = (x1 : Int)) ∧ (σ102.2.1 74 a = (x16 : Int)) ∧ (σ102.2.1 75 a = (x32 : Int)) ∧ (σ102.2.1 76 a = (x49 : Int)) ∧ (σ102.2.1 77 a = (x67 : Int)) ∧ (σ102.2.1 78 a = (x86 : Int)) ∧ (σ102.2.1 79 a = -1) ∧ (σ102.2.1 80 a = 0) ∧ CXJ S0 a 8 T T89 σ102 := ⟨_, rfl, (cx93.put (by decide)), (rc_o (by decide) f72), (rc_o (by decide) f73), (rc_o (by decide) f74), (rc_o (by decide) f75), (rc_o (by decide) f76), (rc_o (by decide) f77), ra_eq, (rc_o (by decide) f79), (rc_o (by decide) f80), (CXJ.putA cj cx93.1 (by decide) rfl un (by rw [o100]; decide) ne88z)⟩
  rw [← eS104]
  refine tn_aload_n dX8_init_56 rfl 0 rfl ?_
  refine tn_iconst dX8_init_57 ?_
  refine tn_newJ (N := 3) dX8_init_58 arC_long rfl (by decide) (fun x106 hx107 => ?_)
  have ne108 := cx105.ne hx107
  have ne108z := (cx105.fresh hx107).resolve_right (fun e => ne108 e.symm)
  have ne108j := CXJ.new (T2 := (tT T89 x106 3 3)) (σ2 := (rowL x106 (fun _ => 0) (gh 3 σ102))) cj cx105.1 cx105.2.1 hx107 (by rw [tT_eq]; decide) (fun b9 e9 => tT_ne e9) (fun n9 c9 hn9 hc9 => rfl)
  obtain ⟨T109, σ110, eT111, eS112, cx113, f72, f73, f74, f75, f76, f77, f78, f79, f80, o114, o115, o116, o117, o118, o119, o120, o121, nx7, nx41, cj, un⟩ : ∃ (T109 : CT) (σ110 : MS), T109 = (tT T89 x106 3 3) ∧ σ110 = (rowL x106 (fun _ => 0) (gh 3 σ102)) ∧ CX a 8 K 2154 7 T σ T109 σ110 ∧ (σ110.2.1 72 a = -1) ∧ (σ110.2.1 73 a = (x1 : Int)) ∧ (σ110.2.1 74 a = (x16 : Int)) ∧ (σ110.2.1 75 a = (x32 : Int)) ∧ (σ110.2.1 76 a = (x49 : Int)) ∧ (σ110.2.1 77 a = (x67 : Int)) ∧ (σ110.2.1 78 a = (x86 : Int)) ∧ (σ110.2.1 79 a = -1) ∧ (σ110.2.1 80 a = 0) ∧ (T109 fl = (33, 0)) ∧ (T109 x1 = (3, 576)) ∧ (T109 x16 = (3, 3)) ∧ (T109 x32 = (1, 192)) ∧ (T109 x49 = (3, 576)) ∧ (T109 x67 = (3, 603)) ∧ (T109 x86 = (1, 201)) ∧ (T109 x106 = (3, 3)) ∧ NX 7 a T T109 ∧ NX 41 a T T109 ∧ CXJ S0 a 8 T T109 σ110 ∧ UNF a 8 x106 T109 σ110 := ⟨_, _, rfl, rfl, (cx105.newJ hx107), f72, f73, f74, f75, f76, f77, f78, f79, f80, (tk_keep o94 (by decide) hx107), (tk_keep o95 (by decide) hx107), (tk_keep o96 (by decide) hx107), (tk_keep o97 (by decide) hx107), (tk_keep o98 (by decide) hx107), (tk_keep o99 (by decide) hx107), (tk_keep o100 (by decide) hx107), tT_eq, (nx7.mk9 (by decide)), (nx41.mk9 (by decide)), ne108j.1, ne108j.2⟩
  rw [← eT111]
  rw [← eS112]
  refine tn_putFr (ci := 8) (i := 7) (n := 79) (r := true) (v := (x106 : Int)) tyX8 tyX8_ok nmX8 dX8_init_60 rfl lay_8 (by decide) fl8_31 rfl rfl rfl (tyX8_ok 7 (by decide)) (vl_ref rfl).symm rfl rfl (cx113.r (by decide)) rfl rfl ?_
  obtain ⟨σ123, eS125, cx126, f72, f73, f74, f75, f76, f77, f78, f79, f80, cj⟩ : ∃ (σ123 : MS), σ123 = (sA 79 a ((x106 : Int)) σ110) ∧ CX a 8 K 2154 7 T σ T109 σ123 ∧ (σ123.2.1 72 a = -1) ∧ (σ123.2.1 73 a = (x1 : Int)) ∧ (σ123.2.1 74 a = (x16 : Int)) ∧ (σ123.2.1 75 a = (x32 : Int)) ∧ (σ123.2.1 76 a = (x49 : Int)) ∧ (σ123.2.1 77 a = (x67 : Int)) ∧ (σ123.2.1 78 a = (x86 : Int)) ∧ (σ123.2.1 79 a = (x106 : Int)) ∧ (σ123.2.1 80 a = 0) ∧ CXJ S0 a 8 T T109 σ123 := ⟨_, rfl, (cx113.put (by decide)), (rc_o (by decide) f72), (rc_o (by decide) f73), (rc_o (by decide) f74), (rc_o (by decide) f75), (rc_o (by decide) f76), (rc_o (by decide) f77), (rc_o (by decide) f78), ra_eq, (rc_o (by decide) f80), (CXJ.putA cj cx113.1 (by decide) rfl un (by rw [o121]; decide) ne108z)⟩
  rw [← eS125]
  refine tn_aload_n dX8_init_63 rfl 0 rfl ?_
  refine tn_aload_n dX8_init_64 rfl 1 rfl ?_
  refine tn_putFr (ci := 8) (i := 0) (n := 72) (r := true) (v := (fl : Int)) tyX8 tyX8_ok nmX8 dX8_init_65 rfl lay_8 (by decide) fl8_34 rfl rfl rfl (tyX8_ok 0 (by decide)) (vl_ref rfl).symm rfl rfl (cx126.r (by decide)) rfl rfl ?_
  obtain ⟨σ128, eS130, cx131, f72, f73, f74, f75, f76, f77, f78, f79, f80, cj⟩ : ∃ (σ128 : MS), σ128 = (sA 72 a ((fl : Int)) σ123) ∧ CX a 8 K 2154 7 T σ T109 σ128 ∧ (σ128.2.1 72 a = (fl : Int)) ∧ (σ128.2.1 73 a = (x1 : Int)) ∧ (σ128.2.1 74 a = (x16 : Int)) ∧ (σ128.2.1 75 a = (x32 : Int)) ∧ (σ128.2.1 76 a = (x49 : Int)) ∧ (σ128.2.1 77 a = (x67 : Int)) ∧ (σ128.2.1 78 a = (x86 : Int)) ∧ (σ128.2.1 79 a = (x106 : Int)) ∧ (σ128.2.1 80 a = 0) ∧ CXJ S0 a 8 T T109 σ128 := ⟨_, rfl, (cx126.put (by decide)), ra_eq, (rc_o (by decide) f73), (rc_o (by decide) f74), (rc_o (by decide) f75), (rc_o (by decide) f76), (rc_o (by decide) f77), (rc_o (by decide) f78), (rc_o (by decide) f79), (rc_o (by decide) f80), (CXJ.put cj cx126.1 cx126.2.1 (by decide))⟩
  rw [← eS130]
  refine tn_tag (ci := 8) (k := 38) (by decide) cx131.1 (by decide) ?_
  have hf9 : ∀ m, m < 111 → cls m = 8 → FO m 38 T109 (σ128.2.1 m a) := fun m hm9 hc9 => by
    have q9 := clsR_8 m hm9 hc9
    have q8 : m = 72 ∨ m = 73 ∨ m = 74 ∨ m = 75 ∨ m = 76 ∨ m = 77 ∨ m = 78 ∨ m = 79 ∨ m = 80 := by omega
    rcases q8 with q8 | q8 | q8 | q8 | q8 | q8 | q8 | q8 | q8
    · subst q8; rw [f72]; exact fo_72 (⟨_, rfl, tg1 o114⟩)
    · subst q8; rw [f73]; exact fo_73 (⟨_, rfl, AR.of o115 (by decide) (by decide)⟩)
    · subst q8; rw [f74]; exact fo_74 (⟨_, rfl, AR.of o116 (by decide) (by decide)⟩)
    · subst q8; rw [f75]; exact fo_75 (⟨_, rfl, AR.of o117 (by decide) (by decide)⟩)
    · subst q8; rw [f76]; exact fo_76 (⟨_, rfl, AR.of o118 (by decide) (by decide)⟩)
    · subst q8; rw [f77]; exact fo_77 (⟨_, rfl, AR.of o119 (by decide) (by decide)⟩)
    · subst q8; rw [f78]; exact fo_78 (⟨_, rfl, AR.of o120 (by decide) (by decide)⟩)
    · subst q8; rw [f79]; exact fo_79 (⟨_, rfl, AR.of o121 (by decide) (by decide)⟩)
    · subst q8; rw [f80]; exact fo_80 (by decide)
  have jq9 : ∀ f ∈ AFL, cls f = 8 → f = 73 ∨ f = 74 ∨ f = 75 ∨ f = 76 ∨ f = 77 ∨ f = 78 ∨ f = 79 := by decide
  have cjf := CXJ.fin (k := 38) cj cx131.1 (by decide) (fun f9 h9 c9 => by
    have q7 := jq9 f9 h9 c9
    rcases q7 with q7 | q7 | q7 | q7 | q7 | q7 | q7
    · subst q7; rw [f73]; exact Int.natCast_nonneg _
    · subst q7; rw [f74]; exact Int.natCast_nonneg _
    · subst q7; rw [f75]; exact Int.natCast_nonneg _
    · subst q7; rw [f76]; exact Int.natCast_nonneg _
    · subst q7; rw [f77]; exact Int.natCast_nonneg _
    · subst q7; rw [f78]; exact Int.natCast_nonneg _
    · subst q7; rw [f79]; exact Int.natCast_nonneg _)
  exact tn_vret rfl dX8_init_68 ⟨rfl, tT_eq, cx131.2.1.tag cx131.1 (by decide) hf9 (fun h => absurd h (by decide)), cx131.2.2.1.tag (by rw [cx131.1]; decide) (by decide), cx131.2.2.2.1.tag, cx131.2.2.2.2.1, cx131.2.2.2.2.2, cjf.1, cjf.2, nx7.tag, nx41.tag⟩
end
section
set_option maxHeartbeats 1000000 in
set_option maxRecDepth 20000 in
theorem kj_X9_init_39 (d : Nat) {T : CT} {σ : MS} {a : Nat} {K : List Nat} (hraw : T a = (80 + 9, 0)) (hb : WTn T σ) (hcd : CD K T) (hdf : ∀ j, j < 200 → σ.2.1 j (a : Int) = dfF j) {S0 : Nat → Prop} (hij : INJT S0 T σ) : Tn (d + 1) m_X9_init 0 T σ [(0, .ref a)] [] (fun ro T2 σ2 => ro = none ∧ T2 a = (39, 0) ∧ WTn T2 σ2 ∧ CD K T2 ∧ KPx a T σ T2 σ2 ∧ σ2.1 0 = σ.1 0 + (3603 : Nat) ∧ σ2.1 1 = σ.1 1 + (3 : Nat) ∧ INJT S0 T2 σ2 ∧ FRN T T2 σ2 ∧ NX 7 a T T2 ∧ NX 41 a T T2) := by
  have cx0 : CX a 9 K 0 0 T σ T σ := CX.begin hraw hb hcd
  have cj : CXJ S0 a 9 T T σ := CXJ.begin hraw (fun f9 h9 c9 => (hdf f9 (by have := afl_lt h9; omega)).trans ((by decide : ∀ f ∈ AFL, dfF f = -1) f9 h9)) hij
  have nx7 : NX 7 a T T := NX.begin (by decide)
  have nx41 : NX 41 a T T := NX.begin (by decide)
  have f81 : σ.2.1 81 a = -1 := (hdf 81 (by decide)).trans (by decide)
  have f82 : σ.2.1 82 a = -1 := (hdf 82 (by decide)).trans (by decide)
  have f83 : σ.2.1 83 a = -1 := (hdf 83 (by decide)).trans (by decide)
  have f84 : σ.2.1 84 a = 0 := (hdf 84 (by decide)).trans (by decide)
  have f85 : σ.2.1 85 a = 0 := (hdf 85 (by decide)).trans (by decide)
  have f86 : σ.2.1 86 a = 0 := (hdf 86 (by decide)).trans (by decide)
  have f87 : σ.2.1 87 a = 0 := (hdf 87 (by decide)).trans (by decide)
  refine tn_aload_n dX9_init_0 rfl 0 rfl ?_
  refine tn_objInit dX9_init_1 mlo9_3 oiI oiC (by omega) (Nat.le_of_ble_eq_true rfl) ?_
  refine tn_aload_n dX9_init_4 rfl 0 rfl ?_
  refine tn_sipush dX9_init_5 (by decide) ?_
  refine tn_newI (N := 1201) (k := 12) dX9_init_8 arC_int (by decide) rfl (by decide) (fun x1 hx2 => ?_)
  have ne3 := cx0.ne hx2
  have ne3z := (cx0.fresh hx2).resolve_right (fun e => ne3 e.symm)
  have ne3j := CXJ.new (T2 := (tT T x1 12 1201)) (σ2 := (rowS (1000 + x1) (fun _ => 0) (gh 1201 σ))) cj cx0.1 cx0.2.1 hx2 (by rw [tT_eq]; decide) (fun b9 e9 => tT_ne e9) (fun n9 c9 hn9 hc9 => by rw [rowS_ne (by omega)]; rfl)
  obtain ⟨T4, σ5, eT6, eS7, cx8, f81, f82, f83, f84, f85, f86, f87, o9, nx7, nx41, cj, un⟩ : ∃ (T4 : CT) (σ5 : MS), T4 = (tT T x1 12 1201) ∧ σ5 = (rowS (1000 + x1) (fun _ => 0) (gh 1201 σ)) ∧ CX a 9 K 1201 1 T σ T4 σ5 ∧ (σ5.2.1 81 a = -1) ∧ (σ5.2.1 82 a = -1) ∧ (σ5.2.1 83 a = -1) ∧ (σ5.2.1 84 a = 0) ∧ (σ5.2.1 85 a = 0) ∧ (σ5.2.1 86 a = 0) ∧ (σ5.2.1 87 a = 0) ∧ (T4 x1 = (12, 1201)) ∧ NX 7 a T T4 ∧ NX 41 a T T4 ∧ CXJ S0 a 9 T T4 σ5 ∧ UNF a 9 x1 T4 σ5 := ⟨_, _, rfl, rfl, (cx0.newI hx2 (by decide)), (by rw [rowS_ne (by omega)]; exact f81), (by rw [rowS_ne (by omega)]; exact f82), (by rw [rowS_ne (by omega)]; exact f83), (by rw [rowS_ne (by omega)]; exact f84), (by rw [rowS_ne (by omega)]; exact f85), (by rw [rowS_ne (by omega)]; exact f86), (by rw [rowS_ne (by omega)]; exact f87), tT_eq, (nx7.mk9 (by decide)), (nx41.mk9 (by decide)), ne3j.1, ne3j.2⟩
  rw [← eT6]
  rw [← eS7]
  refine tn_putFr (ci := 9) (i := 0) (n := 81) (r := true) (v := (x1 : Int)) tyX9 tyX9_ok nmX9 dX9_init_10 rfl lay_9 (by decide) fl9_9 rfl rfl rfl (tyX9_ok 0 (by decide)) (vl_ref rfl).symm rfl rfl (cx8.r (by decide)) rfl rfl ?_
  obtain ⟨σ11, eS13, cx14, f81, f82, f83, f84, f85, f86, f87, cj⟩ : ∃ (σ11 : MS), σ11 = (sA 81 a ((x1 : Int)) σ5) ∧ CX a 9 K 1201 1 T σ T4 σ11 ∧ (σ11.2.1 81 a = (x1 : Int)) ∧ (σ11.2.1 82 a = -1) ∧ (σ11.2.1 83 a = -1) ∧ (σ11.2.1 84 a = 0) ∧ (σ11.2.1 85 a = 0) ∧ (σ11.2.1 86 a = 0) ∧ (σ11.2.1 87 a = 0) ∧ CXJ S0 a 9 T T4 σ11 := ⟨_, rfl, (cx8.put (by decide)), ra_eq, (rc_o (by decide) f82), (rc_o (by decide) f83), (rc_o (by decide) f84), (rc_o (by decide) f85), (rc_o (by decide) f86), (rc_o (by decide) f87), (CXJ.putA cj cx8.1 (by decide) rfl un (by rw [o9]; decide) ne3z)⟩
  rw [← eS13]
  refine tn_aload_n dX9_init_13 rfl 0 rfl ?_
  refine tn_sipush dX9_init_14 (by decide) ?_
  refine tn_newI (N := 1201) (k := 22) dX9_init_17 arC_int (by decide) rfl (by decide) (fun x15 hx16 => ?_)
  have ne17 := cx14.ne hx16
  have ne17z := (cx14.fresh hx16).resolve_right (fun e => ne17 e.symm)
  have ne17j := CXJ.new (T2 := (tT T4 x15 22 1201)) (σ2 := (rowS (1000 + x15) (fun _ => 0) (gh 1201 σ11))) cj cx14.1 cx14.2.1 hx16 (by rw [tT_eq]; decide) (fun b9 e9 => tT_ne e9) (fun n9 c9 hn9 hc9 => by rw [rowS_ne (by omega)]; rfl)
  obtain ⟨T18, σ19, eT20, eS21, cx22, f81, f82, f83, f84, f85, f86, f87, o23, o24, nx7, nx41, cj, un⟩ : ∃ (T18 : CT) (σ19 : MS), T18 = (tT T4 x15 22 1201) ∧ σ19 = (rowS (1000 + x15) (fun _ => 0) (gh 1201 σ11)) ∧ CX a 9 K 2402 2 T σ T18 σ19 ∧ (σ19.2.1 81 a = (x1 : Int)) ∧ (σ19.2.1 82 a = -1) ∧ (σ19.2.1 83 a = -1) ∧ (σ19.2.1 84 a = 0) ∧ (σ19.2.1 85 a = 0) ∧ (σ19.2.1 86 a = 0) ∧ (σ19.2.1 87 a = 0) ∧ (T18 x1 = (12, 1201)) ∧ (T18 x15 = (22, 1201)) ∧ NX 7 a T T18 ∧ NX 41 a T T18 ∧ CXJ S0 a 9 T T18 σ19 ∧ UNF a 9 x15 T18 σ19 := ⟨_, _, rfl, rfl, (cx14.newI hx16 (by decide)), (by rw [rowS_ne (by omega)]; exact f81), (by rw [rowS_ne (by omega)]; exact f82), (by rw [rowS_ne (by omega)]; exact f83), (by rw [rowS_ne (by omega)]; exact f84), (by rw [rowS_ne (by omega)]; exact f85), (by rw [rowS_ne (by omega)]; exact f86), (by rw [rowS_ne (by omega)]; exact f87), (tk_keep o9 (by decide) hx16), tT_eq, (nx7.mk9 (by decide)), (nx41.mk9 (by decide)), ne17j.1, ne17j.2⟩
  rw [← eT20]
  rw [← eS21]
  refine tn_putFr (ci := 9) (i := 1) (n := 82) (r := true) (v := (x15 : Int)) tyX9 tyX9_ok nmX9 dX9_init_19 rfl lay_9 (by decide) fl9_15 rfl rfl rfl (tyX9_ok 1 (by decide)) (vl_ref rfl).symm rfl rfl (cx22.r (by decide)) rfl rfl ?_
  obtain ⟨σ26, eS28, cx29, f81, f82, f83, f84, f85, f86, f87, cj⟩ : ∃ (σ26 : MS), σ26 = (sA 82 a ((x15 : Int)) σ19) ∧ CX a 9 K 2402 2 T σ T18 σ26 ∧ (σ26.2.1 81 a = (x1 : Int)) ∧ (σ26.2.1 82 a = (x15 : Int)) ∧ (σ26.2.1 83 a = -1) ∧ (σ26.2.1 84 a = 0) ∧ (σ26.2.1 85 a = 0) ∧ (σ26.2.1 86 a = 0) ∧ (σ26.2.1 87 a = 0) ∧ CXJ S0 a 9 T T18 σ26 := ⟨_, rfl, (cx22.put (by decide)), (rc_o (by decide) f81), ra_eq, (rc_o (by decide) f83), (rc_o (by decide) f84), (rc_o (by decide) f85), (rc_o (by decide) f86), (rc_o (by decide) f87), (CXJ.putA cj cx22.1 (by decide) rfl un (by rw [o24]; decide) ne17z)⟩
  rw [← eS28]
  refine tn_aload_n dX9_init_22 rfl 0 rfl ?_
  refine tn_sipush dX9_init_23 (by decide) ?_
  refine tn_newI (N := 1201) (k := 23) dX9_init_26 arC_int (by decide) rfl (by decide) (fun x30 hx31 => ?_)
  have ne32 := cx29.ne hx31
  have ne32z := (cx29.fresh hx31).resolve_right (fun e => ne32 e.symm)
  have ne32j := CXJ.new (T2 := (tT T18 x30 23 1201)) (σ2 := (rowS (1000 + x30) (fun _ => 0) (gh 1201 σ26))) cj cx29.1 cx29.2.1 hx31 (by rw [tT_eq]; decide) (fun b9 e9 => tT_ne e9) (fun n9 c9 hn9 hc9 => by rw [rowS_ne (by omega)]; rfl)
  obtain ⟨T33, σ34, eT35, eS36, cx37, f81, f82, f83, f84, f85, f86, f87, o38, o39, o40, nx7, nx41, cj, un⟩ : ∃ (T33 : CT) (σ34 : MS), T33 = (tT T18 x30 23 1201) ∧ σ34 = (rowS (1000 + x30) (fun _ => 0) (gh 1201 σ26)) ∧ CX a 9 K 3603 3 T σ T33 σ34 ∧ (σ34.2.1 81 a = (x1 : Int)) ∧ (σ34.2.1 82 a = (x15 : Int)) ∧ (σ34.2.1 83 a = -1) ∧ (σ34.2.1 84 a = 0) ∧ (σ34.2.1 85 a = 0) ∧ (σ34.2.1 86 a = 0) ∧ (σ34.2.1 87 a = 0) ∧ (T33 x1 = (12, 1201)) ∧ (T33 x15 = (22, 1201)) ∧ (T33 x30 = (23, 1201)) ∧ NX 7 a T T33 ∧ NX 41 a T T33 ∧ CXJ S0 a 9 T T33 σ34 ∧ UNF a 9 x30 T33 σ34 := ⟨_, _, rfl, rfl, (cx29.newI hx31 (by decide)), (by rw [rowS_ne (by omega)]; exact f81), (by rw [rowS_ne (by omega)]; exact f82), (by rw [rowS_ne (by omega)]; exact f83), (by rw [rowS_ne (by omega)]; exact f84), (by rw [rowS_ne (by omega)]; exact f85), (by rw [rowS_ne (by omega)]; exact f86), (by rw [rowS_ne (by omega)]; exact f87), (tk_keep o23 (by decide) hx31), (tk_keep o24 (by decide) hx31), tT_eq, (nx7.mk9 (by decide)), (nx41.mk9 (by decide)), ne32j.1, ne32j.2⟩
  rw [← eT35]
  rw [← eS36]
  refine tn_putFr (ci := 9) (i := 2) (n := 83) (r := true) (v := (x30 : Int)) tyX9 tyX9_ok nmX9 dX9_init_28 rfl lay_9 (by decide) fl9_18 rfl rfl rfl (tyX9_ok 2 (by decide)) (vl_ref rfl).symm rfl rfl (cx37.r (by decide)) rfl rfl ?_
  obtain ⟨σ42, eS44, cx45, f81, f82, f83, f84, f85, f86, f87, cj⟩ : ∃ (σ42 : MS), σ42 = (sA 83 a ((x30 : Int)) σ34) ∧ CX a 9 K 3603 3 T σ T33 σ42 ∧ (σ42.2.1 81 a = (x1 : Int)) ∧ (σ42.2.1 82 a = (x15 : Int)) ∧ (σ42.2.1 83 a = (x30 : Int)) ∧ (σ42.2.1 84 a = 0) ∧ (σ42.2.1 85 a = 0) ∧ (σ42.2.1 86 a = 0) ∧ (σ42.2.1 87 a = 0) ∧ CXJ S0 a 9 T T33 σ42 := ⟨_, rfl, (cx37.put (by decide)), (rc_o (by decide) f81), (rc_o (by decide) f82), ra_eq, (rc_o (by decide) f84), (rc_o (by decide) f85), (rc_o (by decide) f86), (rc_o (by decide) f87), (CXJ.putA cj cx37.1 (by decide) rfl un (by rw [o40]; decide) ne32z)⟩
  rw [← eS44]
  refine tn_tag (ci := 9) (k := 39) (by decide) cx45.1 (by decide) ?_
  have hf9 : ∀ m, m < 111 → cls m = 9 → FO m 39 T33 (σ42.2.1 m a) := fun m hm9 hc9 => by
    have q9 := clsR_9 m hm9 hc9
    have q8 : m = 81 ∨ m = 82 ∨ m = 83 ∨ m = 84 ∨ m = 85 ∨ m = 86 ∨ m = 87 := by omega
    rcases q8 with q8 | q8 | q8 | q8 | q8 | q8 | q8
    · subst q8; rw [f81]; exact fo_81 (⟨_, rfl, AR.of o38 (by decide) (by decide)⟩)
    · subst q8; rw [f82]; exact fo_82 (⟨_, rfl, AR.of o39 (by decide) (by decide)⟩)
    · subst q8; rw [f83]; exact fo_83 (⟨_, rfl, AR.of o40 (by decide) (by decide)⟩)
    · subst q8; rw [f84]; exact fo_84 (by decide)
    · subst q8; rw [f85]; exact fo_85 (by decide)
    · subst q8; rw [f86]; exact fo_86 (by decide)
    · subst q8; rw [f87]; exact fo_87 (by decide)
  have jq9 : ∀ f ∈ AFL, cls f = 9 → f = 81 ∨ f = 82 ∨ f = 83 := by decide
  have cjf := CXJ.fin (k := 39) cj cx45.1 (by decide) (fun f9 h9 c9 => by
    have q7 := jq9 f9 h9 c9
    rcases q7 with q7 | q7 | q7
    · subst q7; rw [f81]; exact Int.natCast_nonneg _
    · subst q7; rw [f82]; exact Int.natCast_nonneg _
    · subst q7; rw [f83]; exact Int.natCast_nonneg _)
  exact tn_vret rfl dX9_init_31 ⟨rfl, tT_eq, cx45.2.1.tag cx45.1 (by decide) hf9 (fun h => absurd h (by decide)), cx45.2.2.1.tag (by rw [cx45.1]; decide) (by decide), cx45.2.2.2.1.tag, cx45.2.2.2.2.1, cx45.2.2.2.2.2, cjf.1, cjf.2, nx7.tag, nx41.tag⟩
end
section
set_option maxHeartbeats 1000000 in
set_option maxRecDepth 20000 in
theorem kj_X10_init_40 (d : Nat) {T : CT} {σ : MS} {a : Nat} {K : List Nat} (hraw : T a = (80 + 10, 0)) (hb : WTn T σ) (hcd : CD K T) (hdf : ∀ j, j < 200 → σ.2.1 j (a : Int) = dfF j) {S0 : Nat → Prop} (hij : INJT S0 T σ) (h9 : σ.2.1 900 = fun _ => -1) (h7 : ∀ c, (T c).1 ≠ 7) : Tn (d + 1) m_X10_init 0 T σ [(0, .ref a)] [] (fun ro T2 σ2 => ro = none ∧ T2 a = (40, 0) ∧ WTn T2 σ2 ∧ CD K T2 ∧ KPx a T σ T2 σ2 ∧ σ2.1 0 = σ.1 0 + (357 : Nat) ∧ σ2.1 1 = σ.1 1 + (4 : Nat) ∧ INJT S0 T2 σ2 ∧ FRN T T2 σ2 ∧ NX 41 a T T2) := by
  have cx0 : CX a 10 K 0 0 T σ T σ := CX.begin hraw hb hcd
  have cj : CXJ S0 a 10 T T σ := CXJ.begin hraw (fun f9 h9 c9 => (hdf f9 (by have := afl_lt h9; omega)).trans ((by decide : ∀ f ∈ AFL, dfF f = -1) f9 h9)) hij
  have nx41 : NX 41 a T T := NX.begin (by decide)
  have f88 : σ.2.1 88 a = -1 := (hdf 88 (by decide)).trans (by decide)
  have f89 : σ.2.1 89 a = -1 := (hdf 89 (by decide)).trans (by decide)
  have f90 : σ.2.1 90 a = -1 := (hdf 90 (by decide)).trans (by decide)
  have f91 : σ.2.1 91 a = -1 := (hdf 91 (by decide)).trans (by decide)
  have f92 : σ.2.1 92 a = -1 := (hdf 92 (by decide)).trans (by decide)
  have f93 : σ.2.1 93 a = 0 := (hdf 93 (by decide)).trans (by decide)
  have f94 : σ.2.1 94 a = 0 := (hdf 94 (by decide)).trans (by decide)
  refine tn_aload_n dX10_init_0 rfl 0 rfl ?_
  refine tn_objInit dX10_init_1 mlo10_3 oiI oiC (by omega) (Nat.le_of_ble_eq_true rfl) ?_
  refine tn_aload_n dX10_init_4 rfl 0 rfl ?_
  refine tn_bipush dX10_init_5 (by decide) ?_
  refine tn_anM (N := 6) h7 dX10_init_7 cl10_9 rfl (by decide) (fun x1 hx2 => ?_)
  have ne3 := cx0.ne hx2
  have ne3z := (cx0.fresh hx2).resolve_right (fun e => ne3 e.symm)
  have ne3j := CXJ.new (T2 := (tT T x1 7 6)) (σ2 := (rowS 900 (fun _ => -1) (gh 6 σ))) cj cx0.1 cx0.2.1 hx2 (by rw [tT_eq]; decide) (fun b9 e9 => tT_ne e9) (fun n9 c9 hn9 hc9 => by rw [rowS_ne (by omega)]; rfl)
  obtain ⟨T4, σ5, eT6, eS7, cx8, f88, f89, f90, f91, f92, f93, f94, o9, nx41, cj, un⟩ : ∃ (T4 : CT) (σ5 : MS), T4 = (tT T x1 7 6) ∧ σ5 = (rowS 900 (fun _ => -1) (gh 6 σ)) ∧ CX a 10 K 6 1 T σ T4 σ5 ∧ (σ5.2.1 88 a = -1) ∧ (σ5.2.1 89 a = -1) ∧ (σ5.2.1 90 a = -1) ∧ (σ5.2.1 91 a = -1) ∧ (σ5.2.1 92 a = -1) ∧ (σ5.2.1 93 a = 0) ∧ (σ5.2.1 94 a = 0) ∧ (T4 x1 = (7, 6)) ∧ NX 41 a T T4 ∧ CXJ S0 a 10 T T4 σ5 ∧ UNF a 10 x1 T4 σ5 := ⟨_, _, rfl, rfl, (cx0.newM hx2 h9 h7), (by rw [rowS_ne (by omega)]; exact f88), (by rw [rowS_ne (by omega)]; exact f89), (by rw [rowS_ne (by omega)]; exact f90), (by rw [rowS_ne (by omega)]; exact f91), (by rw [rowS_ne (by omega)]; exact f92), (by rw [rowS_ne (by omega)]; exact f93), (by rw [rowS_ne (by omega)]; exact f94), tT_eq, (nx41.mk9 (by decide)), ne3j.1, ne3j.2⟩
  rw [← eT6]
  rw [← eS7]
  refine tn_putFr (ci := 10) (i := 0) (n := 88) (r := true) (v := (x1 : Int)) tyX10 tyX10_ok nmX10 dX10_init_10 rfl lay_10 (by decide) fl10_11 rfl rfl rfl (tyX10_ok 0 (by decide)) (vl_ref rfl).symm rfl rfl (cx8.r (by decide)) rfl rfl ?_
  obtain ⟨σ11, eS13, cx14, f88, f89, f90, f91, f92, f93, f94, cj⟩ : ∃ (σ11 : MS), σ11 = (sA 88 a ((x1 : Int)) σ5) ∧ CX a 10 K 6 1 T σ T4 σ11 ∧ (σ11.2.1 88 a = (x1 : Int)) ∧ (σ11.2.1 89 a = -1) ∧ (σ11.2.1 90 a = -1) ∧ (σ11.2.1 91 a = -1) ∧ (σ11.2.1 92 a = -1) ∧ (σ11.2.1 93 a = 0) ∧ (σ11.2.1 94 a = 0) ∧ CXJ S0 a 10 T T4 σ11 := ⟨_, rfl, (cx8.put (by decide)), ra_eq, (rc_o (by decide) f89), (rc_o (by decide) f90), (rc_o (by decide) f91), (rc_o (by decide) f92), (rc_o (by decide) f93), (rc_o (by decide) f94), (CXJ.put cj cx8.1 cx8.2.1 (by decide))⟩
  rw [← eS13]
  refine tn_aload_n dX10_init_13 rfl 0 rfl ?_
  refine tn_bipush dX10_init_14 (by decide) ?_
  refine tn_newI (N := 6) (k := 1) dX10_init_16 arC_int (by decide) rfl (by decide) (fun x15 hx16 => ?_)
  have ne17 := cx14.ne hx16
  have ne17z := (cx14.fresh hx16).resolve_right (fun e => ne17 e.symm)
  have ne17j := CXJ.new (T2 := (tT T4 x15 1 6)) (σ2 := (rowS (1000 + x15) (fun _ => 0) (gh 6 σ11))) cj cx14.1 cx14.2.1 hx16 (by rw [tT_eq]; decide) (fun b9 e9 => tT_ne e9) (fun n9 c9 hn9 hc9 => by rw [rowS_ne (by omega)]; rfl)
  obtain ⟨T18, σ19, eT20, eS21, cx22, f88, f89, f90, f91, f92, f93, f94, o23, o24, nx41, cj, un⟩ : ∃ (T18 : CT) (σ19 : MS), T18 = (tT T4 x15 1 6) ∧ σ19 = (rowS (1000 + x15) (fun _ => 0) (gh 6 σ11)) ∧ CX a 10 K 12 2 T σ T18 σ19 ∧ (σ19.2.1 88 a = (x1 : Int)) ∧ (σ19.2.1 89 a = -1) ∧ (σ19.2.1 90 a = -1) ∧ (σ19.2.1 91 a = -1) ∧ (σ19.2.1 92 a = -1) ∧ (σ19.2.1 93 a = 0) ∧ (σ19.2.1 94 a = 0) ∧ (T18 x1 = (7, 6)) ∧ (T18 x15 = (1, 6)) ∧ NX 41 a T T18 ∧ CXJ S0 a 10 T T18 σ19 ∧ UNF a 10 x15 T18 σ19 := ⟨_, _, rfl, rfl, (cx14.newI hx16 (by decide)), (by rw [rowS_ne (by omega)]; exact f88), (by rw [rowS_ne (by omega)]; exact f89), (by rw [rowS_ne (by omega)]; exact f90), (by rw [rowS_ne (by omega)]; exact f91), (by rw [rowS_ne (by omega)]; exact f92), (by rw [rowS_ne (by omega)]; exact f93), (by rw [rowS_ne (by omega)]; exact f94), (tk_keep o9 (by decide) hx16), tT_eq, (nx41.mk9 (by decide)), ne17j.1, ne17j.2⟩
  rw [← eT20]
  rw [← eS21]
  refine tn_putFr (ci := 10) (i := 1) (n := 89) (r := true) (v := (x15 : Int)) tyX10 tyX10_ok nmX10 dX10_init_18 rfl lay_10 (by decide) fl10_17 rfl rfl rfl (tyX10_ok 1 (by decide)) (vl_ref rfl).symm rfl rfl (cx22.r (by decide)) rfl rfl ?_
  obtain ⟨σ26, eS28, cx29, f88, f89, f90, f91, f92, f93, f94, cj⟩ : ∃ (σ26 : MS), σ26 = (sA 89 a ((x15 : Int)) σ19) ∧ CX a 10 K 12 2 T σ T18 σ26 ∧ (σ26.2.1 88 a = (x1 : Int)) ∧ (σ26.2.1 89 a = (x15 : Int)) ∧ (σ26.2.1 90 a = -1) ∧ (σ26.2.1 91 a = -1) ∧ (σ26.2.1 92 a = -1) ∧ (σ26.2.1 93 a = 0) ∧ (σ26.2.1 94 a = 0) ∧ CXJ S0 a 10 T T18 σ26 := ⟨_, rfl, (cx22.put (by decide)), (rc_o (by decide) f88), ra_eq, (rc_o (by decide) f90), (rc_o (by decide) f91), (rc_o (by decide) f92), (rc_o (by decide) f93), (rc_o (by decide) f94), (CXJ.putA cj cx22.1 (by decide) rfl un (by rw [o24]; decide) ne17z)⟩
  rw [← eS28]
  refine tn_aload_n dX10_init_21 rfl 0 rfl ?_
  refine tn_sipush dX10_init_22 (by decide) ?_
  refine tn_newI (N := 200) (k := 1) dX10_init_25 arC_int (by decide) rfl (by decide) (fun x30 hx31 => ?_)
  have ne32 := cx29.ne hx31
  have ne32z := (cx29.fresh hx31).resolve_right (fun e => ne32 e.symm)
  have ne32j := CXJ.new (T2 := (tT T18 x30 1 200)) (σ2 := (rowS (1000 + x30) (fun _ => 0) (gh 200 σ26))) cj cx29.1 cx29.2.1 hx31 (by rw [tT_eq]; decide) (fun b9 e9 => tT_ne e9) (fun n9 c9 hn9 hc9 => by rw [rowS_ne (by omega)]; rfl)
  obtain ⟨T33, σ34, eT35, eS36, cx37, f88, f89, f90, f91, f92, f93, f94, o38, o39, o40, nx41, cj, un⟩ : ∃ (T33 : CT) (σ34 : MS), T33 = (tT T18 x30 1 200) ∧ σ34 = (rowS (1000 + x30) (fun _ => 0) (gh 200 σ26)) ∧ CX a 10 K 212 3 T σ T33 σ34 ∧ (σ34.2.1 88 a = (x1 : Int)) ∧ (σ34.2.1 89 a = (x15 : Int)) ∧ (σ34.2.1 90 a = -1) ∧ (σ34.2.1 91 a = -1) ∧ (σ34.2.1 92 a = -1) ∧ (σ34.2.1 93 a = 0) ∧ (σ34.2.1 94 a = 0) ∧ (T33 x1 = (7, 6)) ∧ (T33 x15 = (1, 6)) ∧ (T33 x30 = (1, 200)) ∧ NX 41 a T T33 ∧ CXJ S0 a 10 T T33 σ34 ∧ UNF a 10 x30 T33 σ34 := ⟨_, _, rfl, rfl, (cx29.newI hx31 (by decide)), (by rw [rowS_ne (by omega)]; exact f88), (by rw [rowS_ne (by omega)]; exact f89), (by rw [rowS_ne (by omega)]; exact f90), (by rw [rowS_ne (by omega)]; exact f91), (by rw [rowS_ne (by omega)]; exact f92), (by rw [rowS_ne (by omega)]; exact f93), (by rw [rowS_ne (by omega)]; exact f94), (tk_keep o23 (by decide) hx31), (tk_keep o24 (by decide) hx31), tT_eq, (nx41.mk9 (by decide)), ne32j.1, ne32j.2⟩
  rw [← eT35]
  rw [← eS36]
  refine tn_putFr (ci := 10) (i := 2) (n := 90) (r := true) (v := (x30 : Int)) tyX10 tyX10_ok nmX10 dX10_init_27 rfl lay_10 (by decide) fl10_20 rfl rfl rfl (tyX10_ok 2 (by decide)) (vl_ref rfl).symm rfl rfl (cx37.r (by decide)) rfl rfl ?_
  obtain ⟨σ42, eS44, cx45, f88, f89, f90, f91, f92, f93, f94, cj⟩ : ∃ (σ42 : MS), σ42 = (sA 90 a ((x30 : Int)) σ34) ∧ CX a 10 K 212 3 T σ T33 σ42 ∧ (σ42.2.1 88 a = (x1 : Int)) ∧ (σ42.2.1 89 a = (x15 : Int)) ∧ (σ42.2.1 90 a = (x30 : Int)) ∧ (σ42.2.1 91 a = -1) ∧ (σ42.2.1 92 a = -1) ∧ (σ42.2.1 93 a = 0) ∧ (σ42.2.1 94 a = 0) ∧ CXJ S0 a 10 T T33 σ42 := ⟨_, rfl, (cx37.put (by decide)), (rc_o (by decide) f88), (rc_o (by decide) f89), ra_eq, (rc_o (by decide) f91), (rc_o (by decide) f92), (rc_o (by decide) f93), (rc_o (by decide) f94), (CXJ.putA cj cx37.1 (by decide) rfl un (by rw [o40]; decide) ne32z)⟩
  rw [← eS44]
  refine tn_aload_n dX10_init_30 rfl 0 rfl ?_
  refine tn_sipush dX10_init_31 (by decide) ?_
  refine tn_newI (N := 145) (k := 1) dX10_init_34 arC_int (by decide) rfl (by decide) (fun x46 hx47 => ?_)
  have ne48 := cx45.ne hx47
  have ne48z := (cx45.fresh hx47).resolve_right (fun e => ne48 e.symm)
  have ne48j := CXJ.new (T2 := (tT T33 x46 1 145)) (σ2 := (rowS (1000 + x46) (fun _ => 0) (gh 145 σ42))) cj cx45.1 cx45.2.1 hx47 (by rw [tT_eq]; decide) (fun b9 e9 => tT_ne e9) (fun n9 c9 hn9 hc9 => by rw [rowS_ne (by omega)]; rfl)
  obtain ⟨T49, σ50, eT51, eS52, cx53, f88, f89, f90, f91, f92, f93, f94, o54, o55, o56, o57, nx41, cj, un⟩ : ∃ (T49 : CT) (σ50 : MS), T49 = (tT T33 x46 1 145) ∧ σ50 = (rowS (1000 + x46) (fun _ => 0) (gh 145 σ42)) ∧ CX a 10 K 357 4 T σ T49 σ50 ∧ (σ50.2.1 88 a = (x1 : Int)) ∧ (σ50.2.1 89 a = (x15 : Int)) ∧ (σ50.2.1 90 a = (x30 : Int)) ∧ (σ50.2.1 91 a = -1) ∧ (σ50.2.1 92 a = -1) ∧ (σ50.2.1 93 a = 0) ∧ (σ50.2.1 94 a = 0) ∧ (T49 x1 = (7, 6)) ∧ (T49 x15 = (1, 6)) ∧ (T49 x30 = (1, 200)) ∧ (T49 x46 = (1, 145)) ∧ NX 41 a T T49 ∧ CXJ S0 a 10 T T49 σ50 ∧ UNF a 10 x46 T49 σ50 := ⟨_, _, rfl, rfl, (cx45.newI hx47 (by decide)), (by rw [rowS_ne (by omega)]; exact f88), (by rw [rowS_ne (by omega)]; exact f89), (by rw [rowS_ne (by omega)]; exact f90), (by rw [rowS_ne (by omega)]; exact f91), (by rw [rowS_ne (by omega)]; exact f92), (by rw [rowS_ne (by omega)]; exact f93), (by rw [rowS_ne (by omega)]; exact f94), (tk_keep o38 (by decide) hx47), (tk_keep o39 (by decide) hx47), (tk_keep o40 (by decide) hx47), tT_eq, (nx41.mk9 (by decide)), ne48j.1, ne48j.2⟩
  rw [← eT51]
  rw [← eS52]
  refine tn_putFr (ci := 10) (i := 3) (n := 91) (r := true) (v := (x46 : Int)) tyX10 tyX10_ok nmX10 dX10_init_36 rfl lay_10 (by decide) fl10_23 rfl rfl rfl (tyX10_ok 3 (by decide)) (vl_ref rfl).symm rfl rfl (cx53.r (by decide)) rfl rfl ?_
  obtain ⟨σ59, eS61, cx62, f88, f89, f90, f91, f92, f93, f94, cj⟩ : ∃ (σ59 : MS), σ59 = (sA 91 a ((x46 : Int)) σ50) ∧ CX a 10 K 357 4 T σ T49 σ59 ∧ (σ59.2.1 88 a = (x1 : Int)) ∧ (σ59.2.1 89 a = (x15 : Int)) ∧ (σ59.2.1 90 a = (x30 : Int)) ∧ (σ59.2.1 91 a = (x46 : Int)) ∧ (σ59.2.1 92 a = -1) ∧ (σ59.2.1 93 a = 0) ∧ (σ59.2.1 94 a = 0) ∧ CXJ S0 a 10 T T49 σ59 := ⟨_, rfl, (cx53.put (by decide)), (rc_o (by decide) f88), (rc_o (by decide) f89), (rc_o (by decide) f90), ra_eq, (rc_o (by decide) f92), (rc_o (by decide) f93), (rc_o (by decide) f94), (CXJ.putA cj cx53.1 (by decide) rfl un (by rw [o57]; decide) ne48z)⟩
  rw [← eS61]
  refine tn_tag (ci := 10) (k := 40) (by decide) cx62.1 (by decide) ?_
  have hf9 : ∀ m, m < 111 → cls m = 10 → FO m 40 T49 (σ59.2.1 m a) := fun m hm9 hc9 => by
    have q9 := clsR_10 m hm9 hc9
    have q8 : m = 88 ∨ m = 89 ∨ m = 90 ∨ m = 91 ∨ m = 92 ∨ m = 93 ∨ m = 94 := by omega
    rcases q8 with q8 | q8 | q8 | q8 | q8 | q8 | q8
    · subst q8; rw [f88]; exact fo_88 (⟨_, rfl, AR.of o54 (by decide) (by decide)⟩)
    · subst q8; rw [f89]; exact fo_89 (⟨_, rfl, AR.of o55 (by decide) (by decide)⟩)
    · subst q8; rw [f90]; exact fo_90 (⟨_, rfl, AR.of o56 (by decide) (by decide)⟩)
    · subst q8; rw [f91]; exact fo_91 (⟨_, rfl, AR.of o57 (by decide) (by decide)⟩)
    · subst q8; rw [f92]; exact fo_92 (Or.inl (by decide))
    · subst q8; rw [f93]; exact fo_93 (by decide)
    · subst q8; rw [f94]; exact fo_94 (by decide)
  have jq9 : ∀ f ∈ AFL, cls f = 10 → f = 89 ∨ f = 90 ∨ f = 91 := by decide
  have cjf := CXJ.fin (k := 40) cj cx62.1 (by decide) (fun f9 h9 c9 => by
    have q7 := jq9 f9 h9 c9
    rcases q7 with q7 | q7 | q7
    · subst q7; rw [f89]; exact Int.natCast_nonneg _
    · subst q7; rw [f90]; exact Int.natCast_nonneg _
    · subst q7; rw [f91]; exact Int.natCast_nonneg _)
  exact tn_vret rfl dX10_init_39 ⟨rfl, tT_eq, cx62.2.1.tag cx62.1 (by decide) hf9 (fun h => absurd h (by decide)), cx62.2.2.1.tag (by rw [cx62.1]; decide) (by decide), cx62.2.2.2.1.tag, cx62.2.2.2.2.1, cx62.2.2.2.2.2, cjf.1, cjf.2, nx41.tag⟩
end
section
theorem DS.nil9 : DS [] := fun i j a b h => absurd h (by simp)
def NE9 (x y : Nat) : Prop := x ≠ y
theorem DS.cons9 {x : Nat} {l : List Nat} (h : DS l) (hx : ∀ y ∈ l, x ≠ y) : DS (x :: l) := fun i j a b hi hj hij => by
  cases i with
  | zero =>
    cases j with
    | zero => exact absurd rfl hij
    | succ j =>
      have e1 : x = a := by simpa using hi
      have e2 : l[j]? = some b := by simpa using hj
      rw [← e1]; exact hx b (List.mem_of_getElem? e2)
  | succ i =>
    have e1 : l[i]? = some a := by simpa using hi
    cases j with
    | zero =>
      have e2 : x = b := by simpa using hj
      rw [← e2]; exact (hx a (List.mem_of_getElem? e1)).symm
    | succ j =>
      have e2 : l[j]? = some b := by simpa using hj
      exact h i j a b e1 e2 (by omega)
def RC55 (σ : MS) (a : Nat) : Prop := ∃ rn y : Nat, σ.2.1 103 (a : Int) = (rn : Int) ∧ σ.2.1 55 (rn : Int) = (y : Int) ∧ σ.2.1 99 (a : Int) = (y : Int) ∧ σ.2.1 56 (rn : Int) = 0
def KCL (a : Nat) (σ : MS) : Prop := ∃ (r q x y : Nat) (LE LM LC : List Nat), (σ.2.1 100 (a : Int) = (r : Int) ∧ σ.2.1 34 (r : Int) = (q : Int) ∧ σ.2.1 98 (a : Int) = (x : Int) ∧ σ.2.1 99 (a : Int) = (y : Int)) ∧ (LE.length = 7 ∧ LM.length = 6 ∧ LC.length = 6) ∧ (DS LE ∧ DS LM ∧ DS LC ∧ ∀ p ∈ LE, ∀ m ∈ LM, p ≠ m) ∧ (∀ i : Nat, i < 7 → σ.2.1 (1000 + q) (i : Int) = ((LE.getD i 0 : Nat) : Int)) ∧ (∀ i : Nat, i < 6 → σ.2.1 (1000 + x) (i : Int) = ((LM.getD i 0 : Nat) : Int)) ∧ ∀ i : Nat, i < 6 → σ.2.1 (1000 + y) (i : Int) = ((LC.getD i 0 : Nat) : Int)
end
