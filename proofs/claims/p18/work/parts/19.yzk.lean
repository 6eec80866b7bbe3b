section
def AFK (k : Nat) : Prop := k = 1 ∨ k = 2 ∨ k = 3 ∨ (11 ≤ k ∧ k ≤ 24)
set_option maxHeartbeats 1000000 in
theorem af_k {T : CT} {σ : MS} {f b : Nat} (hw : WT T σ) (hf : f ∈ AFL) (ob : OB T b (cls f)) : σ.2.1 f b = ((adN σ f b : Nat) : Int) ∧ AFK (T (adN σ f b)).1 := by
  simp only [List.mem_cons, List.not_mem_nil, or_false] at hf
  rcases hf with rfl | rfl | rfl | rfl | rfl | rfl | rfl | rfl | rfl | rfl | rfl | rfl | rfl | rfl | rfl | rfl | rfl | rfl | rfl | rfl | rfl | rfl | rfl | rfl | rfl | rfl | rfl | rfl | rfl | rfl | rfl | rfl | rfl | rfl | rfl | rfl | rfl | rfl | rfl | rfl | rfl | rfl
  · have z := ad_ex (Q := fun x => (208 ≤ (T x).2 ∧ (T x).2 ≤ 2600) ∧ ((T b).1 = 50 → (T x).1 = 1) ∧ ((T b).1 ≠ 50 → (T x).1 = 13)) (wf_5 hw ob)
    refine ⟨z.1, ?_⟩
    have z2 := z.2.2
    unfold AFK
    omega
  · have z := ad_ex (Q := fun x => AR T x 1 12 12) (wf_11 hw ob)
    exact ⟨z.1, by have z2 := z.2.1; unfold AFK; omega⟩
  · have z := ad_ex (Q := fun x => AR T x 1 12 12) (wf_12 hw ob)
    exact ⟨z.1, by have z2 := z.2.1; unfold AFK; omega⟩
  · have z := ad_ex (Q := fun x => AR T x 1 12 12) (wf_13 hw ob)
    exact ⟨z.1, by have z2 := z.2.1; unfold AFK; omega⟩
  · have z := ad_ex (Q := fun x => AR T x 11 12 12) (wf_14 hw ob)
    exact ⟨z.1, by have z2 := z.2.1; unfold AFK; omega⟩
  · have z := ad_ex (Q := fun x => AR T x 1 144 144) (wf_15 hw ob)
    exact ⟨z.1, by have z2 := z.2.1; unfold AFK; omega⟩
  · have z := ad_ex (Q := fun x => AR T x 1 13 13) (wf_16 hw ob)
    exact ⟨z.1, by have z2 := z.2.1; unfold AFK; omega⟩
  · have z := ad_ex (Q := fun x => AR T x 3 603 603) (wf_18 hw ob)
    exact ⟨z.1, by have z2 := z.2.1; unfold AFK; omega⟩
  · have z := ad_ex (Q := fun x => AR T x 3 3 3) (wf_19 hw ob)
    exact ⟨z.1, by have z2 := z.2.1; unfold AFK; omega⟩
  · have z := ad_ex (Q := fun x => AR T x 1 201 201) (wf_20 hw ob)
    exact ⟨z.1, by have z2 := z.2.1; unfold AFK; omega⟩
  · have z := ad_ex (Q := fun x => AR T x 1 201 201) (wf_21 hw ob)
    exact ⟨z.1, by have z2 := z.2.1; unfold AFK; omega⟩
  · have z := ad_ex (Q := fun x => AR T x 1 8 8) (wf_24 hw ob)
    exact ⟨z.1, by have z2 := z.2.1; unfold AFK; omega⟩
  · have z := ad_ex (Q := fun x => AR T x 16 256 256) (wf_36 hw ob)
    exact ⟨z.1, by have z2 := z.2.1; unfold AFK; omega⟩
  · have z := ad_ex (Q := fun x => AR T x 17 256 256) (wf_37 hw ob)
    exact ⟨z.1, by have z2 := z.2.1; unfold AFK; omega⟩
  · have z := ad_ex (Q := fun x => AR T x 18 256 256) (wf_39 hw ob)
    exact ⟨z.1, by have z2 := z.2.1; unfold AFK; omega⟩
  · have z := ad_ex (Q := fun x => AR T x 19 256 256) (wf_40 hw ob)
    exact ⟨z.1, by have z2 := z.2.1; unfold AFK; omega⟩
  · have z := ad_ex (Q := fun x => AR T x 20 256 256) (wf_41 hw ob)
    exact ⟨z.1, by have z2 := z.2.1; unfold AFK; omega⟩
  · have z := ad_ex (Q := fun x => AR T x 21 12 12) (wf_48 hw ob)
    exact ⟨z.1, by have z2 := z.2.1; unfold AFK; omega⟩
  · have z := ad_ex (Q := fun x => AR T x 1 8 8) (wf_49 hw ob)
    exact ⟨z.1, by have z2 := z.2.1; unfold AFK; omega⟩
  · have z := ad_ex (Q := fun x => AR T x 1 192 192) (wf_52 hw ob)
    exact ⟨z.1, by have z2 := z.2.1; unfold AFK; omega⟩
  · have z := ad_ex (Q := fun x => AR T x 1 192 192) (wf_53 hw ob)
    exact ⟨z.1, by have z2 := z.2.1; unfold AFK; omega⟩
  · have z := ad_ex (Q := fun x => AR T x 3 3 3) (wf_54 hw ob)
    exact ⟨z.1, by have z2 := z.2.1; unfold AFK; omega⟩
  · have z := ad_ex (Q := fun x => AR T x 15 9 9) (wf_59 hw ob)
    exact ⟨z.1, by have z2 := z.2.1; unfold AFK; omega⟩
  · have z := ad_ex (Q := fun x => AR T x 1 9 9) (wf_60 hw ob)
    exact ⟨z.1, by have z2 := z.2.1; unfold AFK; omega⟩
  · have z := ad_ex (Q := fun x => (T x).2 = 9 ∧ ((T b).1 = 57 → (T x).1 = 14) ∧ ((T b).1 ≠ 57 → (T x).1 = 1)) (wf_61 hw ob)
    refine ⟨z.1, ?_⟩
    have z2 := z.2.2
    unfold AFK
    omega
  · have z := ad_ex (Q := fun x => AR T x 1 108 108) (wf_62 hw ob)
    exact ⟨z.1, by have z2 := z.2.1; unfold AFK; omega⟩
  · have z := ad_ex (Q := fun x => AR T x 1 1728 1728) (wf_63 hw ob)
    exact ⟨z.1, by have z2 := z.2.1; unfold AFK; omega⟩
  · have z := ad_ex (Q := fun x => AR T x 1 200 200) (wf_64 hw ob)
    exact ⟨z.1, by have z2 := z.2.1; unfold AFK; omega⟩
  · have z := ad_ex (Q := fun x => AR T x 3 576 576) (wf_73 hw ob)
    exact ⟨z.1, by have z2 := z.2.1; unfold AFK; omega⟩
  · have z := ad_ex (Q := fun x => AR T x 3 3 3) (wf_74 hw ob)
    exact ⟨z.1, by have z2 := z.2.1; unfold AFK; omega⟩
  · have z := ad_ex (Q := fun x => AR T x 1 192 192) (wf_75 hw ob)
    exact ⟨z.1, by have z2 := z.2.1; unfold AFK; omega⟩
  · have z := ad_ex (Q := fun x => AR T x 3 576 576) (wf_76 hw ob)
    exact ⟨z.1, by have z2 := z.2.1; unfold AFK; omega⟩
  · have z := ad_ex (Q := fun x => AR T x 3 603 603) (wf_77 hw ob)
    exact ⟨z.1, by have z2 := z.2.1; unfold AFK; omega⟩
  · have z := ad_ex (Q := fun x => AR T x 1 201 201) (wf_78 hw ob)
    exact ⟨z.1, by have z2 := z.2.1; unfold AFK; omega⟩
  · have z := ad_ex (Q := fun x => AR T x 3 3 3) (wf_79 hw ob)
    exact ⟨z.1, by have z2 := z.2.1; unfold AFK; omega⟩
  · have z := ad_ex (Q := fun x => AR T x 12 1201 1201) (wf_81 hw ob)
    exact ⟨z.1, by have z2 := z.2.1; unfold AFK; omega⟩
  · have z := ad_ex (Q := fun x => AR T x 22 1201 1201) (wf_82 hw ob)
    exact ⟨z.1, by have z2 := z.2.1; unfold AFK; omega⟩
  · have z := ad_ex (Q := fun x => AR T x 23 1201 1201) (wf_83 hw ob)
    exact ⟨z.1, by have z2 := z.2.1; unfold AFK; omega⟩
  · have z := ad_ex (Q := fun x => AR T x 1 6 6) (wf_89 hw ob)
    exact ⟨z.1, by have z2 := z.2.1; unfold AFK; omega⟩
  · have z := ad_ex (Q := fun x => AR T x 1 200 200) (wf_90 hw ob)
    exact ⟨z.1, by have z2 := z.2.1; unfold AFK; omega⟩
  · have z := ad_ex (Q := fun x => AR T x 1 145 145) (wf_91 hw ob)
    exact ⟨z.1, by have z2 := z.2.1; unfold AFK; omega⟩
  · have z := ad_ex (Q := fun x => AR T x 2 1200 1200) (wf_95 hw ob)
    exact ⟨z.1, by have z2 := z.2.1; unfold AFK; omega⟩
def RWS (S : Nat → Prop) (T : CT) (σ : MS) (c x : Nat) : Prop := ∃ f b, f ∈ AFL ∧ S b ∧ OB T b (cls f) ∧ x = adN σ f b ∧ (cls f = 1 → b = c)
def PFR (S : Nat → Prop) (T : CT) (σ σ2 : MS) (c : Nat) : Prop := (∀ b, S b → OB T b 1 → b ≠ c → CSM σ σ2 b) ∧ (∀ f b, f ∈ AFL → ¬ (f = 5 ∧ b = c) → σ2.2.1 f b = σ.2.1 f b) ∧ (∀ f, f ∈ [7, 8, 9] → σ2.2.1 f c = σ.2.1 f c) ∧ ∀ x, ((T x).1 = 4 ∨ (T x).1 = 5 ∨ (T x).1 = 7) → σ2.2.1 (1000 + x) = σ.2.1 (1000 + x)
section PFRS
variable {S : Nat → Prop} {T T2 : CT} {σ σ2 : MS} {c x : Nat} {ks : List (Nat × Nat)} {rs ls : List Nat}
theorem PFR.chn (hI : INJ S T σ) (hw : WT T σ) (ch : CHN T ks rs ls σ σ2) (hk : ∀ p, p ∈ ks → ((p.1 = 5 ∨ p.1 = 6 ∨ p.1 = 10) ∧ p.2 = c) ∨ (p.1 = 22 ∨ p.1 = 80 ∨ p.1 = 56 ∨ (25 ≤ p.1 ∧ p.1 ≤ 32))) (hr : ∀ x, x ∈ rs → RWS S T σ c x) : PFR S T σ σ2 c := by
  have fk : ∀ f b, f ∈ AFL → ¬ (f = 5 ∧ b = c) → (f, b) ∉ ks := fun f b hf hn q => by
    have z := hk _ q
    simp only at z
    have n22 : f ≠ 22 ∧ f ≠ 80 ∧ f ≠ 56 ∧ f ≠ 6 ∧ f ≠ 10 ∧ ¬ (25 ≤ f ∧ f ≤ 32) := by
      simp only [List.mem_cons, List.not_mem_nil, or_false] at hf
      omega
    omega
  have lt : ∀ f, f ∈ AFL → f < 1000 := fun f hf => by simp only [List.mem_cons, List.not_mem_nil, or_false] at hf; omega
  refine ⟨fun b sb ob nb => CSM.of ch (fun p q => ?_) (fun f hf q => ?_) (fun f hf => ?_), fun f b hf hn => ch.f (lt f hf) (fk f b hf hn), fun f hf => ch.f (by simp only [List.mem_cons, List.not_mem_nil, or_false] at hf; omega) (fun q => ?_), fun x hx => ch.r (by omega) (fun q => ?_)⟩
  · rcases hk p q with z | z
    · exact Or.inl (fun e => nb (by rw [← e]; exact z.2))
    · exact Or.inr (Or.inr (by omega))
  · obtain ⟨g, b2, g1, g2, g3, g4, g5⟩ := hr _ q
    have c1 : cls f = 1 := by simp only [List.mem_cons, List.not_mem_nil, or_false] at hf; rcases hf with rfl | rfl | rfl | rfl | rfl | rfl <;> rfl
    have fa : f ∈ AFL := by simp only [List.mem_cons, List.not_mem_nil, or_false] at hf ⊢; omega
    have z := hI.2 f g b b2 fa g1 sb g2 (by rw [c1]; exact ob) g3 g4
    exact nb (by rw [z.2]; exact g5 (by rw [← z.1]; exact c1))
  · have c1 : cls f = 1 := by simp only [List.mem_cons, List.not_mem_nil, or_false] at hf; rcases hf with rfl | rfl | rfl | rfl | rfl | rfl <;> rfl
    have fa : f ∈ AFL := by simp only [List.mem_cons, List.not_mem_nil, or_false] at hf ⊢; omega
    have z := (af_k hw fa (by rw [c1]; exact ob)).2
    unfold AFK at z
    omega
  · have z := hk _ q
    simp only [List.mem_cons, List.not_mem_nil, or_false] at hf
    simp only at z
    omega
  · obtain ⟨g, b2, g1, g2, g3, g4, g5⟩ := hr _ q
    have z := (af_k hw g1 g3).2
    rw [← g4] at z
    unfold AFK at z
    omega
theorem PFR.chx (hI : INJ S T σ) (hw : WT T σ) (ch : CHX ks rs ls σ σ2) (hk : ∀ p, p ∈ ks → ((p.1 = 5 ∨ p.1 = 6 ∨ p.1 = 10) ∧ p.2 = c) ∨ (p.1 = 22 ∨ p.1 = 80 ∨ p.1 = 56 ∨ (25 ≤ p.1 ∧ p.1 ≤ 32))) (hr : ∀ x, x ∈ rs → RWS S T σ c x) : PFR S T σ σ2 c := PFR.chn hI hw (CHN.of (T := T) ch (fun _ q => q) (fun _ q => Or.inl q) (fun _ q => q)) hk hr
theorem INJ.pass (hI : INJ S T σ) (hw : WT T σ) (g : GT T T2) (sc : S c) (p : PFR S T σ σ2 c) (h5 : σ2.2.1 5 c = σ.2.1 5 c ∨ ¬ ((T (adN σ2 5 c)).1 ≠ 0 ∧ (T (adN σ2 5 c)).1 < 80)) : INJ S T2 σ2 := by
  have ot : ∀ b, S b → T2 b = T b := fun b sb => by have z := hI.1 b sb; exact g b (by omega) (by omega)
  have oo : ∀ b ci, S b → OB T2 b ci → OB T b ci := fun b ci sb ob => by unfold OB at ob ⊢; rw [ot b sb] at ob; exact ob
  have ad : ∀ f b, f ∈ AFL → ¬ (f = 5 ∧ b = c) → adN σ2 f b = adN σ f b := fun f b hf hn => by unfold adN; rw [p.2.1 f b hf hn]
  have al : ∀ f b, f ∈ AFL → S b → OB T b (cls f) → (T (adN σ f b)).1 ≠ 0 ∧ (T (adN σ f b)).1 < 80 := fun f b hf sb ob => by have z := (af_k hw hf ob).2; unfold AFK at z; omega
  refine ⟨fun b sb => by rw [ot b sb]; exact hI.1 b sb, fun f g a b hf hg sa sb oa ob e => ?_⟩
  have oa' := oo a _ sa oa
  have ob' := oo b _ sb ob
  rcases h5 with h5 | h5
  · have ad' : ∀ f b, f ∈ AFL → adN σ2 f b = adN σ f b := fun f b hf => by
      by_cases q : f = 5 ∧ b = c
      · unfold adN; rw [q.1, q.2, h5]
      · exact ad f b hf q
    rw [ad' f a hf, ad' g b hg] at e
    exact hI.2 f g a b hf hg sa sb oa' ob' e
  · by_cases q1 : f = 5 ∧ a = c
    · by_cases q2 : g = 5 ∧ b = c
      · exact ⟨by omega, by omega⟩
      · rw [q1.1, q1.2, ad g b hg q2] at e
        rw [e] at h5
        exact absurd (al g b hg sb ob') h5
    · by_cases q2 : g = 5 ∧ b = c
      · rw [q2.1, q2.2, ad f a hf q1] at e
        rw [← e] at h5
        exact absurd (al f a hf sa oa') h5
      · rw [ad f a hf q1, ad g b hg q2] at e
        exact hI.2 f g a b hf hg sa sb oa' ob' e
end PFRS
def TBR (Sj : Nat → Prop) (T : CT) (σ τ : MS) : Prop := (∀ b, Sj b → (T b).1 ≠ 0 ∧ (T b).1 < 80) ∧ (∀ f (b : Nat), f ∈ AFL → Sj b → OB T b (cls f) → τ.2.1 f b = σ.2.1 f b ∨ ¬ ((T (adN τ f b)).1 ≠ 0 ∧ (T (adN τ f b)).1 < 80)) ∧ ∀ x, (T x).1 = 1 → (∀ f b, f ∈ AFL → Sj b → OB T b (cls f) → x = adN σ f b → cls f = 10) → τ.2.1 (1000 + x) = σ.2.1 (1000 + x)
section TBRS
variable {Sj : Nat → Prop} {T T2 : CT} {σ τ υ : MS} {ks : List (Nat × Nat)} {rs ls : List Nat} {n : Nat} {i v : Int}
theorem afl_1000 {f : Nat} (h : f ∈ AFL) : f < 1000 := by simp only [List.mem_cons, List.not_mem_nil, or_false] at h; omega
theorem TBR.of0 (hI : INJ Sj T σ) : ∀ b, Sj b → (T b).1 ≠ 0 ∧ (T b).1 < 80 := fun b sb => by have z := hI.1 b sb; omega
theorem TBR.rfl (hI : INJ Sj T σ) : TBR Sj T σ σ := ⟨TBR.of0 hI, fun _ _ _ _ _ => Or.inl (Eq.refl _), fun _ _ _ => Eq.refl _⟩
theorem TBR.trans (h : TBR Sj T σ τ) (gt : GT T T2) (g : TBR Sj T2 τ υ) : TBR Sj T σ υ := by
  obtain ⟨h0, h1, h2⟩ := h
  obtain ⟨g0, g1, g2⟩ := g
  have e : ∀ b, Sj b → T2 b = T b := fun b sb => gt b (h0 b sb).1 (h0 b sb).2
  have ob : ∀ b ci, Sj b → OB T b ci → OB T2 b ci := fun b ci sb o => by unfold OB at o ⊢; rw [e b sb]; exact o
  have ob2 : ∀ b ci, Sj b → OB T2 b ci → OB T b ci := fun b ci sb o => by unfold OB at o ⊢; rw [e b sb] at o; exact o
  refine ⟨h0, fun f b hf sb o => ?_, fun x hx hn => ?_⟩
  · rcases g1 f b hf sb (ob b _ sb o) with q | q
    · rcases h1 f b hf sb o with w | w
      · exact Or.inl (q.trans w)
      · refine Or.inr ?_
        have ea : adN υ f b = adN τ f b := by unfold adN; rw [q]
        rw [ea]; exact w
    · refine Or.inr (fun w => q ?_)
      rw [gt _ w.1 w.2]; exact w
  · have t2 := gt x (by omega) (by omega)
    refine (g2 x (by rw [t2]; exact hx) (fun f b hf sb o w => ?_)).trans (h2 x hx hn)
    rcases h1 f b hf sb (ob2 b _ sb o) with q | q
    · exact hn f b hf sb (ob2 b _ sb o) (by rw [w]; unfold adN; rw [q])
    · rw [← w] at q
      exact absurd (show (T x).1 ≠ 0 ∧ (T x).1 < 80 by omega) q
theorem TBR.fld {o : Nat} (h : TBR Sj T σ τ) (hn : n < 1000) (ha : n ∉ AFL) : TBR Sj T σ (sA n o v τ) := ⟨h.1, fun f b hf sb ob => by
  have q := h.2.1 f b hf sb ob
  have ne : f ≠ n := fun e => ha (by rw [← e]; exact hf)
  have e1 : (sA n o v τ).2.1 f = τ.2.1 f := sA_k ne
  have e2 : adN (sA n o v τ) f b = adN τ f b := by unfold adN; rw [e1]
  rw [e1, e2]; exact q, fun x hx hq => by rw [sA_k (by omega)]; exact h.2.2 x hx hq⟩
theorem TBR.chx (hI : INJ Sj T σ) (ch : CHX ks rs ls σ τ) (hk : ∀ p, p ∈ ks → p.1 ∉ AFL) (hr : ∀ x, x ∈ rs → ∃ g c, g ∈ AFL ∧ cls g ≠ 10 ∧ Sj c ∧ OB T c (cls g) ∧ x = adN σ g c) : TBR Sj T σ τ := ⟨TBR.of0 hI, fun f b hf _ _ => Or.inl (ch.f (afl_1000 hf) (fun q => hk _ q hf)), fun x _ hq => ch.r (fun q => by
  obtain ⟨g, c, hg, ng, sc, oc, e⟩ := hr x q
  exact ng (hq g c hg sc oc e))⟩
theorem TBR.chn (hI : INJ Sj T σ) (ch : CHN T ks rs ls σ τ) (hf : ∀ f (b : Nat), f ∈ AFL → Sj b → OB T b (cls f) → τ.2.1 f b = σ.2.1 f b ∨ ¬ ((T (adN τ f b)).1 ≠ 0 ∧ (T (adN τ f b)).1 < 80)) (hr : ∀ x, x ∈ rs → ∃ g c, g ∈ AFL ∧ cls g ≠ 10 ∧ Sj c ∧ OB T c (cls g) ∧ x = adN σ g c) : TBR Sj T σ τ := ⟨TBR.of0 hI, hf, fun x hx hq => ch.r (by omega) (fun q => by
  obtain ⟨g, c, hg, ng, sc, oc, e⟩ := hr x q
  exact ng (hq g c hg sc oc e))⟩
end TBRS
def TPA (S : Nat → Prop) (T : CT) (σ σ2 : MS) (a : Nat) (r : Int) : Prop := (∀ x, (T x).1 = 1 → (∀ f b, f ∈ AFL → S b → OB T b (cls f) → x ≠ adN σ f b) → σ2.2.1 (1000 + x) = σ.2.1 (1000 + x)) ∧ σ2.2.1 (1000 + adN σ 89 (adN σ 102 a)) = uZ (σ.2.1 (1000 + adN σ 89 (adN σ 102 a))) r 0
theorem mlg_of {S : Nat → Prop} {T : CT} {σ : MS} {a c : Nat} {C : Int → Nat} {R r : Int} {NM PM : Int → Int} (hI : INJ S T σ) (ha : OB T a 4) (sa : S a) (sf : S (adN σ 23 a)) (hw : WT T σ) (hr : 0 ≤ r ∧ r < R ∧ R ≤ 6) (hc : C r = c) (hS : ∀ q, 0 ≤ q → q < R → S (C q) ∧ (T (C q)).1 = 50) (hj : ∀ p q, 0 ≤ p → p < R → 0 ≤ q → q < R → C p = C q → p = q) (hG : ∀ q, 0 ≤ q → q < R → cdG σ (C q) NM R) (hP : ∀ q, 0 ≤ q → q < R → PM q = σ.2.1 8 (C q) ∧ NM q = σ.2.1 7 (C q)) : MLG T σ a c C R r NM PM := by
  have a6 : ∀ f, f ∈ AF6 → f ∈ AFL ∧ cls f = 1 ∧ f ≠ 24 := fun f hf => by
    simp only [List.mem_cons, List.not_mem_nil, or_false] at hf
    rcases hf with rfl | rfl | rfl | rfl | rfl | rfl <;> exact ⟨by decide, rfl, by decide⟩
  have efl := ad_ex (Q := fun x => (T x).1 = 33) (wf_23 hw ha)
  have hfl : OB T (adN σ 23 a) 3 := ⟨by have := efl.2; omega, by rw [efl.2]; rfl, by have := efl.2; omega⟩
  refine ⟨⟨hr, hc, ha⟩, fun q x y => (hS q x y).2, ⟨hj, fun p q f g p0 p1 q0 q1 hf hg e => ?_, fun p f p0 p1 hf e => ?_⟩, hI.ne sf sf hfl hfl (by decide) (by decide) (Or.inl (by decide)), fun q x y _ => hG q x y, hP⟩
  · have z := hI.2 f g (C p) (C q) (a6 f hf).1 (a6 g hg).1 (hS p p0 p1).1 (hS q q0 q1).1 (by rw [(a6 f hf).2.1]; exact ob50 (hS p p0 p1).2) (by rw [(a6 g hg).2.1]; exact ob50 (hS q q0 q1).2) e
    exact ⟨hj p q p0 p1 q0 q1 z.2, z.1⟩
  · have z := hI.2 f 24 (C p) a (a6 f hf).1 (by decide) (hS p p0 p1).1 sa (by rw [(a6 f hf).2.1]; exact ob50 (hS p p0 p1).2) ha e
    exact (a6 f hf).2.2 z.1
theorem mle_pso {T : CT} {σ σ2 : MS} {a c : Nat} {C : Int → Nat} {R r v : Int} {NM PM : Int → Int} (h : MLE T σ σ2 a c C R r NM PM v) : PSO T σ σ2 c 4 r (fun q => cdS σ (C q)) PM NM v := by
  obtain ⟨-, h2, h3, t, h4⟩ := h
  exact ⟨Or.inr (Or.inr (Or.inr (Or.inr (Or.inl ⟨rfl, t, h4⟩)))), h2.2.2.1.w, h2.1, h3, Or.inl ⟨rfl, _, h2⟩⟩
theorem mle_pfr {S : Nat → Prop} {T : CT} {σ σ2 : MS} {a c : Nat} {C : Int → Nat} {R r v : Int} {NM PM : Int → Int} (hI : INJ S T σ) (hw : WT T σ) (ha : OB T a 4) (sa : S a) (sc : S c) (hc : (T c).1 = 50) (h : MLE T σ σ2 a c C R r NM PM v) : PFR S T σ σ2 c := by
  refine PFR.chn hI hw h.1 (fun p hp => ?_) (fun x hx => ?_)
  · simp only [List.mem_cons, List.not_mem_nil, or_false] at hp
    rcases hp with rfl | rfl | rfl | rfl | rfl | rfl | rfl | rfl | rfl | rfl | rfl
    · exact Or.inr (by simp)
    · exact Or.inr (by simp)
    · exact Or.inr (by simp)
    · exact Or.inr (by simp)
    · exact Or.inr (by simp)
    · exact Or.inr (by simp)
    · exact Or.inr (by simp)
    · exact Or.inr (by simp)
    · exact Or.inl (by simp)
    · exact Or.inl (by simp)
    · exact Or.inl (by simp)
  · simp only [List.mem_cons, List.not_mem_nil, or_false] at hx
    have oc := ob50 hc
    rcases hx with rfl | rfl | rfl | rfl | rfl | rfl | rfl
    · exact ⟨5, c, by decide, sc, oc, rfl, fun _ => rfl⟩
    · exact ⟨11, c, by decide, sc, oc, rfl, fun _ => rfl⟩
    · exact ⟨12, c, by decide, sc, oc, rfl, fun _ => rfl⟩
    · exact ⟨13, c, by decide, sc, oc, rfl, fun _ => rfl⟩
    · exact ⟨14, c, by decide, sc, oc, rfl, fun _ => rfl⟩
    · exact ⟨15, c, by decide, sc, oc, rfl, fun _ => rfl⟩
    · exact ⟨24, a, by decide, sa, ha, rfl, fun e => absurd e (by decide)⟩
theorem tbr_melt {S : Nat → Prop} {T : CT} {σ σ2 : MS} {a c : Nat} {C : Int → Nat} {R r v : Int} {NM PM : Int → Int} (hI : INJ S T σ) (hw : WT T σ) (ha : OB T a 4) (sa : S a) (sc : S c) (hc : (T c).1 = 50) (h : MLE T σ σ2 a c C R r NM PM v) : TBR S T σ σ2 := by
  refine TBR.chn hI h.1 (fun f b hf sb ob => ?_) (fun x hx => ?_)
  · by_cases z : f = 5 ∧ b = c
    · obtain ⟨rfl, rfl⟩ := z
      exact h.2.2.1
    · refine Or.inl (h.1.f (afl_1000 hf) (fun q => z ?_))
      simp only [List.mem_cons, List.not_mem_nil, or_false] at hf
      simp only [List.mem_cons, List.not_mem_nil, or_false, Prod.mk.injEq] at q
      omega
  · simp only [List.mem_cons, List.not_mem_nil, or_false] at hx
    have oc := ob50 hc
    rcases hx with rfl | rfl | rfl | rfl | rfl | rfl | rfl
    · exact ⟨5, c, by decide, by decide, sc, oc, rfl⟩
    · exact ⟨11, c, by decide, by decide, sc, oc, rfl⟩
    · exact ⟨12, c, by decide, by decide, sc, oc, rfl⟩
    · exact ⟨13, c, by decide, by decide, sc, oc, rfl⟩
    · exact ⟨14, c, by decide, by decide, sc, oc, rfl⟩
    · exact ⟨15, c, by decide, by decide, sc, oc, rfl⟩
    · exact ⟨24, a, by decide, by decide, sa, ha, rfl⟩
end
