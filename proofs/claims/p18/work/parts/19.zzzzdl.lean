section
section TGKL
variable {S S2 : Nat → Prop} {T T2 : CT} {σ σ2 : MS} {a xt : Nat} {C E M E2 M2 : Int → Nat} {r w v Cn Cn2 : Int} {NM PM : Int → Int} {ks : List Nat}
theorem TGK.mk2 (x : TGX T2 σ2 (adN σ2 102 a) C Cn ∧ TAP T2 σ2) (c6 : Cn ≤ 6) (hK : KB6 S2 T2 σ2 a C E2 M2) (hR : ∀ q, 0 ≤ q → q < Cn → RTC σ2 (C q)) : TGK S2 T2 σ2 a C Cn := ⟨x, c6, fun q q0 q1 => ⟨(hK.1.2.1 q q0 (by omega)).1, hR q q0 q1⟩⟩
theorem TGX.none {tl : Nat} (z : ∀ q, 0 ≤ q → q < Cn → σ.2.1 (1000 + adN σ 89 tl) q = 0) : TGX T σ tl C Cn := fun q q0 q1 nz => absurd (z q q0 q1) nz
theorem TGK.tape (h : TGK S T σ a C Cn) (hb : BSQ S T σ a) (hw : WT T σ) (oa : OB T a 11) (hxt : σ.2.1 95 a = (xt : Int)) (ch : CHX [(96, a)] [xt] [] σ σ2) : TGK S T σ2 a C Cn := by
  have ot := (KEM.xs hw oa).2.2.2.2
  have k5 := (KEM.xs hw oa).2.2.1
  have k2 := (ex_at (wf_95 hw oa) hxt).1
  have k89 := (ad_ex (Q := fun x => AR T x 1 6 6) (wf_89 hw ot)).2.1
  refine h.same hw oa GT.rfl hb.2.1 hb.2.2.1 ot (fun q q0 q1 => ?_) ?_ (fun f hf => ?_) (ch.f (by decide) (by simp)) (fun x hx => ch.r (fun m => ?_)) (fun _ z => z)
  · have z := (h.2.2 q q0 q1).1
    refine ⟨fun f f0 f1 => ch.f (by omega) (by simp only [List.mem_cons, List.not_mem_nil, or_false, Prod.mk.injEq]; omega), fun f hf => ch.r (fun m => ?_)⟩
    have y := af6_k hw (ob50 z.2.2) f hf
    rw [List.mem_singleton.mp m] at y
    omega
  · funext i
    exact ch.1 900 i (by decide) (fun p hp e => by rw [List.mem_singleton.mp hp] at e; exact absurd e (by simp))
  · simp only [List.mem_cons, List.not_mem_nil, or_false] at hf
    rcases hf with rfl | rfl
    · exact ch.f (by decide) (by simp)
    · exact ch.f (by decide) (by simp)
  · have e := List.mem_singleton.mp m
    rcases hx with hx | hx | hx
    · rw [← hx, e] at k89; omega
    · rw [← hx, e] at k5; omega
    · rw [e] at hx; omega
theorem TGK.pass (h : TGK S T σ a C Cn) (hK : KB6 S T σ a C E M) (hw : WT T σ) (oa : OB T a 11) (e97 : σ.2.1 97 a = Cn) (hp : PAC S T σ T2 σ2 a C NM PM w r v) (fr : FrC T ks σ σ2) (h9 : 900 ∉ ks ∧ 102 ∉ ks ∧ 89 ∉ ks) (hK2 : KB6 S T2 σ2 a C E2 M2) (hR : ∀ q, 0 ≤ q → q < Cn → RTC σ2 (C q)) : TGK S T2 σ2 a C Cn := by
  rcases hp with ⟨-, -, rfl, rfl⟩ | ⟨y1, -, pf, -, gt, -, -, -, -, -, tp⟩
  · exact h
  · have c6 := h.2.1
    have e9 : σ2.2.1 900 = σ.2.1 900 := fr.1 900 (Or.inr rfl) h9.1
    have e102 : adN σ2 102 a = adN σ 102 a := by unfold adN; rw [fr.1 102 (Or.inl (by decide)) h9.2.1]
    have e89 : adN σ2 89 (adN σ 102 a) = adN σ 89 (adN σ 102 a) := by unfold adN; rw [fr.1 89 (Or.inl (by decide)) h9.2.2]
    refine TGK.mk2 ⟨?_, h.1.2.same gt e9⟩ c6 hK2 hR
    rw [e102]
    intro q q0 q1 nz
    rw [e89, tp.2] at nz
    by_cases er : q = r
    · rw [er, uZ_eq] at nz
      exact absurd rfl nz
    · rw [uZ_ne er] at nz
      obtain ⟨t, t1, t2, t3⟩ := h.1.1 q q0 q1 nz
      have kt := tab_k hw q0 (by omega) t1
      have z := (h.2.2 q q0 q1).1
      have cs := pf.1 (C q) z.2.1 (ob50 z.2.2) (fun e => er ((hK.1.2.2.1 q r q0 (by omega) y1.2.1 (by omega)).1 e))
      have ro := tp.1 t kt (fun f b hf sb ob => hK.2.1.2.1 q t q0 (by omega) t1 f b hf sb ob)
      refine ⟨t, by rw [e9]; exact t1, by rw [ro]; exact tkc_m cs t2, ?_⟩
      rw [cs.1 6 (by decide) (by decide), cs.1 10 (by decide) (by decide), cs.rw (f := 14) (by decide) (by decide) (by decide), gt t (by omega) (by omega)]
      exact t3
theorem TGK.rdn (h : TGK S T σ a C Cn) (hK : KB6 S T σ a C E M) (hw : WT T σ) (oa : OB T a 11) (gt : GT T T2) (cs : ∀ q, 0 ≤ q → q < 6 → CSM σ σ2 (C q)) (tb : TBR S T σ σ2) (fr : FrC T ks σ σ2) (h9 : 900 ∉ ks ∧ 102 ∉ ks ∧ 89 ∉ ks) (hK2 : KB6 S T2 σ2 a C E2 M2) : TGK S T2 σ2 a C Cn := by
  have c6 := h.2.1
  have ot := (KEM.xs hw oa).2.2.2.2
  have k89 := (ad_ex (Q := fun x => AR T x 1 6 6) (wf_89 hw ot)).2.1
  have e9 : σ2.2.1 900 = σ.2.1 900 := fr.1 900 (Or.inr rfl) h9.1
  have e102 : adN σ2 102 a = adN σ 102 a := by unfold adN; rw [fr.1 102 (Or.inl (by decide)) h9.2.1]
  have e89 : σ2.2.1 89 (adN σ 102 a) = σ.2.1 89 (adN σ 102 a) := congrFun (fr.1 89 (Or.inl (by decide)) h9.2.2) _
  have rb : σ2.2.1 (1000 + adN σ 89 (adN σ 102 a)) = σ.2.1 (1000 + adN σ 89 (adN σ 102 a)) := tb.2.2 _ k89 (fun f b hf sb ob e => by
    have z := hK.1.1.1.2 89 f (adN σ 102 a) b (by decide) hf hK.2.1.2.2.1 sb ot ob e
    rw [← z.1]; rfl)
  refine TGK.mk2 ⟨?_, h.1.2.same gt e9⟩ c6 hK2 (fun q q0 q1 => rtc_m (cs q q0 (by omega)) (h.2.2 q q0 q1).2)
  rw [e102]
  exact h.1.1.same h.1.2 c6 gt (fun q q0 q1 => cs q q0 (by omega)) e9 e89 (fun q _ _ _ => by rw [rb]) (fun q t q0 q1 e => tb.2.2 t (tab_k hw q0 (by omega) e) (fun f b hf sb ob e2 => absurd e2 (hK.2.1.2.1 q t q0 (by omega) e f b hf sb ob)))
theorem TGK.rdy (h : TGK S T σ a C Cn) (gt : GT T T2) (fr : FrC T ks σ σ2) (h9 : 900 ∉ ks) (z : ∀ q, 0 ≤ q → q < Cn2 → σ2.2.1 (1000 + adN σ2 89 (adN σ2 102 a)) q = 0) (c6 : Cn2 ≤ 6) (hK2 : KB6 S2 T2 σ2 a C E2 M2) (hR : ∀ q, 0 ≤ q → q < Cn2 → RTC σ2 (C q)) : TGK S2 T2 σ2 a C Cn2 := TGK.mk2 ⟨TGX.none z, h.1.2.same gt (fr.1 900 (Or.inr rfl) h9)⟩ c6 hK2 hR
theorem TGK.first (h9 : ∀ i, 0 ≤ i → i < 6 → σ.2.1 900 i < 0) (c0 : Cn = 0) (hK : KB6 S T σ a C E M) : TGK S T σ a C Cn := TGK.mk2 ⟨TGX.none (fun q q0 q1 => by omega), fun p q p0 p1 q0 q1 u _ => by have := h9 p p0 p1; omega, fun p t p0 p1 e => by have := h9 p p0 p1; omega⟩ (by omega) hK (fun q q0 q1 => by omega)
end TGKL
theorem tlq_of {T T2 : CT} {σ σ2 : MS} {a tl bb bs bf : Nat} (e : σ.2.1 102 a = (tl : Int)) (e0 : σ.2.1 90 tl = (bb : Int)) (e1 : σ.2.1 91 tl = (bs : Int)) (e2 : σ.2.1 89 tl = (bf : Int)) (h : TLT T T2 σ σ2 tl a bb bs bf) : TLQ T σ σ2 a := by
  rcases h with h | ⟨c, r, -, q⟩
  · exact Or.inl h
  · exact Or.inr ⟨tl, bs, bb, bf, r, ⟨e, e0, e1, e2⟩, RFT.rfq q⟩
theorem knq_of {T T2 : CT} {σ σ2 : MS} {a rn tl xa xb xc y bb bs bf : Nat} {k m z v : Int} {V : MS → Nat → Int → Int} (hr : σ.2.1 103 a = (rn : Int)) (e : σ.2.1 102 a = (tl : Int)) (e0 : σ.2.1 90 tl = (bb : Int)) (e1 : σ.2.1 91 tl = (bs : Int)) (e2 : σ.2.1 89 tl = (bf : Int)) (h : KVT T T2 σ σ2 rn tl xa xb xc y bb bs bf k m z v V) : KNQ T σ σ2 a := by
  obtain ⟨σ1, u, ch, hw1, -, hc⟩ := h
  have fd : ∀ n : Nat, n < 1000 → n ≠ 70 → n ≠ 71 → ∀ b : Nat, σ1.2.1 n (b : Int) = σ.2.1 n b := fun n h1 h2 h3 b => ch.f h1 (by simp only [List.mem_cons, List.not_mem_nil, or_false, Prod.mk.injEq]; omega)
  refine ⟨σ1, rn, hr, ch, hw1, ?_⟩
  rcases hc with ⟨-, -, q1, q2⟩ | ⟨-, hc⟩
  · exact Or.inl ⟨q1, q2⟩
  · rcases hc with ⟨-, -, q1, q2⟩ | ⟨-, nn, c, -, -, -, q, -⟩
    · exact Or.inl ⟨q1, q2⟩
    · exact Or.inr ⟨tl, bs, bb, bf, _, ⟨(fd 102 (by decide) (by decide) (by decide) a).trans e, (fd 90 (by decide) (by decide) (by decide) tl).trans e0, (fd 91 (by decide) (by decide) (by decide) tl).trans e1, (fd 89 (by decide) (by decide) (by decide) tl).trans e2⟩, RFT.rfq q⟩
end
