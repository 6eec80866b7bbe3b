section
theorem pfr_fold {S : Nat → Prop} {T : CT} {σ σ2 : MS} {a c : Nat} (hI : INJ S T σ) (hw : WT T σ) (ha : OB T a 6) (hc : (T c).1 = 50) (sa : S a) (sc : S c) (ch : CHX [(6, c)] [adN σ 5 c, adN σ 52 a, adN σ 53 a] [] σ σ2) : PFR S T σ σ2 c := by
  have oc := ob50 hc
  refine PFR.chx hI hw ch (fun p hp => ?_) (fun x hx => ?_)
  · simp only [List.mem_cons, List.not_mem_nil, or_false] at hp
    subst hp
    exact Or.inl (by simp)
  · simp only [List.mem_cons, List.not_mem_nil, or_false] at hx
    rcases hx with rfl | rfl | rfl
    · exact ⟨5, c, by decide, sc, oc, rfl, fun _ => rfl⟩
    · exact ⟨52, a, by decide, sa, ha, rfl, fun e => absurd e (by decide)⟩
    · exact ⟨53, a, by decide, sa, ha, rfl, fun e => absurd e (by decide)⟩
theorem pfr_alike {S : Nat → Prop} {T : CT} {σ σ2 : MS} {a c : Nat} (hI : INJ S T σ) (hw : WT T σ) (ha : OB T a 6) (hc : (T c).1 = 50) (sa : S a) (sc : S c) (ch : CHX [] [adN σ 5 c] [adN σ 54 a] σ σ2) : PFR S T σ σ2 c := by
  have oc := ob50 hc
  refine PFR.chx hI hw ch (fun p hp => ?_) (fun x hx => ?_)
  · exact absurd hp (by simp)
  · simp only [List.mem_cons, List.not_mem_nil, or_false] at hx
    subst hx
    exact ⟨5, c, by decide, sc, oc, rfl, fun _ => rfl⟩
theorem pfr_move {S : Nat → Prop} {T : CT} {σ σ2 : MS} {a c : Nat} (hI : INJ S T σ) (hw : WT T σ) (ha : OB T a 6) (hc : (T c).1 = 50) (sa : S a) (sc : S c) (ch : CHX [] [adN σ 5 c, adN σ 16 c] [adN σ 54 a] σ σ2) : PFR S T σ σ2 c := by
  have oc := ob50 hc
  refine PFR.chx hI hw ch (fun p hp => ?_) (fun x hx => ?_)
  · exact absurd hp (by simp)
  · simp only [List.mem_cons, List.not_mem_nil, or_false] at hx
    rcases hx with rfl | rfl
    · exact ⟨5, c, by decide, sc, oc, rfl, fun _ => rfl⟩
    · exact ⟨16, c, by decide, sc, oc, rfl, fun _ => rfl⟩
theorem pfr_drop {S : Nat → Prop} {T : CT} {σ σ2 : MS} {a c : Nat} (hI : INJ S T σ) (hw : WT T σ) (ha : OB T a 2) (hc : (T c).1 = 50) (sa : S a) (sc : S c) (sf : S (adN σ 17 a)) (ch : CHX [(22, adN σ 17 a), (6, c)] [adN σ 5 c, adN σ 20 (adN σ 17 a), adN σ 21 (adN σ 17 a)] [adN σ 18 (adN σ 17 a), adN σ 19 (adN σ 17 a)] σ σ2) : PFR S T σ σ2 c := by
  have oc := ob50 hc
  have efl := ad_ex (Q := fun x => (T x).1 = 33) (wf_17 hw ha)
  have hfl : OB T (adN σ 17 a) 3 := ⟨by have := efl.2; omega, by rw [efl.2]; rfl, by have := efl.2; omega⟩
  refine PFR.chx hI hw ch (fun p hp => ?_) (fun x hx => ?_)
  · simp only [List.mem_cons, List.not_mem_nil, or_false] at hp
    rcases hp with rfl | rfl
    · exact Or.inr (by simp)
    · exact Or.inl (by simp)
  · simp only [List.mem_cons, List.not_mem_nil, or_false] at hx
    rcases hx with rfl | rfl | rfl
    · exact ⟨5, c, by decide, sc, oc, rfl, fun _ => rfl⟩
    · exact ⟨20, (adN σ 17 a), by decide, sf, hfl, rfl, fun e => absurd e (by decide)⟩
    · exact ⟨21, (adN σ 17 a), by decide, sf, hfl, rfl, fun e => absurd e (by decide)⟩
theorem pfr_share {S : Nat → Prop} {T : CT} {σ σ2 : MS} {a c : Nat} (hI : INJ S T σ) (hw : WT T σ) (ha : OB T a 8) (hc : (T c).1 = 50) (sa : S a) (sc : S c) (sf : S (adN σ 72 a)) (ch : CHX [(80, a)] [adN σ 5 c, adN σ 15 c, adN σ 75 a, adN σ 78 a] [adN σ 18 (adN σ 72 a), adN σ 19 (adN σ 72 a), adN σ 74 a, adN σ 73 a, adN σ 76 a, adN σ 77 a, adN σ 79 a] σ σ2) : PFR S T σ σ2 c := by
  have oc := ob50 hc
  have efl := ad_ex (Q := fun x => (T x).1 = 33) (wf_72 hw ha)
  have hfl : OB T (adN σ 72 a) 3 := ⟨by have := efl.2; omega, by rw [efl.2]; rfl, by have := efl.2; omega⟩
  refine PFR.chx hI hw ch (fun p hp => ?_) (fun x hx => ?_)
  · simp only [List.mem_cons, List.not_mem_nil, or_false] at hp
    subst hp
    exact Or.inr (by simp)
  · simp only [List.mem_cons, List.not_mem_nil, or_false] at hx
    rcases hx with rfl | rfl | rfl | rfl
    · exact ⟨5, c, by decide, sc, oc, rfl, fun _ => rfl⟩
    · exact ⟨15, c, by decide, sc, oc, rfl, fun _ => rfl⟩
    · exact ⟨75, a, by decide, sa, ha, rfl, fun e => absurd e (by decide)⟩
    · exact ⟨78, a, by decide, sa, ha, rfl, fun e => absurd e (by decide)⟩
theorem tbr_fold {S : Nat → Prop} {T : CT} {σ σ2 : MS} {a c : Nat} (hI : INJ S T σ) (hw : WT T σ) (ha : OB T a 6) (hc : (T c).1 = 50) (sa : S a) (sc : S c) (ch : CHX [(6, c)] [adN σ 5 c, adN σ 52 a, adN σ 53 a] [] σ σ2) : TBR S T σ σ2 := by
  have oc := ob50 hc
  refine TBR.chx hI ch (fun p hp => ?_) (fun x hx => ?_)
  · simp only [List.mem_cons, List.not_mem_nil, or_false] at hp
    subst hp
    simp
  · simp only [List.mem_cons, List.not_mem_nil, or_false] at hx
    rcases hx with rfl | rfl | rfl
    · exact ⟨5, c, by decide, by decide, sc, oc, rfl⟩
    · exact ⟨52, a, by decide, by decide, sa, ha, rfl⟩
    · exact ⟨53, a, by decide, by decide, sa, ha, rfl⟩
theorem tbr_alike {S : Nat → Prop} {T : CT} {σ σ2 : MS} {a c : Nat} (hI : INJ S T σ) (hw : WT T σ) (ha : OB T a 6) (hc : (T c).1 = 50) (sa : S a) (sc : S c) (ch : CHX [] [adN σ 5 c] [adN σ 54 a] σ σ2) : TBR S T σ σ2 := by
  have oc := ob50 hc
  refine TBR.chx hI ch (fun p hp => ?_) (fun x hx => ?_)
  · exact absurd hp (by simp)
  · simp only [List.mem_cons, List.not_mem_nil, or_false] at hx
    subst hx
    exact ⟨5, c, by decide, by decide, sc, oc, rfl⟩
theorem tbr_move {S : Nat → Prop} {T : CT} {σ σ2 : MS} {a c : Nat} (hI : INJ S T σ) (hw : WT T σ) (ha : OB T a 6) (hc : (T c).1 = 50) (sa : S a) (sc : S c) (ch : CHX [] [adN σ 5 c, adN σ 16 c] [adN σ 54 a] σ σ2) : TBR S T σ σ2 := by
  have oc := ob50 hc
  refine TBR.chx hI ch (fun p hp => ?_) (fun x hx => ?_)
  · exact absurd hp (by simp)
  · simp only [List.mem_cons, List.not_mem_nil, or_false] at hx
    rcases hx with rfl | rfl
    · exact ⟨5, c, by decide, by decide, sc, oc, rfl⟩
    · exact ⟨16, c, by decide, by decide, sc, oc, rfl⟩
theorem tbr_drop {S : Nat → Prop} {T : CT} {σ σ2 : MS} {a c : Nat} (hI : INJ S T σ) (hw : WT T σ) (ha : OB T a 2) (hc : (T c).1 = 50) (sa : S a) (sc : S c) (sf : S (adN σ 17 a)) (ch : CHX [(22, adN σ 17 a), (6, c)] [adN σ 5 c, adN σ 20 (adN σ 17 a), adN σ 21 (adN σ 17 a)] [adN σ 18 (adN σ 17 a), adN σ 19 (adN σ 17 a)] σ σ2) : TBR S T σ σ2 := by
  have oc := ob50 hc
  have efl := ad_ex (Q := fun x => (T x).1 = 33) (wf_17 hw ha)
  have hfl : OB T (adN σ 17 a) 3 := ⟨by have := efl.2; omega, by rw [efl.2]; rfl, by have := efl.2; omega⟩
  refine TBR.chx hI ch (fun p hp => ?_) (fun x hx => ?_)
  · simp only [List.mem_cons, List.not_mem_nil, or_false] at hp
    rcases hp with rfl | rfl <;> simp
  · simp only [List.mem_cons, List.not_mem_nil, or_false] at hx
    rcases hx with rfl | rfl | rfl
    · exact ⟨5, c, by decide, by decide, sc, oc, rfl⟩
    · exact ⟨20, (adN σ 17 a), by decide, by decide, sf, hfl, rfl⟩
    · exact ⟨21, (adN σ 17 a), by decide, by decide, sf, hfl, rfl⟩
theorem tbr_share {S : Nat → Prop} {T : CT} {σ σ2 : MS} {a c : Nat} (hI : INJ S T σ) (hw : WT T σ) (ha : OB T a 8) (hc : (T c).1 = 50) (sa : S a) (sc : S c) (sf : S (adN σ 72 a)) (ch : CHX [(80, a)] [adN σ 5 c, adN σ 15 c, adN σ 75 a, adN σ 78 a] [adN σ 18 (adN σ 72 a), adN σ 19 (adN σ 72 a), adN σ 74 a, adN σ 73 a, adN σ 76 a, adN σ 77 a, adN σ 79 a] σ σ2) : TBR S T σ σ2 := by
  have oc := ob50 hc
  have efl := ad_ex (Q := fun x => (T x).1 = 33) (wf_72 hw ha)
  have hfl : OB T (adN σ 72 a) 3 := ⟨by have := efl.2; omega, by rw [efl.2]; rfl, by have := efl.2; omega⟩
  refine TBR.chx hI ch (fun p hp => ?_) (fun x hx => ?_)
  · simp only [List.mem_cons, List.not_mem_nil, or_false] at hp
    subst hp
    simp
  · simp only [List.mem_cons, List.not_mem_nil, or_false] at hx
    rcases hx with rfl | rfl | rfl | rfl
    · exact ⟨5, c, by decide, by decide, sc, oc, rfl⟩
    · exact ⟨15, c, by decide, by decide, sc, oc, rfl⟩
    · exact ⟨75, a, by decide, by decide, sa, ha, rfl⟩
    · exact ⟨78, a, by decide, by decide, sa, ha, rfl⟩
def KST (S : Nat → Prop) (σ : MS) (a : Nat) : Prop := S (adN σ 106 a) ∧ S (adN σ 107 a) ∧ S (adN σ 108 a) ∧ S (adN σ 109 a) ∧ S (adN σ 17 (adN σ 107 a)) ∧ S (adN σ 23 (adN σ 108 a)) ∧ S (adN σ 72 (adN σ 109 a)) ∧ S (adN σ 102 a)
def KCO (S : Nat → Prop) (T : CT) (σ : MS) (a : Nat) (C : Int → Nat) : Prop := (0 ≤ σ.2.1 97 a ∧ σ.2.1 97 a ≤ 6) ∧ (∀ q, 0 ≤ q → q < 6 → σ.2.1 (1000 + adN σ 99 a) q = (C q : Int) ∧ S (C q) ∧ (T (C q)).1 = 50) ∧ ∀ p q, 0 ≤ p → p < 6 → 0 ≤ q → q < 6 → C p = C q → p = q
def KCD (σ : MS) (a : Nat) (C : Int → Nat) (NM PM : Int → Int) : Prop := ∀ q, 0 ≤ q → q < σ.2.1 97 a → cdG σ (C q) NM (σ.2.1 97 a) ∧ GNK (cdW σ (C q)) (σ.2.1 6 (C q)) ∧ PM q = σ.2.1 8 (C q) ∧ NM q = σ.2.1 7 (C q)
def KOK (S : Nat → Prop) (T : CT) (σ : MS) (a : Nat) (C : Int → Nat) (NM PM : Int → Int) : Prop := INJ S T σ ∧ KST S σ a ∧ KCO S T σ a C ∧ KCD σ a C NM PM
section PAS
variable {S : Nat → Prop} {T T1 T2 : CT} {σ σ1 σ2 : MS} {a b c : Nat} {C : Int → Nat} {NM PM : Int → Int} {r v w : Int}
theorem CSM.trans (h : CSM σ σ1 b) (g : CSM σ1 σ2 b) : CSM σ σ2 b := ⟨fun f f0 f1 => (g.1 f f0 f1).trans (h.1 f f0 f1), fun f hf => by
  have f0 : 5 ≤ f ∧ f ≤ 16 := by simp only [List.mem_cons, List.not_mem_nil, or_false] at hf; omega
  have z := g.2 f hf
  rw [h.ad f0.1 f0.2] at z
  exact z.trans (h.2 f hf)⟩
theorem PFR.trans (h : PFR S T σ σ1 c) (gt : GT T T1) (g : PFR S T1 σ1 σ2 c) : PFR S T σ σ2 c := ⟨fun b sb ob nb => (h.1 b sb ob nb).trans (g.1 b sb (gt.ob ob) nb), fun f b hf hn => (g.2.1 f b hf hn).trans (h.2.1 f b hf hn), fun f hf => (g.2.2.1 f hf).trans (h.2.2.1 f hf), fun x hx => (g.2.2.2 x (by rw [gt x (by omega) (by omega)]; exact hx)).trans (h.2.2.2 x hx)⟩
theorem csm_chx {ks : List (Nat × Nat)} {rs ls : List Nat} (ch : CHX ks rs ls σ σ2) (hk : ∀ p, p ∈ ks → 16 < p.1) (hr : ∀ f, f ∈ AF6 → adN σ f c ∉ rs) : CSM σ σ2 c := ⟨fun f f0 f1 => ch.f (by omega) (fun q => by have z := hk _ q; simp only at z; omega), fun f hf => ch.r (hr f hf)⟩
def CDF (σ : MS) (a : Nat) (r v : Int) : Prop := ((0 ≤ r ∧ r < σ.2.1 97 a) ∧ v = σ.2.1 (1000 + adN σ 99 a) r) ∨ (¬ (0 ≤ r ∧ r < σ.2.1 97 a) ∧ v = -1)
def RN9 (σ : MS) (c : Nat) (NM : Int → Int) : Prop := ∀ f, 0 ≤ f → f < σ.2.1 10 c → (0 ≤ rwF σ 14 c f ∧ rwF σ 14 c f ≤ 12) ∧ NM (rwF σ 11 c f) = rwF σ 14 c f
def RP8 (σ σ2 : MS) (a : Nat) (v : Int) : Prop := (v = -1 ∧ σ2.2.1 56 = σ.2.1 56) ∨ (v ≠ -1 ∧ ∃ rn : Nat, σ2.2.1 103 a = (rn : Int) ∧ σ2.2.1 56 rn = 0)
def RP7 (σ σ2 : MS) (a : Nat) (w r : Int) : Prop := (¬ ((0 ≤ w ∧ w ≤ 5) ∧ 0 ≤ r ∧ r < σ.2.1 97 a) ∧ σ2 = σ) ∨ (((0 ≤ w ∧ w ≤ 5) ∧ 0 ≤ r ∧ r < σ.2.1 97 a) ∧ ∃ rn : Nat, σ2.2.1 103 a = (rn : Int) ∧ σ2.2.1 56 rn = 0)
def PAC (S : Nat → Prop) (T : CT) (σ : MS) (T2 : CT) (σ2 : MS) (a : Nat) (C : Int → Nat) (NM PM : Int → Int) (w r v : Int) : Prop := (¬ ((0 ≤ w ∧ w ≤ 5) ∧ 0 ≤ r ∧ r < σ.2.1 97 a) ∧ v = -1 ∧ T2 = T ∧ σ2 = σ) ∨ (((0 ≤ w ∧ w ≤ 5) ∧ 0 ≤ r ∧ r < σ.2.1 97 a) ∧ PSV w r (fun q => cdS σ (C q)) PM NM (cdS σ (C r)) (cdS σ2 (C r)) v ∧ PFR S T σ σ2 (C r) ∧ INJ S T2 σ2 ∧ GT T T2 ∧ WOK (cdW σ2 (C r)) (σ2.2.1 6 (C r)) ∧ LNK (cdW σ2 (C r)) (σ2.2.1 6 (C r)) ∧ (0 ≤ σ2.2.1 6 (C r) ∧ σ2.2.1 6 (C r) ≤ 200) ∧ RN9 σ2 (C r) NM ∧ (σ2.2.1 5 (C r) = σ.2.1 5 (C r) ∨ ¬ ((T (adN σ2 5 (C r))).1 ≠ 0 ∧ (T (adN σ2 5 (C r))).1 < 80)) ∧ TPA S T σ σ2 a r)
theorem PAC.mk {s1 s2 s3 : MS} {x : Nat} {n : Int} {xs ls : List Nat} {ks : List (Nat × Nat)} (hK : KOK S T σ a C NM PM) (hw : WT T σ) (hw1 : WT T1 s1) (hw2 : WT T1 s2) (gt : GT T T1) (hr : (0 ≤ w ∧ w ≤ 5) ∧ 0 ≤ r ∧ r < σ.2.1 97 a) (hc : c = C r) (po : PSO T σ s1 c w r (fun q => cdS σ (C q)) PM NM v) (pf : PFR S T σ s1 c) (hx : s1.2.1 5 c = (x : Int)) (hn : s1.2.1 6 c = n) (l1 : CHX [] [x] [] s1 s2) (l2 : LKE (cW s1 x n) (cW s2 x n)) (l3 : LNK (cW s2 x n) n) (ch : CHX ks xs ls s2 s3) (hks : ∀ p, p ∈ ks → p.1 = 56) (hxs : ∀ y, y ∈ xs → ∃ t, S t ∧ OB T1 t 10 ∧ y = adN s2 89 t) {xf tl : Nat} (tb : TBR S T σ s1) (htl : tl = adN σ 102 a) (ot : OB T tl 10) (stl : S tl) (hxf : xf = adN s2 89 tl) (exs : xs = [xf]) (spr : s3.2.1 (1000 + xf) = uZ (s2.2.1 (1000 + xf)) r 0) (k89 : (T (adN σ 89 (adN σ 102 a))).1 = 1) : PAC S T σ T1 s3 a C NM PM w r v := by
  obtain ⟨hI, hS, hCo, hG⟩ := hK
  have q := hCo.2.1 r hr.2.1 (by have := hCo.1; omega)
  subst hc
  have c50 : (T1 (C r)).1 = 50 := gt.kk q.2.2 (by decide) (by decide)
  obtain ⟨p1, p2, p3, p4, p5⟩ := po
  have i1 := hI.pass hw gt q.2.1 pf p4
  have w1 : cdW s1 (C r) = cW s1 x n := cd_w2 hx hn
  have f5 : s2.2.1 5 (C r) = s1.2.1 5 (C r) := l1.f (by decide) (by simp)
  have f6 : s2.2.1 6 (C r) = s1.2.1 6 (C r) := l1.f (by decide) (by simp)
  have w2 : cdW s2 (C r) = cW s2 x n := cd_w2 (f5.trans hx) (f6.trans hn)
  have ex : x = adN s1 5 (C r) := (adN_of hx).symm
  have pl : PFR S T1 s1 s2 (C r) := PFR.chx i1 hw1 l1 (fun p hp => absurd hp (by simp)) (fun y hy => by
    rw [List.mem_singleton.mp hy]
    exact ⟨5, C r, by decide, q.2.1, ob50 c50, ex, fun _ => rfl⟩)
  have i2 := i1.pass hw1 GT.rfl q.2.1 pl (Or.inl f5)
  have cs : CSM s2 s3 (C r) := csm_chx ch (fun p hp => by rw [hks p hp]; decide) (fun f hf y => by
    obtain ⟨t, t1, t2, t3⟩ := hxs _ y
    have fa : f ∈ AFL ∧ cls f = 1 ∧ f ≠ 89 := by
      simp only [List.mem_cons, List.not_mem_nil, or_false] at hf
      rcases hf with rfl | rfl | rfl | rfl | rfl | rfl <;> exact ⟨by decide, rfl, by decide⟩
    exact fa.2.2 (i2.2 f 89 (C r) t fa.1 (by decide) q.2.1 t1 (by rw [fa.2.1]; exact ob50 c50) t2 t3).1)
  have pq : PFR S T1 s2 s3 (C r) := PFR.chx i2 hw2 ch (fun p hp => Or.inr (by rw [hks p hp]; decide)) (fun y hy => by
    obtain ⟨t, t1, t2, t3⟩ := hxs y hy
    exact ⟨89, t, by decide, t1, t2, t3, fun e => absurd e (by decide)⟩)
  have i3 := i2.pass hw2 GT.rfl q.2.1 pq (Or.inl (cs.1 5 (by decide) (by decide)))
  have s12 : cdS s2 (C r) = cdS s1 (C r) := by
    have k : ∀ f, f ∈ [11, 12, 13, 14, 15] → rwF s2 f (C r) = rwF s1 f (C r) := fun f hf => rw_keep l1 (by simp only [List.mem_cons, List.not_mem_nil, or_false] at hf; omega) (by simp) (by
      rw [ex]
      simp only [List.mem_singleton]
      have fa : f ∈ AFL ∧ cls f = 1 ∧ f ≠ 5 := by
        simp only [List.mem_cons, List.not_mem_nil, or_false] at hf
        rcases hf with rfl | rfl | rfl | rfl | rfl <;> exact ⟨by decide, rfl, by decide⟩
      exact fun e => fa.2.2 (i1.2 f 5 (C r) (C r) fa.1 (by decide) q.2.1 q.2.1 (by rw [fa.2.1]; exact ob50 c50) (ob50 c50) e).1)
    have e10 : s2.2.1 10 (C r) = s1.2.1 10 (C r) := l1.f (by decide) (by simp)
    unfold cdS cRS
    rw [w1, w2, l2.vw, f6, e10, k 11 (by decide), k 12 (by decide), k 13 (by decide), k 14 (by decide), k 15 (by decide)]
  refine Or.inr ⟨hr, by rw [cs.s, s12]; exact p1, (pf.trans gt pl).trans gt pq, i3, gt, ?_, ?_, ?_, ?_, ?_, ?_⟩
  · rw [cs.w, cs.1 6 (by decide) (by decide), w2, f6]
    rw [w1] at p2
    exact l2.wok p2
  · rw [cs.w, cs.1 6 (by decide) (by decide), w2, f6, hn]; exact l3
  · rw [cs.1 6 (by decide) (by decide), f6]; exact p3
  · have k3 : ∀ f, f ∈ AF6 → rwF s3 f (C r) = rwF s2 f (C r) := fun f hf => by
      have z := cs.2 f hf
      unfold rwF at *
      rw [show adN s3 f (C r) = adN s2 f (C r) by unfold adN; rw [cs.1 f (by simp only [List.mem_cons, List.not_mem_nil, or_false] at hf; omega) (by simp only [List.mem_cons, List.not_mem_nil, or_false] at hf; omega)]]
      exact z
    have k2 : ∀ f, f ∈ [11, 12, 13, 14, 15] → rwF s2 f (C r) = rwF s1 f (C r) := fun f hf => rw_keep l1 (by simp only [List.mem_cons, List.not_mem_nil, or_false] at hf; omega) (by simp) (by
      rw [ex]
      simp only [List.mem_singleton]
      have fa : f ∈ AFL ∧ cls f = 1 ∧ f ≠ 5 := by
        simp only [List.mem_cons, List.not_mem_nil, or_false] at hf
        rcases hf with rfl | rfl | rfl | rfl | rfl <;> exact ⟨by decide, rfl, by decide⟩
      exact fun e => fa.2.2 (i1.2 f 5 (C r) (C r) fa.1 (by decide) q.2.1 q.2.1 (by rw [fa.2.1]; exact ob50 c50) (ob50 c50) e).1)
    have e10 : s3.2.1 10 (C r) = s1.2.1 10 (C r) := (cs.1 10 (by decide) (by decide)).trans (l1.f (by decide) (by simp))
    have n1 : RN9 s1 (C r) NM := by
      rcases p5 with ⟨-, R, z⟩ | ⟨z1, z2, z3⟩
      · exact z.2.2.2.2.1
      · unfold RN9
        rw [z1, z2, z3]
        exact (hG r hr.2.1 hr.2.2).1.1.2.2.2.2.1
    unfold RN9 at *
    rw [e10, k3 11 (by decide), k3 14 (by decide), k2 11 (by decide), k2 14 (by decide)]
    exact n1
  · have e5 : s3.2.1 5 (C r) = s1.2.1 5 (C r) := (cs.1 5 (by decide) (by decide)).trans f5
    have a5 : adN s3 5 (C r) = adN s1 5 (C r) := by unfold adN; rw [e5]
    rw [a5, e5]
    exact p4
  · have tb2 : TBR S T1 s1 s2 := TBR.chx i1 l1 (fun p hp => absurd hp (by simp)) (fun y hy => by
      rw [List.mem_singleton.mp hy]
      exact ⟨5, C r, by decide, by decide, q.2.1, ob50 c50, ex⟩)
    have t12 := tb.trans gt tb2
    have e89 : adN s2 89 tl = adN σ 89 tl := by
      unfold adN
      rw [l1.f (a := tl) (by decide) (by simp), pf.2.1 89 tl (by decide) (by simp)]
    subst htl
    rw [e89] at hxf
    refine ⟨fun y hy hn => ?_, ?_⟩
    · rw [ch.r (fun z => hn 89 _ (by decide) stl ot (by rw [exs] at z; rw [List.mem_singleton.mp z]; exact hxf))]
      exact t12.2.2 y hy (fun f b hf sb o e => absurd e (hn f b hf sb o))
    · rw [← hxf, spr, t12.2.2 xf (by rw [hxf]; exact k89) (fun f b hf sb o e => by
        have z := hI.2 89 f (adN σ 102 a) b (by decide) hf stl sb ot o (by rw [← hxf]; exact e)
        rw [← z.1]; rfl)]
end PAS
end
