section
theorem pfr_fold {S : Nat → Prop} {T : CT} {σ σ2 : MS} {a c : Nat} (hI : INJ S T σ) (hw : WT T σ) (ha : OB T a 6) (hc : (T c).1 = 50) (sa : S a) (sc : S c) (ch : CHX [(6, c)] [adN σ 5 c, adN σ 52 a, adN σ 53 a] [] σ σ2) : PFR S T σ σ2 c := by
  have oc := ob50 hc
  refine PFR.chx hI hw ch (fun p hp => ?_) (fun x hx => ?_)
  · simp only [List.mem_cons, List.not_mem_nil, or_false] at hp
    subst hp
    exact Or.inl (by simp)
  · simp only [List.mem_cons, List.not_mem_nil, or_false] at hx
    rcases hx with rfl | rfl | rfl
    · exact ⟨5, c, by decide, sc, oc, rfl, fun _ => rfl⟩
    · exact ⟨52, a, by decide, sa, ha, rfl, fun e => absurd e (by decide)⟩
    · exact ⟨53, a, by decide, sa, ha, rfl, fun e => absurd e (by decide)⟩
theorem pfr_alike {S : Nat → Prop} {T : CT} {σ σ2 : MS} {a c : Nat} (hI : INJ S T σ) (hw : WT T σ) (ha : OB T a 6) (hc : (T c).1 = 50) (sa : S a) (sc : S c) (ch : CHX [] [adN σ 5 c] [adN σ 54 a] σ σ2) : PFR S T σ σ2 c := by
  have oc := ob50 hc
  refine PFR.chx hI hw ch (fun p hp => ?_) (fun x hx => ?_)
  · exact absurd hp (by simp)
  · simp only [List.mem_cons, List.not_mem_nil, or_false] at hx
    subst hx
    exact ⟨5, c, by decide, sc, oc, rfl, fun _ => rfl⟩
theorem pfr_move {S : Nat → Prop} {T : CT} {σ σ2 : MS} {a c : Nat} (hI : INJ S T σ) (hw : WT T σ) (ha : OB T a 6) (hc : (T c).1 = 50) (sa : S a) (sc : S c) (ch : CHX [] [adN σ 5 c, adN σ 16 c] [adN σ 54 a] σ σ2) : PFR S T σ σ2 c := by
  have oc := ob50 hc
  refine PFR.chx hI hw ch (fun p hp => ?_) (fun x hx => ?_)
  · exact absurd hp (by simp)
  · simp only [List.mem_cons, List.not_mem_nil, or_false] at hx
    rcases hx with rfl | rfl
    · exact ⟨5, c, by decide, sc, oc, rfl, fun _ => rfl⟩
    · exact ⟨16, c, by decide, sc, oc, rfl, fun _ => rfl⟩
theorem pfr_drop {S : Nat → Prop} {T : CT} {σ σ2 : MS} {a c : Nat} (hI : INJ S T σ) (hw : WT T σ) (ha : OB T a 2) (hc : (T c).1 = 50) (sa : S a) (sc : S c) (sf : S (adN σ 17 a)) (ch : CHX [(22, adN σ 17 a), (6, c)] [adN σ 5 c, adN σ 20 (adN σ 17 a), adN σ 21 (adN σ 17 a)] [adN σ 18 (adN σ 17 a), adN σ 19 (adN σ 17 a)] σ σ2) : PFR S T σ σ2 c := by
  have oc := ob50 hc
  have efl := ad_ex (Q := fun x => (T x).1 = 33) (wf_17 hw ha)
  have hfl : OB T (adN σ 17 a) 3 := ⟨by have := efl.2; omega, by rw [efl.2]; rfl, by have := efl.2; omega⟩
  refine PFR.chx hI hw ch (fun p hp => ?_) (fun x hx => ?_)
  · simp only [List.mem_cons, List.not_mem_nil, or_false] at hp
    rcases hp with rfl | rfl
    · exact Or.inr (by simp)
    · exact Or.inl (by simp)
  · simp only [List.mem_cons, List.not_mem_nil, or_false] at hx
    rcases hx with rfl | rfl | rfl
    · exact ⟨5, c, by decide, sc, oc, rfl, fun _ => rfl⟩
    · exact ⟨20, (adN σ 17 a), by decide, sf, hfl, rfl, fun e => absurd e (by decide)⟩
    · exact ⟨21, (adN σ 17 a), by decide, sf, hfl, rfl, fun e => absurd e (by decide)⟩
theorem pfr_share {S : Nat → Prop} {T : CT} {σ σ2 : MS} {a c : Nat} (hI : INJ S T σ) (hw : WT T σ) (ha : OB T a 8) (hc : (T c).1 = 50) (sa : S a) (sc : S c) (sf : S (adN σ 72 a)) (ch : CHX [(80, a)] [adN σ 5 c, adN σ 15 c, adN σ 75 a, adN σ 78 a] [adN σ 18 (adN σ 72 a), adN σ 19 (adN σ 72 a), adN σ 74 a, adN σ 73 a, adN σ 76 a, adN σ 77 a, adN σ 79 a] σ σ2) : PFR S T σ σ2 c := by
  have oc := ob50 hc
  have efl := ad_ex (Q := fun x => (T x).1 = 33) (wf_72 hw ha)
  have hfl : OB T (adN σ 72 a) 3 := ⟨by have := efl.2; omega, by rw [efl.2]; rfl, by have := efl.2; omega⟩
  refine PFR.chx hI hw ch (fun p hp => ?_) (fun x hx => ?_)
  · simp only [List.mem_cons, List.not_mem_nil, or_false] at hp
    subst hp
    exact Or.inr (by simp)
  · simp only [List.mem_cons, List.not_mem_nil, or_false] at hx
    rcases hx with rfl | rfl | rfl | rfl
    · exact ⟨5, c, by decide, sc, oc, rfl, fun _ => rfl⟩
    · exact ⟨15, c, by decide, sc, oc, rfl, fun _ => rfl⟩
    · exact ⟨75, a, by decide, sa, ha, rfl, fun e => absurd e (by decide)⟩
    · exact ⟨78, a, by decide, sa, ha, rfl, fun e => absurd e (by decide)⟩
def KST (S : Nat → Prop) (σ : MS) (a : Nat) : Prop := S (adN σ 106 a) ∧ S (adN σ 107 a) ∧ S (adN σ 108 a) ∧ S (adN σ 109 a) ∧ S (adN σ 17 (adN σ 107 a)) ∧ S (adN σ 23 (adN σ 108 a)) ∧ S (adN σ 72 (adN σ 109 a)) ∧ S (adN σ 102 a)
def KCO (S : Nat → Prop) (T : CT) (σ : MS) (a : Nat) (C : Int → Nat) : Prop := (0 ≤ σ.2.1 97 a ∧ σ.2.1 97 a ≤ 6) ∧ (∀ q, 0 ≤ q → q < 6 → σ.2.1 (1000 + adN σ 99 a) q = (C q : Int) ∧ S (C q) ∧ (T (C q)).1 = 50) ∧ ∀ p q, 0 ≤ p → p < 6 → 0 ≤ q → q < 6 → C p = C q → p = q
def KCD (σ : MS) (a : Nat) (C : Int → Nat) (NM PM : Int → Int) : Prop := ∀ q, 0 ≤ q → q < σ.2.1 97 a → cdG σ (C q) NM (σ.2.1 97 a) ∧ GNK (cdW σ (C q)) (σ.2.1 6 (C q)) ∧ PM q = σ.2.1 8 (C q) ∧ NM q = σ.2.1 7 (C q)
def KOK (S : Nat → Prop) (T : CT) (σ : MS) (a : Nat) (C : Int → Nat) (NM PM : Int → Int) : Prop := INJ S T σ ∧ KST S σ a ∧ KCO S T σ a C ∧ KCD σ a C NM PM
section PAS
variable {S : Nat → Prop} {T T1 T2 : CT} {σ σ1 σ2 : MS} {a b c : Nat} {C : Int → Nat} {NM PM : Int → Int} {r v w : Int}
theorem CSM.trans (h : CSM σ σ1 b) (g : CSM σ1 σ2 b) : CSM σ σ2 b := ⟨fun f f0 f1 => (g.1 f f0 f1).trans (h.1 f f0 f1), fun f hf => by
  have f0 : 5 ≤ f ∧ f ≤ 16 := by simp only [List.mem_cons, List.not_mem_nil, or_false] at hf; omega
  have z := g.2 f hf
  rw [h.ad f0.1 f0.2] at z
  exact z.trans (h.2 f hf)⟩
theorem PFR.trans (h : PFR S T σ σ1 c) (gt : GT T T1) (g : PFR S T1 σ1 σ2 c) : PFR S T σ σ2 c := ⟨fun b sb ob nb => (h.1 b sb ob nb).trans (g.1 b sb (gt.ob ob) nb), fun f b hf hn => (g.2.1 f b hf hn).trans (h.2.1 f b hf hn), fun f hf => (g.2.2.1 f hf).trans (h.2.2.1 f hf), fun x hx => (g.2.2.2 x (by rw [gt x (by omega) (by omega)]; exact hx)).trans (h.2.2.2 x hx)⟩
theorem csm_chx {ks : List (Nat × Nat)} {rs ls : List Nat} (ch : CHX ks rs ls σ σ2) (hk : ∀ p, p ∈ ks → 16 < p.1) (hr : ∀ f, f ∈ AF6 → adN σ f c ∉ rs) : CSM σ σ2 c := ⟨fun f f0 f1 => ch.f (by omega) (fun q => by have z := hk _ q; simp only at z; omega), fun f hf => ch.r (hr f hf)⟩
def CDF (σ : MS) (a : Nat) (r v : Int) : Prop := ((0 ≤ r ∧ r < σ.2.1 97 a) ∧ v = σ.2.1 (1000 + adN σ 99 a) r) ∨ (¬ (0 ≤ r ∧ r < σ.2.1 97 a) ∧ v = -1)
def RN9 (σ : MS) (c : Nat) (NM : Int → Int) : Prop := ∀ f, 0 ≤ f → f < σ.2.1 10 c → (0 ≤ rwF σ 14 c f ∧ rwF σ 14 c f ≤ 12) ∧ NM (rwF σ 11 c f) = rwF σ 14 c f
def RP8 (σ σ2 : MS) (a : Nat) (v : Int) : Prop := (v = -1 ∧ σ2.2.1 56 = σ.2.1 56) ∨ (v ≠ -1 ∧ ∃ rn : Nat, σ2.2.1 103 a = (rn : Int) ∧ σ2.2.1 56 rn = 0)
def RP7 (σ σ2 : MS) (a : Nat) (w r : Int) : Prop := (¬ ((0 ≤ w ∧ w ≤ 5) ∧ 0 ≤ r ∧ r < σ.2.1 97 a) ∧ σ2 = σ) ∨ (((0 ≤ w ∧ w ≤ 5) ∧ 0 ≤ r ∧ r < σ.2.1 97 a) ∧ ∃ rn : Nat, σ2.2.1 103 a = (rn : Int) ∧ σ2.2.1 56 rn = 0)
def PAC (S : Nat → Prop) (T : CT) (σ : MS) (T2 : CT) (σ2 : MS) (a : Nat) (C : Int → Nat) (NM PM : Int → Int) (w r v : Int) : Prop := (¬ ((0 ≤ w ∧ w ≤ 5) ∧ 0 ≤ r ∧ r < σ.2.1 97 a) ∧ v = -1 ∧ T2 = T ∧ σ2 = σ) ∨ (((0 ≤ w ∧ w ≤ 5) ∧ 0 ≤ r ∧ r < σ.2.1 97 a) ∧ PSV w r (fun q => cdS σ (C q)) PM NM (cdS σ (C r)) (cdS σ2 (C r)) v ∧ PFR S T σ σ2 (C r) ∧ INJ S T2 σ2 ∧ GT T T2 ∧ WOK (cdW σ2 (C r)) (σ2.2.1 6 (C r)) ∧ LNK (cdW σ2 (C r)) (σ2.2.1 6 (C r)) ∧ (0 ≤ σ2.2.1 6 (C r) ∧ σ2.2.1 6 (C r) ≤ 200) ∧ RN9 σ2 (C r) NM ∧ (σ2.2.1 5 (C r) = σ.2.1 5 (C r) ∨ ¬ ((T (adN σ2 5 (C r))).1 ≠ 0 ∧ (T (adN σ2 5 (C r))).1 < 80)))
theorem PAC.mk {s1 s2 s3 : MS} {x : Nat} {n : Int} {xs ls : List Nat} {ks : List (Nat × Nat)} (hK : KOK S T σ a C NM PM) (hw : WT T σ) (hw1 : WT T1 s1) (hw2 : WT T1 s2) (gt : GT T T1) (hr : (0 ≤ w ∧ w ≤ 5) ∧ 0 ≤ r ∧ r < σ.2.1 97 a) (hc : c = C r) (po : PSO T σ s1 c w r (fun q => cdS σ (C q)) PM NM v) (pf : PFR S T σ s1 c) (hx : s1.2.1 5 c = (x : Int)) (hn : s1.2.1 6 c = n) (l1 : CHX [] [x] [] s1 s2) (l2 : LKE (cW s1 x n) (cW s2 x n)) (l3 : LNK (cW s2 x n) n) (ch : CHX ks xs ls s2 s3) (hks : ∀ p, p ∈ ks → p.1 = 56) (hxs : ∀ y, y ∈ xs → ∃ t, S t ∧ OB T1 t 10 ∧ y = adN s2 89 t) : PAC S T σ T1 s3 a C NM PM w r v := by
  obtain ⟨hI, hS, hCo, hG⟩ := hK
  have q := hCo.2.1 r hr.2.1 (by have := hCo.1; omega)
  subst hc
  have c50 : (T1 (C r)).1 = 50 := gt.kk q.2.2 (by decide) (by decide)
  obtain ⟨p1, p2, p3, p4, p5⟩ := po
  have i1 := hI.pass hw gt q.2.1 pf p4
  have w1 : cdW s1 (C r) = cW s1 x n := cd_w2 hx hn
  have f5 : s2.2.1 5 (C r) = s1.2.1 5 (C r) := l1.f (by decide) (by simp)
  have f6 : s2.2.1 6 (C r) = s1.2.1 6 (C r) := l1.f (by decide) (by simp)
  have w2 : cdW s2 (C r) = cW s2 x n := cd_w2 (f5.trans hx) (f6.trans hn)
  have ex : x = adN s1 5 (C r) := (adN_of hx).symm
  have pl : PFR S T1 s1 s2 (C r) := PFR.chx i1 hw1 l1 (fun p hp => absurd hp (by simp)) (fun y hy => by
    rw [List.mem_singleton.mp hy]
    exact ⟨5, C r, by decide, q.2.1, ob50 c50, ex, fun _ => rfl⟩)
  have i2 := i1.pass hw1 GT.rfl q.2.1 pl (Or.inl f5)
  have cs : CSM s2 s3 (C r) := csm_chx ch (fun p hp => by rw [hks p hp]; decide) (fun f hf y => by
    obtain ⟨t, t1, t2, t3⟩ := hxs _ y
    have fa : f ∈ AFL ∧ cls f = 1 ∧ f ≠ 89 := by
      simp only [List.mem_cons, List.not_mem_nil, or_false] at hf
      rcases hf with rfl | rfl | rfl | rfl | rfl | rfl <;> exact ⟨by decide, rfl, by decide⟩
    exact fa.2.2 (i2.2 f 89 (C r) t fa.1 (by decide) q.2.1 t1 (by rw [fa.2.1]; exact ob50 c50) t2 t3).1)
  have pq : PFR S T1 s2 s3 (C r) := PFR.chx i2 hw2 ch (fun p hp => Or.inr (by rw [hks p hp]; decide)) (fun y hy => by
    obtain ⟨t, t1, t2, t3⟩ := hxs y hy
    exact ⟨89, t, by decide, t1, t2, t3, fun e => absurd e (by decide)⟩)
  have i3 := i2.pass hw2 GT.rfl q.2.1 pq (Or.inl (cs.1 5 (by decide) (by decide)))
  have s12 : cdS s2 (C r) = cdS s1 (C r) := by
    have k : ∀ f, f ∈ [11, 12, 13, 14, 15] → rwF s2 f (C r) = rwF s1 f (C r) := fun f hf => rw_keep l1 (by simp only [List.mem_cons, List.not_mem_nil, or_false] at hf; omega) (by simp) (by
      rw [ex]
      simp only [List.mem_singleton]
      have fa : f ∈ AFL ∧ cls f = 1 ∧ f ≠ 5 := by
        simp only [List.mem_cons, List.not_mem_nil, or_false] at hf
        rcases hf with rfl | rfl | rfl | rfl | rfl <;> exact ⟨by decide, rfl, by decide⟩
      exact fun e => fa.2.2 (i1.2 f 5 (C r) (C r) fa.1 (by decide) q.2.1 q.2.1 (by rw [fa.2.1]; exact ob50 c50) (ob50 c50) e).1)
    have e10 : s2.2.1 10 (C r) = s1.2.1 10 (C r) := l1.f (by decide) (by simp)
    unfold cdS cRS
    rw [w1, w2, l2.vw, f6, e10, k 11 (by decide), k 12 (by decide), k 13 (by decide), k 14 (by decide), k 15 (by decide)]
  refine Or.inr ⟨hr, by rw [cs.s, s12]; exact p1, (pf.trans gt pl).trans gt pq, i3, gt, ?_, ?_, ?_, ?_, ?_⟩
  · rw [cs.w, cs.1 6 (by decide) (by decide), w2, f6]
    rw [w1] at p2
    exact l2.wok p2
  · rw [cs.w, cs.1 6 (by decide) (by decide), w2, f6, hn]; exact l3
  · rw [cs.1 6 (by decide) (by decide), f6]; exact p3
  · have k3 : ∀ f, f ∈ AF6 → rwF s3 f (C r) = rwF s2 f (C r) := fun f hf => by
      have z := cs.2 f hf
      unfold rwF at *
      rw [show adN s3 f (C r) = adN s2 f (C r) by unfold adN; rw [cs.1 f (by simp only [List.mem_cons, List.not_mem_nil, or_false] at hf; omega) (by simp only [List.mem_cons, List.not_mem_nil, or_false] at hf; omega)]]
      exact z
    have k2 : ∀ f, f ∈ [11, 12, 13, 14, 15] → rwF s2 f (C r) = rwF s1 f (C r) := fun f hf => rw_keep l1 (by simp only [List.mem_cons, List.not_mem_nil, or_false] at hf; omega) (by simp) (by
      rw [ex]
      simp only [List.mem_singleton]
      have fa : f ∈ AFL ∧ cls f = 1 ∧ f ≠ 5 := by
        simp only [List.mem_cons, List.not_mem_nil, or_false] at hf
        rcases hf with rfl | rfl | rfl | rfl | rfl <;> exact ⟨by decide, rfl, by decide⟩
      exact fun e => fa.2.2 (i1.2 f 5 (C r) (C r) fa.1 (by decide) q.2.1 q.2.1 (by rw [fa.2.1]; exact ob50 c50) (ob50 c50) e).1)
    have e10 : s3.2.1 10 (C r) = s1.2.1 10 (C r) := (cs.1 10 (by decide) (by decide)).trans (l1.f (by decide) (by simp))
    have n1 : RN9 s1 (C r) NM := by
      rcases p5 with ⟨-, R, z⟩ | ⟨z1, z2, z3⟩
      · exact z.2.2.2.2.1
      · unfold RN9
        rw [z1, z2, z3]
        exact (hG r hr.2.1 hr.2.2).1.1.2.2.2.2.1
    unfold RN9 at *
    rw [e10, k3 11 (by decide), k3 14 (by decide), k2 11 (by decide), k2 14 (by decide)]
    exact n1
  · have e5 : s3.2.1 5 (C r) = s1.2.1 5 (C r) := (cs.1 5 (by decide) (by decide)).trans f5
    have a5 : adN s3 5 (C r) = adN s1 5 (C r) := by unfold adN; rw [e5]
    rw [a5, e5]
    exact p4
end PAS
end
section
set_option maxHeartbeats 1000000 in
set_option maxRecDepth 20000 in
theorem k_X11_tear_x (d : Nat) {T : CT} {σ : MS} {a : Nat} {k : Int} {r : Int} {c : Nat} {S : Nat → Prop} {C : Int → Nat} {NM PM : Int → Int} (ha : OB T a 11) (h_k : -2147483648 ≤ k ∧ k ≤ 2147483647) (h_r : -2147483648 ≤ r ∧ r ≤ 2147483647) (h_c : OB T c 1) (t_c : (T c).1 = 50) (hw : WT T σ) (hK : KOK S T σ a C NM PM) (hk5 : 0 ≤ k ∧ k ≤ 5) (hr : 0 ≤ r ∧ r < σ.2.1 97 a) (hcr : c = C r) : Tn (d + 8) m_X11_tear 0 T σ [(0, .ref a), (1, .int (iI k)), (2, .int (iI r)), (3, .ref c)] [] (fun ro T2 σ2 => ∃ v : Int, ro = some (.int (iI v)) ∧ WT T2 σ2 ∧ FrC T [5, 6, 10, 22, 25, 26, 27, 28, 29, 30, 31, 32, 80] σ σ2 ∧ (-2147483648 ≤ v ∧ v ≤ 2147483647) ∧ (PSO T σ σ2 c k r (fun q => cdS σ (C q)) PM NM v) ∧ (PFR S T σ σ2 c)) := by
  have tc9 := t_c
  obtain ⟨hI9, hS9, hCo9, hG9⟩ := hK
  have hR9 := hCo9.1
  have g9 := hG9 r hr.1 hr.2
  have sc9 := (hCo9.2.1 r hr.1 (by omega)).2.1
  rw [← hcr] at g9 sc9
  refine tn_iload_n dX11_tear_0 rfl 1 rfl ?_
  by_cases h1 : k < 0 ∨ 4 < k
  · refine tn_tableOut (tgt := 90) dX11_tear_1 (x := k) ⟨by omega, by omega⟩ h1 (by decide) ?_
    refine tn_aload_n dX11_tear_90 rfl 0 rfl ?_
    obtain ⟨x2, hx3, hk4⟩ : ∃ x : Nat, σ.2.1 109 a = (x : Int) ∧ (T x).1 = 38 := wf_109 hw ha
    have hk4o : OB T x2 8 := ⟨by omega, by rw [hk4]; rfl, by omega⟩
    refine tn_getR (ci := 11) (i := 14) (n := 109) (x := x2) dX11_tear_91 rfl lay_11 (by decide) fl11_73 ha rfl rfl (hx3) ?_
    refine tn_aload_n dX11_tear_94 rfl 3 rfl ?_
    refine tn_callV (M := m_X11_tear) (pc := 95) (ix := 310) (ci := 8) (M' := m_X8_share) (As := [.ref c]) (rest := []) dX11_tear_95 ok_X8_share im_X8_share se_X8_share ml11_310 np_X8_share rfl rfl hk4o rfl (Nat.le_of_ble_eq_true rfl) (Nat.le_of_ble_eq_true rfl) rfl (k_share_c (d + 2) (T := T) (σ := σ) (a := x2) (c := c) (S := S) (Gs := fun q => cdS σ (C q)) (PM := PM) (NM := NM) (r := r) hk4o h_c t_c hw (by rw [← adN_of hx3]; exact hS9.2.2.2.1) sc9 hI9 g9.1.1.1.2 g9.1.1.2.2.1.w (by rw [← adN_of hx3]; exact hS9.2.2.2.2.2.2.1) g9.1.1.1.1 g9.1.2.2.1 g9.1.2.2.2.1 g9.1.2.2.2.2.1 g9.1.1.2.2.2.1 g9.2.1 ⟨by rw [g9.1.2.2.2.2.2.2]; exact g9.1.2.2.2.2.2.1.1.2.2, g9.1.1.2.1.1⟩ (fun f x y => (g9.1.1.2.2.2.2.1 f x y).1.2) (fun f x y => (g9.1.1.2.2.2.2.1 f x y).2) g9.2.2.1) (fun r6 T8 σ7 gt9 hp => ?_)
    obtain ⟨v13, rfl, rfl, w14, F15, f10, f11, f12⟩ := hp
    clear gt9
    show Tn _ _ 98 T σ7 [(0, .ref a), (1, .int (iI k)), (2, .int (iI r)), (3, .ref c)] [.int (iI v13)] _
    exact tn_iret rfl dX11_tear_98 ⟨_, rfl, w14, (FrC.rfl.trans (FrC.sub F15 (by decide))), by omega, (by rw [show k = 5 by omega]; exact f12), (pfr_share hI9 hw hk4o t_c (by rw [← adN_of hx3]; exact hS9.2.2.2.1) sc9 (by rw [← adN_of hx3]; exact hS9.2.2.2.2.2.2.1) f11)⟩
  · have h16 : k = 0 ∨ k = 1 ∨ k = 2 ∨ k = 3 ∨ k = 4 := by omega
    rcases h16 with h16 | h16 | h16 | h16 | h16
    · refine tn_tableIn (tgt := 36) (off := 35) dX11_tear_1 (x := k) ⟨by omega, by omega⟩ (by omega) (by omega) (by rw [h16]; rfl) (by decide) ?_
      refine tn_aload_n dX11_tear_36 rfl 0 rfl ?_
      obtain ⟨x17, hx18, hk19⟩ : ∃ x : Nat, σ.2.1 106 a = (x : Int) ∧ (T x).1 = 36 := wf_106 hw ha
      have hk19o : OB T x17 6 := ⟨by omega, by rw [hk19]; rfl, by omega⟩
      refine tn_getR (ci := 11) (i := 11) (n := 106) (x := x17) dX11_tear_37 rfl lay_11 (by decide) fl11_50 ha rfl rfl (hx18) ?_
      refine tn_aload_n dX11_tear_40 rfl 3 rfl ?_
      refine tn_callV (M := m_X11_tear) (pc := 41) (ix := 293) (ci := 6) (M' := m_X6_fold) (As := [.ref c]) (rest := []) dX11_tear_41 ok_X6_fold im_X6_fold se_X6_fold ml11_293 np_X6_fold rfl rfl hk19o rfl (Nat.le_of_ble_eq_true rfl) (Nat.le_of_ble_eq_true rfl) rfl (k_fold_c (d + 3) (T := T) (σ := σ) (a := x17) (c := c) (S := S) (Gs := fun q => cdS σ (C q)) (PM := PM) (NM := NM) (r := r) hk19o h_c t_c hw (by rw [← adN_of hx18]; exact hS9.1) sc9 hI9 g9.1.1.1.2 g9.1.1.2.2.1.w) (fun r21 T23 σ22 gt24 hp => ?_)
      obtain ⟨v28, rfl, rfl, w29, F30, f25, f26, f27⟩ := hp
      clear gt24
      show Tn _ _ 44 T σ22 [(0, .ref a), (1, .int (iI k)), (2, .int (iI r)), (3, .ref c)] [.int (iI v28)] _
      exact tn_iret rfl dX11_tear_44 ⟨_, rfl, w29, (FrC.rfl.trans (FrC.sub F30 (by decide))), by omega, (by rw [show k = 0 by omega]; exact f27), (pfr_fold hI9 hw hk19o t_c (by rw [← adN_of hx18]; exact hS9.1) sc9 f26)⟩
    · refine tn_tableIn (tgt := 45) (off := 44) dX11_tear_1 (x := k) ⟨by omega, by omega⟩ (by omega) (by omega) (by rw [h16]; rfl) (by decide) ?_
      refine tn_aload_n dX11_tear_45 rfl 0 rfl ?_
      obtain ⟨x31, hx32, hk33⟩ : ∃ x : Nat, σ.2.1 107 a = (x : Int) ∧ (T x).1 = 32 := wf_107 hw ha
      have hk33o : OB T x31 2 := ⟨by omega, by rw [hk33]; rfl, by omega⟩
      refine tn_getR (ci := 11) (i := 12) (n := 107) (x := x31) dX11_tear_46 rfl lay_11 (by decide) fl11_59 ha rfl rfl (hx32) ?_
      refine tn_aload_n dX11_tear_49 rfl 3 rfl ?_
      refine tn_callV (M := m_X11_tear) (pc := 50) (ix := 297) (ci := 2) (M' := m_X2_drop) (As := [.ref c]) (rest := []) dX11_tear_50 ok_X2_drop im_X2_drop se_X2_drop ml11_297 np_X2_drop rfl rfl hk33o rfl (Nat.le_of_ble_eq_true rfl) (Nat.le_of_ble_eq_true rfl) rfl (k_drop_c (d + 1) (T := T) (σ := σ) (a := x31) (c := c) (S := S) (Gs := fun q => cdS σ (C q)) (PM := PM) (NM := NM) (r := r) hk33o h_c t_c hw (by rw [← adN_of hx32]; exact hS9.2.1) sc9 hI9 g9.1.1.1.2 g9.1.1.2.2.1.w (by rw [← adN_of hx32]; exact hS9.2.2.2.2.1) g9.1.2.2.1 g9.1.2.2.2.1 g9.1.2.2.2.2.1) (fun r35 T37 σ36 gt38 hp => ?_)
      obtain ⟨v42, rfl, rfl, w43, F44, f39, f40, f41⟩ := hp
      clear gt38
      show Tn _ _ 53 T σ36 [(0, .ref a), (1, .int (iI k)), (2, .int (iI r)), (3, .ref c)] [.int (iI v42)] _
      exact tn_iret rfl dX11_tear_53 ⟨_, rfl, w43, (FrC.rfl.trans (FrC.sub F44 (by decide))), by omega, (by rw [show k = 1 by omega]; exact f41), (pfr_drop hI9 hw hk33o t_c (by rw [← adN_of hx32]; exact hS9.2.1) sc9 (by rw [← adN_of hx32]; exact hS9.2.2.2.2.1) f40)⟩
    · refine tn_tableIn (tgt := 54) (off := 53) dX11_tear_1 (x := k) ⟨by omega, by omega⟩ (by omega) (by omega) (by rw [h16]; rfl) (by decide) ?_
      refine tn_aload_n dX11_tear_54 rfl 0 rfl ?_
      obtain ⟨x45, hx46, hk47⟩ : ∃ x : Nat, σ.2.1 106 a = (x : Int) ∧ (T x).1 = 36 := wf_106 hw ha
      have hk47o : OB T x45 6 := ⟨by omega, by rw [hk47]; rfl, by omega⟩
      refine tn_getR (ci := 11) (i := 11) (n := 106) (x := x45) dX11_tear_55 rfl lay_11 (by decide) fl11_50 ha rfl rfl (hx46) ?_
      refine tn_aload_n dX11_tear_58 rfl 3 rfl ?_
      refine tn_callV (M := m_X11_tear) (pc := 59) (ix := 300) (ci := 6) (M' := m_X6_move) (As := [.ref c]) (rest := []) dX11_tear_59 ok_X6_move im_X6_move se_X6_move ml11_300 np_X6_move rfl rfl hk47o rfl (Nat.le_of_ble_eq_true rfl) (Nat.le_of_ble_eq_true rfl) rfl (k_move_c (d) (T := T) (σ := σ) (a := x45) (c := c) (S := S) (Gs := fun q => cdS σ (C q)) (PM := PM) (NM := NM) (r := r) hk47o h_c t_c hw (by rw [← adN_of hx46]; exact hS9.1) sc9 hI9 g9.1.1.1.2 g9.1.1.2.2.1.w g9.1.1.1.1 (fun f x y => (g9.1.1.2.2.2.2.1 f x y).2)) (fun r49 T51 σ50 gt52 hp => ?_)
      obtain ⟨v56, rfl, rfl, w57, F58, f53, f54, f55⟩ := hp
      clear gt52
      show Tn _ _ 62 T σ50 [(0, .ref a), (1, .int (iI k)), (2, .int (iI r)), (3, .ref c)] [.int (iI v56)] _
      exact tn_iret rfl dX11_tear_62 ⟨_, rfl, w57, (FrC.rfl.trans (FrC.sub F58 (by decide))), by omega, (by rw [show k = 2 by omega]; exact f55), (pfr_move hI9 hw hk47o t_c (by rw [← adN_of hx46]; exact hS9.1) sc9 f54)⟩
    · refine tn_tableIn (tgt := 63) (off := 62) dX11_tear_1 (x := k) ⟨by omega, by omega⟩ (by omega) (by omega) (by rw [h16]; rfl) (by decide) ?_
      refine tn_aload_n dX11_tear_63 rfl 0 rfl ?_
      obtain ⟨x59, hx60, hk61⟩ : ∃ x : Nat, σ.2.1 106 a = (x : Int) ∧ (T x).1 = 36 := wf_106 hw ha
      have hk61o : OB T x59 6 := ⟨by omega, by rw [hk61]; rfl, by omega⟩
      refine tn_getR (ci := 11) (i := 11) (n := 106) (x := x59) dX11_tear_64 rfl lay_11 (by decide) fl11_50 ha rfl rfl (hx60) ?_
      refine tn_aload_n dX11_tear_67 rfl 3 rfl ?_
      refine tn_callV (M := m_X11_tear) (pc := 68) (ix := 303) (ci := 6) (M' := m_X6_alike) (As := [.ref c]) (rest := []) dX11_tear_68 ok_X6_alike im_X6_alike se_X6_alike ml11_303 np_X6_alike rfl rfl hk61o rfl (Nat.le_of_ble_eq_true rfl) (Nat.le_of_ble_eq_true rfl) rfl (k_alike_c (d + 2) (T := T) (σ := σ) (a := x59) (c := c) (S := S) (Gs := fun q => cdS σ (C q)) (PM := PM) (NM := NM) (r := r) hk61o h_c t_c hw (by rw [← adN_of hx60]; exact hS9.1) sc9 hI9 g9.1.1.1.2 g9.1.1.2.2.1.w g9.1.1.1.1) (fun r63 T65 σ64 gt66 hp => ?_)
      obtain ⟨v70, rfl, rfl, w71, F72, f67, f68, f69⟩ := hp
      clear gt66
      show Tn _ _ 71 T σ64 [(0, .ref a), (1, .int (iI k)), (2, .int (iI r)), (3, .ref c)] [.int (iI v70)] _
      exact tn_iret rfl dX11_tear_71 ⟨_, rfl, w71, (FrC.rfl.trans (FrC.sub F72 (by decide))), by omega, (by rw [show k = 3 by omega]; exact f69), (pfr_alike hI9 hw hk61o t_c (by rw [← adN_of hx60]; exact hS9.1) sc9 f68)⟩
    · refine tn_tableIn (tgt := 72) (off := 71) dX11_tear_1 (x := k) ⟨by omega, by omega⟩ (by omega) (by omega) (by rw [h16]; rfl) (by decide) ?_
      refine tn_aload_n dX11_tear_72 rfl 0 rfl ?_
      obtain ⟨x73, hx74, hk75⟩ : ∃ x : Nat, σ.2.1 108 a = (x : Int) ∧ (T x).1 = 34 := wf_108 hw ha
      have hk75o : OB T x73 4 := ⟨by omega, by rw [hk75]; rfl, by omega⟩
      refine tn_getR (ci := 11) (i := 13) (n := 108) (x := x73) dX11_tear_73 rfl lay_11 (by decide) fl11_66 ha rfl rfl (hx74) ?_
      refine tn_aload_n dX11_tear_76 rfl 0 rfl ?_
      obtain ⟨x77, hx78, hk79, hl80⟩ : ∃ x : Nat, σ.2.1 99 a = (x : Int) ∧ AR T x 5 6 6 := wf_99 hw ha
      have hk79i : (T x77).1 = 4 ∨ (T x77).1 = 5 := by omega
      refine tn_getR (ci := 11) (i := 4) (n := 99) (x := x77) dX11_tear_77 rfl lay_11 (by decide) fl11_19 ha rfl rfl (hx78) ?_
      refine tn_aload_n dX11_tear_80 rfl 0 rfl ?_
      refine tn_getI (ci := 11) (i := 2) (n := 97) (t := σ.2.1 97 a) dX11_tear_81 rfl lay_11 (by decide) fl11_116 ha rfl rfl (rfl) ?_
      have g81 : ((0 : Int) ≤ σ.2.1 97 a ∧ σ.2.1 97 a ≤ 6) := wf_97 hw ha
      refine tn_iload_n dX11_tear_84 rfl 2 rfl ?_
      refine tn_aload_n dX11_tear_85 rfl 3 rfl ?_
      refine tn_callV (M := m_X11_tear) (pc := 86) (ix := 306) (ci := 4) (M' := m_X4_melt) (As := [.ref x77, .int (iI (σ.2.1 97 a)), .int (iI r), .ref c]) (rest := []) dX11_tear_86 ok_X4_melt im_X4_melt se_X4_melt ml11_306 np_X4_melt rfl rfl hk75o rfl (Nat.le_of_ble_eq_true rfl) (Nat.le_of_ble_eq_true rfl) rfl (k_X4_melt_x (d + 1) (T := T) (σ := σ) (a := x73) (cs := x77) (n := σ.2.1 97 a) (r := r) (c := c) (C := C) (NM := NM) (PM := PM) hk75o hk79i (by omega) hk79 (by omega) (by omega) h_c t_c hw (mlg_of hI9 hk75o (by rw [← adN_of hx74]; exact hS9.2.2.1) (by rw [← adN_of hx74]; exact hS9.2.2.2.2.2.1) hw ⟨by omega, by omega, by omega⟩ hcr.symm (fun q x y => (hCo9.2.1 q x (by omega)).2) (fun p q x y z w => hCo9.2.2 p q x (by omega) z (by omega)) (fun q x y => (hG9 q x y).1) (fun q x y => (hG9 q x y).2.2)) g9.1.1 (fun q x y => by rw [← adN_of hx78]; exact (hCo9.2.1 q x (by omega)).1) (by omega)) (fun r82 T84 σ83 gt85 hp => ?_)
      obtain ⟨v88, rfl, w89, F90, f86, f87⟩ := hp
      replace ha : OB T84 a 11 := gt85.ob ha
      replace t_c : (T84 c).1 = 50 := gt85.kk t_c (by decide) (by decide)
      replace h_c : OB T84 c 1 := gt85.ob h_c
      show Tn _ _ 89 T84 σ83 [(0, .ref a), (1, .int (iI k)), (2, .int (iI r)), (3, .ref c)] [.int (iI v88)] _
      exact tn_iret rfl dX11_tear_89 ⟨_, rfl, w89, (FrC.rfl.trans (FrC.sub F90 (by decide))), by omega, (by rw [show k = 4 by omega]; exact mle_pso f87), (mle_pfr hI9 hw hk75o (by rw [← adN_of hx74]; exact hS9.2.2.1) sc9 tc9 f87)⟩
end
section
set_option maxHeartbeats 1000000 in
set_option maxRecDepth 20000 in
theorem k_X11_codeOf_x (d : Nat) {T : CT} {σ : MS} {a : Nat} {r : Int} (ha : OB T a 11) (h_r : -2147483648 ≤ r ∧ r ≤ 2147483647) (hw : WT T σ) : Tn (d + 1) m_X11_codeOf 0 T σ [(0, .ref a), (1, .int (iI r))] [] (fun ro T2 σ2 => ∃ v : Int, ro = some (vl true v) ∧ T = T2 ∧ σ = σ2 ∧ (v < 0 ∨ ∃ x : Nat, v = (x : Int) ∧ (T2 x).1 = 50) ∧ (CDF σ a r v)) := by
  refine tn_iload_n dX11_codeOf_0 rfl 1 rfl ?_
  refine tn_if_lt (tgt := 30) dX11_codeOf_1 (by decide) ⟨by omega, by omega⟩ (fun h1 => ?_) (fun h1 => ?_)
  · refine tn_null dX11_codeOf_30 ?_
    exact tn_aret rfl (Or.inl ⟨_, rfl⟩) (Or.inl rfl) dX11_codeOf_31 ⟨-1, congrArg some (vl_null (by decide)).symm, rfl, rfl, Or.inl (by decide), (Or.inr ⟨by omega, rfl⟩)⟩
  · refine tn_iload_n dX11_codeOf_4 rfl 1 rfl ?_
    refine tn_aload_n dX11_codeOf_5 rfl 0 rfl ?_
    refine tn_getI (ci := 11) (i := 2) (n := 97) (t := σ.2.1 97 a) dX11_codeOf_6 rfl lay_11 (by decide) fl11_116 ha rfl rfl (rfl) ?_
    have g2 : ((0 : Int) ≤ σ.2.1 97 a ∧ σ.2.1 97 a ≤ 6) := wf_97 hw ha
    refine tn_icmp_ge (tgt := 30) dX11_codeOf_9 (by decide) ⟨by omega, by omega⟩ ⟨by omega, by omega⟩ (fun h3 => ?_) (fun h3 => ?_)
    · refine tn_null dX11_codeOf_30 ?_
      exact tn_aret rfl (Or.inl ⟨_, rfl⟩) (Or.inl rfl) dX11_codeOf_31 ⟨-1, congrArg some (vl_null (by decide)).symm, rfl, rfl, Or.inl (by decide), (Or.inr ⟨by omega, rfl⟩)⟩
    · refine tn_iload_n dX11_codeOf_12 rfl 1 rfl ?_
      refine tn_aload_n dX11_codeOf_13 rfl 0 rfl ?_
      obtain ⟨x4, hx5, hk6, hl7⟩ : ∃ x : Nat, σ.2.1 99 a = (x : Int) ∧ AR T x 5 6 6 := wf_99 hw ha
      have hk6i : (T x4).1 = 4 ∨ (T x4).1 = 5 := by omega
      refine tn_getR (ci := 11) (i := 4) (n := 99) (x := x4) dX11_codeOf_14 rfl lay_11 (by decide) fl11_19 ha rfl rfl (hx5) ?_
      refine tn_alenX dX11_codeOf_17 (by have q9 := hk6i; omega) ?_
      refine tn_icmp_ge (tgt := 30) dX11_codeOf_18 (by decide) ⟨by omega, by omega⟩ ⟨by omega, by omega⟩ (fun h8 => absurd h8 (by omega)) (fun h8 => ?_)
      refine tn_aload_n dX11_codeOf_21 rfl 0 rfl ?_
      refine tn_getR (ci := 11) (i := 4) (n := 99) (x := x4) dX11_codeOf_22 rfl lay_11 (by decide) fl11_19 ha rfl rfl (hx5) ?_
      refine tn_iload_n dX11_codeOf_25 rfl 1 rfl ?_
      obtain ⟨x9, hx10, hk11⟩ := (hw).2.2.2.1.2 x4 hk6 (r) (by omega) (by omega)
      refine tn_aald (z := r) (x := x9) dX11_codeOf_26 hk6i (by omega) (by omega) (by omega) hx10 ?_
      have hk11o : OB T x9 1 := ⟨by omega, by rw [hk11]; rfl, by omega⟩
      refine tn_goto (tgt := 31) dX11_codeOf_27 (by decide) ?_
      exact tn_aret rfl (Or.inl ⟨_, rfl⟩) (Or.inr ⟨_, rfl⟩) dX11_codeOf_31 ⟨(x9 : Int), congrArg some (vl_ref rfl).symm, rfl, rfl, Or.inr ⟨_, rfl, hk11⟩, (Or.inl ⟨⟨by omega, by omega⟩, by rw [adN_of hx5]; exact hx10.symm⟩)⟩
end
section
set_option maxHeartbeats 1000000 in
set_option maxRecDepth 20000 in
theorem k_X10_spoil_x (d : Nat) {T : CT} {σ : MS} {a : Nat} {p1 : Int} {xf : Nat} (ha : OB T a 10) (h_p1 : -2147483648 ≤ p1 ∧ p1 ≤ 2147483647) (hw : WT T σ) (hxf : σ.2.1 89 a = (xf : Int)) : Tn (d + 2) m_X10_spoil 0 T σ [(0, .ref a), (1, .int (iI p1))] [] (fun ro T2 σ2 => ro = none ∧ T = T2 ∧ WT T2 σ2 ∧ FrC T [] σ σ2 ∧ (CHX [] [xf] [] σ σ2)) := by
  refine tn_aload_n dX10_spoil_0 rfl 0 rfl ?_
  obtain ⟨hk3, hl4⟩ : AR T xf 1 6 6 := ar_of (wf_89 hw ha) hxf
  have hk3i : IA T xf := by unfold IA; omega
  refine tn_getR (ci := 10) (i := 1) (n := 89) (x := xf) dX10_spoil_1 rfl lay_10 (by decide) fl10_17 ha rfl rfl (hxf) ?_
  refine tn_iload_n dX10_spoil_4 rfl 1 rfl ?_
  refine tn_iconst dX10_spoil_5 ?_
  refine tn_callSN (M := m_X10_spoil) (pc := 6) (ix := 26) (M' := m_X11_put) (As := [.ref xf, .int (iI p1), .int (iI 0)]) (rest := []) dX10_spoil_6 ok_X11_put stt_X11_put nl10_26 np_X11_put rfl (Nat.le_of_ble_eq_true rfl) (Nat.le_of_ble_eq_true rfl) rfl (k_X11_put_x (d) (T := T) (σ := σ) (x := xf) (i := p1) (y := 0) hk3i (by omega) (by omega) (by decide) hw (nh_k hk3 (by unfold HT; omega)) vok_0) (fun r5 T7 σ6 gt8 hp => ?_)
  obtain ⟨rfl, rfl, w12, F13, f9, f10⟩ := hp
  clear gt8
  show Tn _ _ 9 T σ6 [(0, .ref a), (1, .int (iI p1))] [] _
  exact tn_vret rfl dX10_spoil_9 ⟨rfl, rfl, w12, (FrC.rfl.trans (FrC.sub F13 (by decide))), (CHX.rfl.trans (CHX.sub f9 (by simp) (by simp) (by simp)))⟩
end
section
set_option maxHeartbeats 1000000 in
set_option maxRecDepth 20000 in
theorem k_X7_forget_x (d : Nat) {T : CT} {σ : MS} {a : Nat} (ha : OB T a 7) (hw : WT T σ) : Tn (d + 1) m_X7_forget 0 T σ [(0, .ref a)] [] (fun ro T2 σ2 => ro = none ∧ T = T2 ∧ WT T2 σ2 ∧ FrC T [56] σ σ2 ∧ (CHX [(56, a)] [] [] σ σ2) ∧ (σ2.2.1 56 a = 0)) := by
  refine tn_aload_n dX7_forget_0 rfl 0 rfl ?_
  refine tn_iconst dX7_forget_1 ?_
  refine tn_putV (ci := 7) (i := 1) (n := 56) (r := false) (v := 0) tyX7 tyX7_ok nmX7 dX7_forget_2 rfl lay_7 (by decide) fl7_34 rfl (tyX7_ok 1 (by decide)) rfl rfl rfl ha rfl rfl ?_
  exact tn_vret rfl dX7_forget_5 ⟨rfl, rfl, (hw.put (by decide) (by decide) (fo_56 (by omega))), (FrC.rfl.put (by decide) (by decide)), (CHX.rfl.fld (by simp) (by decide)), ra_eq⟩
end
section
set_option maxHeartbeats 1000000 in
set_option maxRecDepth 20000 in
theorem k_X11_pass_x (d : Nat) {T : CT} {σ : MS} {a : Nat} {k : Int} {r : Int} {S : Nat → Prop} {C : Int → Nat} {NM PM : Int → Int} (ha : OB T a 11) (h_k : -2147483648 ≤ k ∧ k ≤ 2147483647) (h_r : -2147483648 ≤ r ∧ r ≤ 2147483647) (hw : WT T σ) (hK : KOK S T σ a C NM PM) : Tn (d + 9) m_X11_pass 0 T σ [(0, .ref a), (1, .int (iI k)), (2, .int (iI r))] [] (fun ro T2 σ2 => ∃ v : Int, ro = some (.int (iI v)) ∧ WT T2 σ2 ∧ FrC T [5, 6, 10, 22, 25, 26, 27, 28, 29, 30, 31, 32, 56, 80] σ σ2 ∧ (-2147483648 ≤ v ∧ v ≤ 2147483647) ∧ (PAC S T σ T2 σ2 a C NM PM k r v) ∧ (RP7 σ σ2 a k r)) := by
  refine tn_aload_n dX11_pass_0 rfl 0 rfl ?_
  refine tn_iload_n dX11_pass_1 rfl 2 rfl ?_
  refine tn_callV (M := m_X11_pass) (pc := 2) (ix := 123) (ci := 11) (M' := m_X11_codeOf) (As := [.int (iI r)]) (rest := []) dX11_pass_2 ok_X11_codeOf im_X11_codeOf se_X11_codeOf ml11_123 np_X11_codeOf rfl rfl ha rfl (Nat.le_of_ble_eq_true rfl) (Nat.le_of_ble_eq_true rfl) rfl (k_X11_codeOf_x (d + 7) (T := T) (σ := σ) (a := a) (r := r) ha (by omega) hw ) (fun r1 T3 σ2 gt4 hp => ?_)
  obtain ⟨v6, rfl, rfl, rfl, rv7, f5⟩ := hp
  clear gt4
  rcases rv7 with rv7 | ⟨x8, rfl, hk9⟩
  · show Tn _ _ 5 T σ [(0, .ref a), (1, .int (iI k)), (2, .int (iI r))] (vl true v6 :: []) _
    rw [vl_null rv7]
    refine tn_astore_nN (L' := [(3, .null), (0, .ref a), (1, .int (iI k)), (2, .int (iI r))]) dX11_pass_5 rfl (by decide) rfl ?_
    refine tn_aload_nN dX11_pass_6 rfl 0 rfl ?_
    refine tn_ifnullN (tgt := 19) dX11_pass_7 (by decide) ?_
    refine tn_iconst dX11_pass_19 ?_
    exact tn_iret rfl dX11_pass_20 ⟨_, rfl, hw, FrC.rfl, by omega, (Or.inl ⟨by intro hh; have q := (hK.2.2.1.2.1 r hh.2.1 (by have := hK.2.2.1.1; omega)).1; have z := f5; unfold CDF at z; omega, rfl, rfl, rfl⟩), (Or.inl ⟨by intro hh; have q := (hK.2.2.1.2.1 r hh.2.1 (by have := hK.2.2.1.1; omega)).1; have z := f5; unfold CDF at z; omega, rfl⟩)⟩
  · show Tn _ _ 5 T σ [(0, .ref a), (1, .int (iI k)), (2, .int (iI r))] (vl true (x8 : Int) :: []) _
    rw [vl_ref rfl]
    have hk9o : OB T x8 1 := ⟨by omega, by rw [hk9]; rfl, by omega⟩
    refine tn_astore_n (L' := [(3, .ref x8), (0, .ref a), (1, .int (iI k)), (2, .int (iI r))]) dX11_pass_5 rfl (by decide) rfl ?_
    refine tn_aload_n dX11_pass_6 rfl 0 rfl ?_
    refine tn_ifnull dX11_pass_7 ?_
    refine tn_iload_n dX11_pass_10 rfl 2 rfl ?_
    refine tn_if_lt (tgt := 19) dX11_pass_11 (by decide) ⟨by omega, by omega⟩ (fun h10 => ?_) (fun h10 => ?_)
    · refine tn_iconst dX11_pass_19 ?_
      exact tn_iret rfl dX11_pass_20 ⟨_, rfl, hw, FrC.rfl, by omega, (Or.inl ⟨by intro hh; have q := (hK.2.2.1.2.1 r hh.2.1 (by have := hK.2.2.1.1; omega)).1; have z := f5; unfold CDF at z; omega, rfl, rfl, rfl⟩), (Or.inl ⟨by intro hh; have q := (hK.2.2.1.2.1 r hh.2.1 (by have := hK.2.2.1.1; omega)).1; have z := f5; unfold CDF at z; omega, rfl⟩)⟩
    · refine tn_iload_n dX11_pass_14 rfl 2 rfl ?_
      refine tn_iconst dX11_pass_15 ?_
      refine tn_icmp_le (tgt := 21) dX11_pass_16 (by decide) ⟨by omega, by omega⟩ ⟨by decide, by decide⟩ (fun h11 => ?_) (fun h11 => ?_)
      · have e9 : σ.2.1 102 a = (adN σ 102 a : Int) := (ad_ex (Q := fun x => (T x).1 = 40) (wf_102 hw ha)).1
        have cd9 := f5
        unfold CDF at cd9
        have hR9 := hK.2.2.1.1
        have rr9 : 0 ≤ r ∧ r < σ.2.1 97 a := by omega
        have hcr9 : x8 = C r := by have z := (hK.2.2.1.2.1 r rr9.1 (by omega)).1; omega
        refine tn_aload_n dX11_pass_21 rfl 1 rfl ?_
        refine tn_iload_n dX11_pass_22 rfl 2 rfl ?_
        refine tn_iload_n dX11_pass_23 rfl 3 rfl ?_
        refine tn_aload_n dX11_pass_24 rfl 0 rfl ?_
        refine tn_callV (M := m_X11_pass) (pc := 25) (ix := 194) (ci := 11) (M' := m_X11_tear) (As := [.int (iI k), .int (iI r), .ref x8]) (rest := []) dX11_pass_25 ok_X11_tear im_X11_tear se_X11_tear ml11_194 np_X11_tear rfl rfl ha rfl (Nat.le_of_ble_eq_true rfl) (Nat.le_of_ble_eq_true rfl) rfl (k_X11_tear_x (d) (T := T) (σ := σ) (a := a) (k := k) (r := r) (c := x8) (S := S) (C := C) (NM := NM) (PM := PM) ha (by omega) (by omega) hk9o hk9 hw hK (by omega) (by omega) hcr9) (fun r12 T14 σ13 gt15 hp => ?_)
        obtain ⟨v19, rfl, w20, F21, f16, f17, f18⟩ := hp
        replace ha : OB T14 a 11 := gt15.ob ha
        replace hk9o : OB T14 x8 1 := gt15.ob hk9o
        replace hk9 : (T14 x8).1 = 50 := gt15.kk hk9 (by decide) (by decide)
        show Tn _ _ 28 T14 σ13 [(3, .ref x8), (0, .ref a), (1, .int (iI k)), (2, .int (iI r))] [.int (iI v19)] _
        refine tn_istore (L' := [(4, .int (iI v19)), (3, .ref x8), (0, .ref a), (1, .int (iI k)), (2, .int (iI r))]) dX11_pass_28 (by decide) rfl ?_
        refine tn_aload_n dX11_pass_30 rfl 1 rfl ?_
        obtain ⟨x22, hx23, hl25, hk24a, hk24b⟩ := wf_5 w20 hk9o
        have hk24 : (T14 x22).1 = 1 := hk24a (by omega)
        clear hk24a hk24b
        have hk24i : IA T14 x22 := by unfold IA; omega
        refine tn_callV (M := m_X11_pass) (pc := 31) (ix := 198) (ci := 1) (M' := m_X1_link) (As := []) (rest := []) dX11_pass_31 ok_X1_link im_X1_link se_X1_link ml11_198 np_X1_link rfl rfl hk9o rfl (Nat.le_of_ble_eq_true rfl) (Nat.le_of_ble_eq_true rfl) rfl (k_X1_link_x (d + 5) (T := T14) (σ := σ13) (a := x8) (x := x22) (n := σ13.2.1 6 x8) (W := cW σ13 x22 (σ13.2.1 6 x8)) hk9o w20 (hx23) (rfl) rfl (by have z := f17.2.2.1; omega)) (fun r26 T28 σ27 gt29 hp => ?_)
        obtain ⟨rfl, rfl, w34, F35, f30, f31, f32⟩ := hp
        clear gt29
        show Tn _ _ 34 T14 σ27 [(4, .int (iI v19)), (3, .ref x8), (0, .ref a), (1, .int (iI k)), (2, .int (iI r))] [] _
        refine tn_aload_n dX11_pass_34 rfl 2 rfl ?_
        obtain ⟨x36, hx37, hk38⟩ : ∃ x : Nat, σ13.2.1 102 a = (x : Int) ∧ (T14 x).1 = 40 := wf_102 w20 ha
        have hk38o : OB T14 x36 10 := ⟨by omega, by rw [hk38]; rfl, by omega⟩
        refine tn_getR (ci := 11) (i := 7) (n := 102) (x := x36) dX11_pass_35 rfl lay_11 (by decide) fl11_39 ha rfl rfl (rc_F F35 (Or.inl (by decide)) (by decide) (hx37)) ?_
        refine tn_iload_n dX11_pass_38 rfl 4 rfl ?_
        obtain ⟨x40, hx41, hk42, hl43⟩ : ∃ x : Nat, σ13.2.1 89 x36 = (x : Int) ∧ AR T14 x 1 6 6 := wf_89 w20 hk38o
        have hk42i : IA T14 x40 := by unfold IA; omega
        refine tn_callV (M := m_X11_pass) (pc := 39) (ix := 201) (ci := 10) (M' := m_X10_spoil) (As := [.int (iI r)]) (rest := []) dX11_pass_39 ok_X10_spoil im_X10_spoil se_X10_spoil ml11_201 np_X10_spoil rfl rfl hk38o rfl (Nat.le_of_ble_eq_true rfl) (Nat.le_of_ble_eq_true rfl) rfl (k_X10_spoil_x (d + 6) (T := T14) (σ := σ27) (a := x36) (p1 := r) (xf := x40) hk38o (by omega) w34 (rc_F F35 (Or.inl (by decide)) (by decide) (hx41))) (fun r44 T46 σ45 gt47 hp => ?_)
        obtain ⟨rfl, rfl, w50, F51, f48⟩ := hp
        clear gt47
        show Tn _ _ 42 T14 σ45 [(4, .int (iI v19)), (3, .ref x8), (0, .ref a), (1, .int (iI k)), (2, .int (iI r))] [] _
        refine tn_aload_n dX11_pass_42 rfl 2 rfl ?_
        obtain ⟨x52, hx53, hk54⟩ : ∃ x : Nat, σ13.2.1 103 a = (x : Int) ∧ (T14 x).1 = 37 := wf_103 w20 ha
        have hk54o : OB T14 x52 7 := ⟨by omega, by rw [hk54]; rfl, by omega⟩
        refine tn_getR (ci := 11) (i := 8) (n := 103) (x := x52) dX11_pass_43 rfl lay_11 (by decide) fl11_83 ha rfl rfl (rc_F F51 (Or.inl (by decide)) (by decide) (rc_F F35 (Or.inl (by decide)) (by decide) (hx53))) ?_
        refine tn_callV (M := m_X11_pass) (pc := 46) (ix := 120) (ci := 7) (M' := m_X7_forget) (As := []) (rest := []) dX11_pass_46 ok_X7_forget im_X7_forget se_X7_forget ml11_120 np_X7_forget rfl rfl hk54o rfl (Nat.le_of_ble_eq_true rfl) (Nat.le_of_ble_eq_true rfl) rfl (k_X7_forget_x (d + 7) (T := T14) (σ := σ45) (a := x52) hk54o w50 ) (fun r56 T58 σ57 gt59 hp => ?_)
        obtain ⟨rfl, rfl, w63, F64, f60, f61⟩ := hp
        clear gt59
        show Tn _ _ 49 T14 σ57 [(4, .int (iI v19)), (3, .ref x8), (0, .ref a), (1, .int (iI k)), (2, .int (iI r))] [] _
        refine tn_iload dX11_pass_49 0 rfl ?_
        exact tn_iret rfl dX11_pass_51 ⟨_, rfl, w63, ((((FrC.rfl.trans (FrC.sub F21 (by decide))).trans (FrC.sub (FrC.old F35 gt15) (by decide))).trans (FrC.sub (FrC.old F51 gt15) (by decide))).trans (FrC.sub (FrC.old F64 gt15) (by decide))), by omega, (by have z := PAC.mk (ks := [(56, x52)]) (xs := [x40]) (ls := []) hK hw w20 w34 gt15 ⟨⟨by omega, by omega⟩, by omega, by omega⟩ hcr9 f17 f18 (hx23) rfl f30 f31 f32 (CHX.trans (CHX.sub f48 (by simp) (by simp) (by simp)) (CHX.sub f60 (by simp) (by simp) (by simp))) (fun p hp => by rw [List.mem_singleton.mp hp]) (fun y hy => by rw [List.mem_singleton.mp hy]; exact ⟨x36, (by rw [← adN_of hx37, adN_of (rc_F F21 (Or.inl (by decide)) (by decide) e9)]; exact hK.2.1.2.2.2.2.2.2.2), hk38o, (adN_of ((rc_F F35 (Or.inl (by decide)) (by decide) (hx41)))).symm⟩); exact z), (Or.inr ⟨⟨⟨by omega, by omega⟩, by omega, by omega⟩, x52, (rc_F F64 (Or.inl (by decide)) (by decide) (rc_F F51 (Or.inl (by decide)) (by decide) (rc_F F35 (Or.inl (by decide)) (by decide) (hx53)))), f61⟩)⟩
      · refine tn_iconst dX11_pass_19 ?_
        exact tn_iret rfl dX11_pass_20 ⟨_, rfl, hw, FrC.rfl, by omega, (Or.inl ⟨by intro hh; have q := (hK.2.2.1.2.1 r hh.2.1 (by have := hK.2.2.1.1; omega)).1; have z := f5; unfold CDF at z; omega, rfl, rfl, rfl⟩), (Or.inl ⟨by intro hh; have q := (hK.2.2.1.2.1 r hh.2.1 (by have := hK.2.2.1.1; omega)).1; have z := f5; unfold CDF at z; omega, rfl⟩)⟩
end
section
def rwI (k p q : Int) : It := fun c => if c = 0 then k else if c = 1 then p else if c = 2 then q else 0
def APQ (T : CT) (σ2 : MS) (a x : Nat) (n : Int) (W : Int → It) (k p q : Int) : Prop := ∃ x2 : Nat, σ2.2.1 5 a = (x2 : Int) ∧ (x2 = x ∨ (T x2).1 = 0) ∧ (n < 200 → cW σ2 x2 (n + 1) = uZ W n (rwI k p q))
theorem cw_fil {σ τ : MS} {x x2 : Nat} {n f t : Int} {R1 : Int → Int} (h1 : ∀ z, 0 ≤ z → z < 13 * n → R1 z = σ.2.1 (1000 + x) z) (h3 : ∀ j, τ.2.1 (1000 + x2) j = if f ≤ j ∧ j < t then 0 else R1 j) (ef : f = 13 * n) (et : t = 13 * n + 13) (hn : 0 ≤ n) : cW τ x2 (n + 1) = uZ (cW σ x n) n zI := by
  funext i c
  by_cases e : i = n
  · rw [e, uZ_eq]
    unfold cW
    by_cases g : (0 ≤ n ∧ n < n + 1) ∧ 0 ≤ c ∧ c ≤ 12
    · rw [if_pos g, h3, if_pos (by omega)]; rfl
    · rw [if_neg g]; rfl
  · rw [uZ_ne e]
    unfold cW
    by_cases g : (0 ≤ i ∧ i < n) ∧ 0 ≤ c ∧ c ≤ 12
    · rw [if_pos g, if_pos (by omega), h3, if_neg (by omega), h1 _ (by omega) (by omega)]
    · rw [if_neg g, if_neg (by omega)]
theorem cw_app {σ τ : MS} {x x2 : Nat} {n f t z0 z1 z2 k p q : Int} {R1 : Int → Int} (h1 : ∀ z, 0 ≤ z → z < 13 * n → R1 z = σ.2.1 (1000 + x) z) (h3 : ∀ j, τ.2.1 (1000 + x2) j = if f ≤ j ∧ j < t then 0 else R1 j) (ef : f = 13 * n) (et : t = 13 * n + 13) (hn : 0 ≤ n) (e0 : z0 = 13 * n) (e1 : z1 = 13 * n + 1) (e2 : z2 = 13 * n + 2) : cW (sA (1000 + x2) z2 q (sA (1000 + x2) z1 p (sA (1000 + x2) z0 k τ))) x2 (n + 1) = uZ (cW σ x n) n (rwI k p q) := by
  have w := cw_fil h1 h3 ef et hn
  have r0 : 0 ≤ n ∧ n < n + 1 := ⟨hn, by omega⟩
  rw [cW_put r0 (c := 2) (by decide) (by omega), cW_put r0 (c := 1) (by decide) (by omega), cW_put r0 (c := 0) (by decide) (by omega), w]
  simp only [uZ_eq, uZ_uZ]
  congr 1
  funext c
  unfold uZ rwI zI
  by_cases a0 : c = 0
  · rw [if_pos a0]; subst a0; rfl
  · rw [if_neg a0]
    by_cases a1 : c = 1
    · rw [if_pos a1]; subst a1; rfl
    · rw [if_neg a1]
      by_cases a2 : c = 2
      · rw [if_pos a2, if_neg a0, if_neg a1]
      · rw [if_neg a2, if_neg a0, if_neg a1]
theorem cw_lop {σ : MS} {x : Nat} {n z0 z1 i k p : Int} (hn : 1 ≤ n) (hi : 0 ≤ i ∧ i < 4) (e0 : z0 = 13 * (n - 1) + (3 + 2 * i)) (e1 : z1 = 13 * (n - 1) + (4 + 2 * i)) : cW (sA (1000 + x) z1 p (sA (1000 + x) z0 k σ)) x n = uZ (cW σ x n) (n - 1) (uZ (uZ (cW σ x n (n - 1)) (3 + 2 * i) k) (4 + 2 * i) p) := by
  have r0 : 0 ≤ n - 1 ∧ n - 1 < n := ⟨by omega, by omega⟩
  rw [cW_put r0 (c := 4 + 2 * i) ⟨by omega, by omega⟩ (by omega), cW_put r0 (c := 3 + 2 * i) ⟨by omega, by omega⟩ (by omega)]
  simp only [uZ_eq, uZ_uZ]
def LOQ (σ2 : MS) (x : Nat) (n : Int) (W : Int → It) (i k p : Int) : Prop := n ≤ 200 → cW σ2 x n = uZ W (n - 1) (uZ (uZ (W (n - 1)) (3 + 2 * i) k) (4 + 2 * i) p)
def cp1 (s : MS) (y x : Nat) (l : Int) : MS := rowS (1000 + x) (cpZ (s.2.1 (1000 + y)) (s.2.1 (1000 + x)) 0 0 l) s
theorem cp1_eq {s : MS} {y x : Nat} {l z : Int} (h : 0 ≤ z ∧ z < l) : (cp1 s y x l).2.1 (1000 + x) z = s.2.1 (1000 + y) z := by
  unfold cp1
  rw [rowS_eq]
  unfold cpZ
  rw [if_pos (by omega), show (0 : Int) + (z - 0) = z by omega]
theorem cp1_ne {s : MS} {y x z : Nat} {l : Int} (h : z ≠ x) : (cp1 s y x l).2.1 (1000 + z) = s.2.1 (1000 + z) := by
  unfold cp1
  exact rowS_ne (by omega)
theorem cp6 {s : MS} {x2 xR xP xL xn xh y yR yP yL yn yh : Nat} {l l1 l2 l3 l4 l5 : Int} (hd : DS [x2, xR, xP, xL, xn, xh, y, yR, yP, yL, yn, yh]) {t1 t2 t3 t4 t5 t : MS} (h1 : t1 = cp1 s y x2 l) (h2 : t2 = cp1 t1 yR xR l1) (h3 : t3 = cp1 t2 yP xP l2) (h4 : t4 = cp1 t3 yL xL l3) (h5 : t5 = cp1 t4 yn xn l4) (h6 : t = cp1 t5 yh xh l5) : (∀ z, 0 ≤ z → z < l → t.2.1 (1000 + x2) z = s.2.1 (1000 + y) z) ∧ (∀ z, 0 ≤ z → z < l1 → t.2.1 (1000 + xR) z = s.2.1 (1000 + yR) z) ∧ (∀ z, 0 ≤ z → z < l2 → t.2.1 (1000 + xP) z = s.2.1 (1000 + yP) z) ∧ (∀ z, 0 ≤ z → z < l3 → t.2.1 (1000 + xL) z = s.2.1 (1000 + yL) z) ∧ (∀ z, 0 ≤ z → z < l4 → t.2.1 (1000 + xn) z = s.2.1 (1000 + yn) z) ∧ (∀ z, 0 ≤ z → z < l5 → t.2.1 (1000 + xh) z = s.2.1 (1000 + yh) z) := by
  subst h1; subst h2; subst h3; subst h4; subst h5; subst h6
  refine ⟨fun z a b => ?_, fun z a b => ?_, fun z a b => ?_, fun z a b => ?_, fun z a b => ?_, fun z a b => ?_⟩
  · rw [cp1_ne (hd.ne (i := 0) (j := 5) rfl rfl (by decide)), cp1_ne (hd.ne (i := 0) (j := 4) rfl rfl (by decide)), cp1_ne (hd.ne (i := 0) (j := 3) rfl rfl (by decide)), cp1_ne (hd.ne (i := 0) (j := 2) rfl rfl (by decide)), cp1_ne (hd.ne (i := 0) (j := 1) rfl rfl (by decide)), cp1_eq ⟨a, b⟩]
  · rw [cp1_ne (hd.ne (i := 1) (j := 5) rfl rfl (by decide)), cp1_ne (hd.ne (i := 1) (j := 4) rfl rfl (by decide)), cp1_ne (hd.ne (i := 1) (j := 3) rfl rfl (by decide)), cp1_ne (hd.ne (i := 1) (j := 2) rfl rfl (by decide)), cp1_eq ⟨a, b⟩, cp1_ne (hd.ne (i := 7) (j := 0) rfl rfl (by decide))]
  · rw [cp1_ne (hd.ne (i := 2) (j := 5) rfl rfl (by decide)), cp1_ne (hd.ne (i := 2) (j := 4) rfl rfl (by decide)), cp1_ne (hd.ne (i := 2) (j := 3) rfl rfl (by decide)), cp1_eq ⟨a, b⟩, cp1_ne (hd.ne (i := 8) (j := 1) rfl rfl (by decide)), cp1_ne (hd.ne (i := 8) (j := 0) rfl rfl (by decide))]
  · rw [cp1_ne (hd.ne (i := 3) (j := 5) rfl rfl (by decide)), cp1_ne (hd.ne (i := 3) (j := 4) rfl rfl (by decide)), cp1_eq ⟨a, b⟩, cp1_ne (hd.ne (i := 9) (j := 2) rfl rfl (by decide)), cp1_ne (hd.ne (i := 9) (j := 1) rfl rfl (by decide)), cp1_ne (hd.ne (i := 9) (j := 0) rfl rfl (by decide))]
  · rw [cp1_ne (hd.ne (i := 4) (j := 5) rfl rfl (by decide)), cp1_eq ⟨a, b⟩, cp1_ne (hd.ne (i := 10) (j := 3) rfl rfl (by decide)), cp1_ne (hd.ne (i := 10) (j := 2) rfl rfl (by decide)), cp1_ne (hd.ne (i := 10) (j := 1) rfl rfl (by decide)), cp1_ne (hd.ne (i := 10) (j := 0) rfl rfl (by decide))]
  · rw [cp1_eq ⟨a, b⟩, cp1_ne (hd.ne (i := 11) (j := 4) rfl rfl (by decide)), cp1_ne (hd.ne (i := 11) (j := 3) rfl rfl (by decide)), cp1_ne (hd.ne (i := 11) (j := 2) rfl rfl (by decide)), cp1_ne (hd.ne (i := 11) (j := 1) rfl rfl (by decide)), cp1_ne (hd.ne (i := 11) (j := 0) rfl rfl (by decide))]
def CPQ (T : CT) (σ σ2 : MS) (a x y : Nat) (m : Int) (xR xP xL xn xh yR yP yL yn yh : Nat) : Prop := ∃ x2 : Nat, σ2.2.1 5 a = (x2 : Int) ∧ (x2 = x ∨ (T x2).1 = 0) ∧ cW σ2 x2 m = cW σ y m ∧ (∀ z, 0 ≤ z → z < 12 → σ2.2.1 (1000 + xR) z = σ.2.1 (1000 + yR) z) ∧ (∀ z, 0 ≤ z → z < 12 → σ2.2.1 (1000 + xP) z = σ.2.1 (1000 + yP) z) ∧ (∀ z, 0 ≤ z → z < 12 → σ2.2.1 (1000 + xL) z = σ.2.1 (1000 + yL) z) ∧ (∀ z, 0 ≤ z → z < 12 → σ2.2.1 (1000 + xn) z = σ.2.1 (1000 + yn) z) ∧ (∀ z, 0 ≤ z → z < 144 → σ2.2.1 (1000 + xh) z = σ.2.1 (1000 + yh) z)
theorem DS.fr {T : CT} {x x2 : Nat} {l : List Nat} (h : DS (x :: l)) (e : x2 = x ∨ (T x2).1 = 0) (k : ∀ z, z ∈ l → (T z).1 ≠ 0) : DS (x2 :: l) := by
  rcases e with e | e
  · rw [e]; exact h
  · intro i j a b hi hj hij
    have me : ∀ (i b : Nat), l[i]? = some b → b ≠ x2 := fun i b q w => by
      have z := k b (List.mem_of_getElem? q)
      rw [w] at z
      exact z e
    cases i with
    | zero =>
      cases j with
      | zero => exact absurd rfl hij
      | succ j =>
        have e1 : x2 = a := by simpa using hi
        exact fun w => me j b (by simpa using hj) (by rw [← w, e1])
    | succ i =>
      cases j with
      | zero =>
        have e1 : x2 = b := by simpa using hj
        exact fun w => me i a (by simpa using hi) (by rw [w, e1])
      | succ j => exact h (i + 1) (j + 1) a b (by simpa using hi) (by simpa using hj) hij
end
section
set_option maxHeartbeats 1000000 in
set_option maxRecDepth 20000 in
theorem k_X1_append_x (d : Nat) {T : CT} {σ : MS} {a : Nat} {k : Int} {p : Int} {q : Int} {x : Nat} {n : Int} {W : Int → It} (ha : OB T a 1) (hta : (T a).1 = 31) (h_k : -2147483648 ≤ k ∧ k ≤ 2147483647) (h_p : -2147483648 ≤ p ∧ p ≤ 2147483647) (h_q : -2147483648 ≤ q ∧ q ≤ 2147483647) (hw : WT T σ) (hx : σ.2.1 5 a = (x : Int)) (hn : σ.2.1 6 a = n) (hW : cW σ x n = W) (hc : n ≤ 4999) (hk : k ≠ 14 ∧ k ≠ 15) : Tn (d + 3) m_X1_append 0 T σ [(0, .ref a), (1, .int (iI k)), (2, .int (iI p)), (3, .int (iI q))] [] (fun ro T2 σ2 => ro = none ∧ WT T2 σ2 ∧ FrC T [5, 6] σ σ2 ∧ (CHN T [(5, a), (6, a)] [x] [] σ σ2) ∧ (σ2.2.1 6 a = n + 1) ∧ (APQ T σ2 a x n W k p q)) := by
  obtain ⟨hl4, hk3a, hk3b⟩ := cel_of (wf_5 hw ha) hx
  have hk3 : (T x).1 = 13 := hk3b (by omega)
  clear hk3a hk3b
  have hk3i : IA T x := by unfold IA; omega
  have g5 : 13 * σ.2.1 6 a ≤ ((T x).2 : Int) ∨ 2600 ≤ (T x).2 := hw.2.1 a x ha hx
  refine tn_aload_n dX1_append_0 rfl 0 rfl ?_
  refine tn_getI (ci := 1) (i := 1) (n := 6) (t := σ.2.1 6 a) dX1_append_1 rfl lay_1 (by decide) fl1_33 ha rfl rfl (rfl) ?_
  have g6 : ((0 : Int) ≤ σ.2.1 6 a ∧ σ.2.1 6 a ≤ 5000) ∧ ((T a).1 = 50 → σ.2.1 6 a ≤ 200) := wf_6 hw ha
  have g6x := g6.2
  replace g6 := g6.1
  clear g6x
  refine tn_bipush dX1_append_4 (by decide) ?_
  refine tn_imul dX1_append_6 ?_
  refine tn_istore (L' := [(4, .int (iI ((σ.2.1 6 a) * 13))), (0, .ref a), (1, .int (iI k)), (2, .int (iI p)), (3, .int (iI q))]) dX1_append_7 (by decide) rfl ?_
  refine tn_aload_n dX1_append_9 rfl 1 rfl ?_
  refine tn_dup dX1_append_10 rfl ?_
  refine tn_getI (ci := 1) (i := 1) (n := 6) (t := σ.2.1 6 a) dX1_append_11 rfl lay_1 (by decide) fl1_33 ha rfl rfl (rfl) ?_
  refine tn_iconst dX1_append_14 ?_
  refine tn_iadd dX1_append_15 ?_
  have g7 : 13 * σ.2.1 6 a ≤ ((T x).2 : Int) ∨ 2600 ≤ (T x).2 := hw.2.1 a x ha hx
  refine tn_putV (ci := 1) (i := 1) (n := 6) (r := false) (v := (σ.2.1 6 a) + 1) tyX1 tyX1_ok nmX1 dX1_append_16 rfl lay_1 (by decide) fl1_33 rfl (tyX1_ok 1 (by decide)) rfl rfl rfl ha rfl rfl ?_
  refine tn_iload dX1_append_19 0 rfl ?_
  refine tn_bipush dX1_append_21 (by decide) ?_
  refine tn_iadd dX1_append_23 ?_
  refine tn_aload_n dX1_append_24 rfl 1 rfl ?_
  refine tn_getR (ci := 1) (i := 0) (n := 5) (x := x) dX1_append_25 rfl lay_1 (by decide) fl1_9 ha rfl rfl (rc_o (by decide) (hx)) ?_
  refine tn_alenX dX1_append_28 (Or.inl hk3i) ?_
  refine tn_icmp_le (tgt := 66) dX1_append_29 (by decide) ⟨by omega, by omega⟩ ⟨by omega, by omega⟩ (fun h8 => ?_) (fun h8 => ?_)
  · refine tn_iload dX1_append_66 0 rfl ?_
    refine tn_if_lt (tgt := 129) dX1_append_68 (by decide) ⟨by omega, by omega⟩ (fun h9 => absurd h9 (by omega)) (fun h9 => ?_)
    refine tn_iload dX1_append_71 0 rfl ?_
    refine tn_bipush dX1_append_73 (by decide) ?_
    refine tn_iadd dX1_append_75 ?_
    refine tn_aload_n dX1_append_76 rfl 1 rfl ?_
    refine tn_getR (ci := 1) (i := 0) (n := 5) (x := x) dX1_append_77 rfl lay_1 (by decide) fl1_9 ha rfl rfl (rc_o (by decide) (hx)) ?_
    refine tn_alenX dX1_append_80 (Or.inl hk3i) ?_
    refine tn_icmp_gt (tgt := 129) dX1_append_81 (by decide) ⟨by omega, by omega⟩ ⟨by omega, by omega⟩ (fun h10 => ?_) (fun h10 => ?_)
    · exact tn_vret rfl dX1_append_129 ⟨rfl, (hw.put6 (hx) (fo_6 ⟨by omega, by omega⟩) (by omega)), (FrC.rfl.put (by decide) (by decide)), (CHN.rfl.fld (by simp) (by decide)), ((show (sA 6 a ((σ.2.1 6 a) + 1) σ).2.1 6 a = (σ.2.1 6 a) + 1 from ra_eq).trans (by omega)), ⟨x, rc_o (by decide) (hx), Or.inl rfl, fun q9 => False.elim (by omega)⟩⟩
    · refine tn_aload_n dX1_append_84 rfl 1 rfl ?_
      refine tn_getR (ci := 1) (i := 0) (n := 5) (x := x) dX1_append_85 rfl lay_1 (by decide) fl1_9 ha rfl rfl (rc_o (by decide) (hx)) ?_
      refine tn_iload dX1_append_88 0 rfl ?_
      refine tn_iload dX1_append_90 0 rfl ?_
      refine tn_bipush dX1_append_92 (by decide) ?_
      refine tn_iadd dX1_append_94 ?_
      refine tn_iconst dX1_append_95 ?_
      refine tn_callS (M := m_X1_append) (pc := 96) (ix := 72) (M' := m_J7_fill_fda19) (As := [.ref x, .int (iI ((σ.2.1 6 a) * 13)), .int (iI (((σ.2.1 6 a) * 13) + 13)), .int (iI 0)]) (rest := []) dX1_append_96 ok_J7_fill_fda19 stt_J7_fill_fda19 ml1_72 np_J7_fill_fda19 rfl (Nat.le_of_ble_eq_true rfl) (Nat.le_of_ble_eq_true rfl) rfl (k_J7_fill_fda19_x (d) (T := T) (σ := (sA 6 a ((σ.2.1 6 a) + 1) σ)) (x := x) (f := (σ.2.1 6 a) * 13) (t := ((σ.2.1 6 a) * 13) + 13) (y := 0) hk3i (by omega) (by omega) (by omega) (by decide) (hw.put6 (hx) (fo_6 ⟨by omega, by omega⟩) (by omega)) (nh_k hk3 (by unfold HT; omega)) (by omega) (by omega)) (fun r11 T13 σ12 gt14 hp => ?_)
      obtain ⟨rfl, rfl, w18, F19, f15, f16⟩ := hp
      clear gt14
      show Tn _ _ 99 T σ12 [(4, .int (iI ((σ.2.1 6 a) * 13))), (0, .ref a), (1, .int (iI k)), (2, .int (iI p)), (3, .int (iI q))] [] _
      refine tn_aload_n dX1_append_99 rfl 1 rfl ?_
      refine tn_getR (ci := 1) (i := 0) (n := 5) (x := x) dX1_append_100 rfl lay_1 (by decide) fl1_9 ha rfl rfl (rc_F F19 (Or.inl (by decide)) (by decide) (rc_o (by decide) (hx))) ?_
      refine tn_iload dX1_append_103 0 rfl ?_
      refine tn_iconst dX1_append_105 ?_
      refine tn_iadd dX1_append_106 ?_
      refine tn_iload_n dX1_append_107 rfl 2 rfl ?_
      refine tn_iast (z := ((σ.2.1 6 a) * 13) + 0) (v := k) dX1_append_108 hk3i (by omega) (by omega) (by omega) ?_
      refine tn_aload_n dX1_append_109 rfl 1 rfl ?_
      refine tn_getR (ci := 1) (i := 0) (n := 5) (x := x) dX1_append_110 rfl lay_1 (by decide) fl1_9 ha rfl rfl (rc_a (Or.inl (by decide)) (rc_F F19 (Or.inl (by decide)) (by decide) (rc_o (by decide) (hx)))) ?_
      refine tn_iload dX1_append_113 0 rfl ?_
      refine tn_iconst dX1_append_115 ?_
      refine tn_iadd dX1_append_116 ?_
      refine tn_iload_n dX1_append_117 rfl 3 rfl ?_
      refine tn_iast (z := ((σ.2.1 6 a) * 13) + 1) (v := p) dX1_append_118 hk3i (by omega) (by omega) (by omega) ?_
      refine tn_aload_n dX1_append_119 rfl 1 rfl ?_
      refine tn_getR (ci := 1) (i := 0) (n := 5) (x := x) dX1_append_120 rfl lay_1 (by decide) fl1_9 ha rfl rfl (rc_a (Or.inl (by decide)) (rc_a (Or.inl (by decide)) (rc_F F19 (Or.inl (by decide)) (by decide) (rc_o (by decide) (hx))))) ?_
      refine tn_iload dX1_append_123 0 rfl ?_
      refine tn_iconst dX1_append_125 ?_
      refine tn_iadd dX1_append_126 ?_
      refine tn_iload_n dX1_append_127 rfl 4 rfl ?_
      refine tn_iast (z := ((σ.2.1 6 a) * 13) + 2) (v := q) dX1_append_128 hk3i (by omega) (by omega) (by omega) ?_
      exact tn_vret rfl dX1_append_129 ⟨rfl, (((w18.arr (Or.inl hk3i) (vok_13 (by have q9 := hk3; omega) (by omega) (fun _ q => by omega))).arr (Or.inl hk3i) (vok_13 (by have q9 := hk3; omega) (by omega) (fun _ q => by omega))).arr (Or.inl hk3i) (vok_13 (by have q9 := hk3; omega) (by omega) (fun _ q => by omega))), (((((FrC.rfl.put (by decide) (by decide)).trans (FrC.sub F19 (by decide))).arr (hk_no (nh_k hk3 (by unfold HT; omega)))).arr (hk_no (nh_k hk3 (by unfold HT; omega)))).arr (hk_no (nh_k hk3 (by unfold HT; omega)))), (((((CHN.rfl.fld (by simp) (by decide)).trans (CHN.of f15 (by simp) (fun z q => Or.inl (by revert q; simp; try omega)) (by simp))).arr (Or.inl (by simp))).arr (Or.inl (by simp))).arr (Or.inl (by simp))), ((show (sA (1000 + x) (((σ.2.1 6 a) * 13) + 2) (q) (sA (1000 + x) (((σ.2.1 6 a) * 13) + 1) (p) (sA (1000 + x) (((σ.2.1 6 a) * 13) + 0) (k) σ12))).2.1 6 a = (σ.2.1 6 a) + 1 from rc_a (Or.inl (by decide)) (rc_a (Or.inl (by decide)) (rc_a (Or.inl (by decide)) (rc_F F19 (Or.inl (by decide)) (by decide) (ra_eq))))).trans (by omega)), ⟨x, rc_a (Or.inl (by decide)) (rc_a (Or.inl (by decide)) (rc_a (Or.inl (by decide)) (rc_F F19 (Or.inl (by decide)) (by decide) (rc_o (by decide) (hx))))), Or.inl rfl, fun q9 => by rw [← hW]; exact cw_app (R1 := (sA 6 a ((σ.2.1 6 a) + 1) σ).2.1 (1000 + x)) (fun z _ _ => by rw [sA_k (by omega)]) f16 (by omega) (by omega) (by omega) (by omega) (by omega) (by omega)⟩⟩
  · refine tn_aload_n dX1_append_32 rfl 1 rfl ?_
    refine tn_getI (ci := 1) (i := 1) (n := 6) (t := (σ.2.1 6 a) + 1) dX1_append_33 rfl lay_1 (by decide) fl1_33 ha rfl rfl (ra_eq) ?_
    refine tn_sipush dX1_append_36 (by decide) ?_
    refine tn_icmp_gt (tgt := 66) dX1_append_39 (by decide) ⟨by omega, by omega⟩ ⟨by decide, by decide⟩ (fun h20 => ?_) (fun h20 => ?_)
    · refine tn_iload dX1_append_66 0 rfl ?_
      refine tn_if_lt (tgt := 129) dX1_append_68 (by decide) ⟨by omega, by omega⟩ (fun h21 => absurd h21 (by omega)) (fun h21 => ?_)
      refine tn_iload dX1_append_71 0 rfl ?_
      refine tn_bipush dX1_append_73 (by decide) ?_
      refine tn_iadd dX1_append_75 ?_
      refine tn_aload_n dX1_append_76 rfl 1 rfl ?_
      refine tn_getR (ci := 1) (i := 0) (n := 5) (x := x) dX1_append_77 rfl lay_1 (by decide) fl1_9 ha rfl rfl (rc_o (by decide) (hx)) ?_
      refine tn_alenX dX1_append_80 (Or.inl hk3i) ?_
      refine tn_icmp_gt (tgt := 129) dX1_append_81 (by decide) ⟨by omega, by omega⟩ ⟨by omega, by omega⟩ (fun h22 => ?_) (fun h22 => ?_)
      · exact tn_vret rfl dX1_append_129 ⟨rfl, (hw.put6 (hx) (fo_6 ⟨by omega, by omega⟩) (by omega)), (FrC.rfl.put (by decide) (by decide)), (CHN.rfl.fld (by simp) (by decide)), ((show (sA 6 a ((σ.2.1 6 a) + 1) σ).2.1 6 a = (σ.2.1 6 a) + 1 from ra_eq).trans (by omega)), ⟨x, rc_o (by decide) (hx), Or.inl rfl, fun q9 => False.elim (by omega)⟩⟩
      · refine tn_aload_n dX1_append_84 rfl 1 rfl ?_
        refine tn_getR (ci := 1) (i := 0) (n := 5) (x := x) dX1_append_85 rfl lay_1 (by decide) fl1_9 ha rfl rfl (rc_o (by decide) (hx)) ?_
        refine tn_iload dX1_append_88 0 rfl ?_
        refine tn_iload dX1_append_90 0 rfl ?_
        refine tn_bipush dX1_append_92 (by decide) ?_
        refine tn_iadd dX1_append_94 ?_
        refine tn_iconst dX1_append_95 ?_
        refine tn_callS (M := m_X1_append) (pc := 96) (ix := 72) (M' := m_J7_fill_fda19) (As := [.ref x, .int (iI ((σ.2.1 6 a) * 13)), .int (iI (((σ.2.1 6 a) * 13) + 13)), .int (iI 0)]) (rest := []) dX1_append_96 ok_J7_fill_fda19 stt_J7_fill_fda19 ml1_72 np_J7_fill_fda19 rfl (Nat.le_of_ble_eq_true rfl) (Nat.le_of_ble_eq_true rfl) rfl (k_J7_fill_fda19_x (d) (T := T) (σ := (sA 6 a ((σ.2.1 6 a) + 1) σ)) (x := x) (f := (σ.2.1 6 a) * 13) (t := ((σ.2.1 6 a) * 13) + 13) (y := 0) hk3i (by omega) (by omega) (by omega) (by decide) (hw.put6 (hx) (fo_6 ⟨by omega, by omega⟩) (by omega)) (nh_k hk3 (by unfold HT; omega)) (by omega) (by omega)) (fun r23 T25 σ24 gt26 hp => ?_)
        obtain ⟨rfl, rfl, w30, F31, f27, f28⟩ := hp
        clear gt26
        show Tn _ _ 99 T σ24 [(4, .int (iI ((σ.2.1 6 a) * 13))), (0, .ref a), (1, .int (iI k)), (2, .int (iI p)), (3, .int (iI q))] [] _
        refine tn_aload_n dX1_append_99 rfl 1 rfl ?_
        refine tn_getR (ci := 1) (i := 0) (n := 5) (x := x) dX1_append_100 rfl lay_1 (by decide) fl1_9 ha rfl rfl (rc_F F31 (Or.inl (by decide)) (by decide) (rc_o (by decide) (hx))) ?_
        refine tn_iload dX1_append_103 0 rfl ?_
        refine tn_iconst dX1_append_105 ?_
        refine tn_iadd dX1_append_106 ?_
        refine tn_iload_n dX1_append_107 rfl 2 rfl ?_
        refine tn_iast (z := ((σ.2.1 6 a) * 13) + 0) (v := k) dX1_append_108 hk3i (by omega) (by omega) (by omega) ?_
        refine tn_aload_n dX1_append_109 rfl 1 rfl ?_
        refine tn_getR (ci := 1) (i := 0) (n := 5) (x := x) dX1_append_110 rfl lay_1 (by decide) fl1_9 ha rfl rfl (rc_a (Or.inl (by decide)) (rc_F F31 (Or.inl (by decide)) (by decide) (rc_o (by decide) (hx)))) ?_
        refine tn_iload dX1_append_113 0 rfl ?_
        refine tn_iconst dX1_append_115 ?_
        refine tn_iadd dX1_append_116 ?_
        refine tn_iload_n dX1_append_117 rfl 3 rfl ?_
        refine tn_iast (z := ((σ.2.1 6 a) * 13) + 1) (v := p) dX1_append_118 hk3i (by omega) (by omega) (by omega) ?_
        refine tn_aload_n dX1_append_119 rfl 1 rfl ?_
        refine tn_getR (ci := 1) (i := 0) (n := 5) (x := x) dX1_append_120 rfl lay_1 (by decide) fl1_9 ha rfl rfl (rc_a (Or.inl (by decide)) (rc_a (Or.inl (by decide)) (rc_F F31 (Or.inl (by decide)) (by decide) (rc_o (by decide) (hx))))) ?_
        refine tn_iload dX1_append_123 0 rfl ?_
        refine tn_iconst dX1_append_125 ?_
        refine tn_iadd dX1_append_126 ?_
        refine tn_iload_n dX1_append_127 rfl 4 rfl ?_
        refine tn_iast (z := ((σ.2.1 6 a) * 13) + 2) (v := q) dX1_append_128 hk3i (by omega) (by omega) (by omega) ?_
        exact tn_vret rfl dX1_append_129 ⟨rfl, (((w30.arr (Or.inl hk3i) (vok_13 (by have q9 := hk3; omega) (by omega) (fun _ q => by omega))).arr (Or.inl hk3i) (vok_13 (by have q9 := hk3; omega) (by omega) (fun _ q => by omega))).arr (Or.inl hk3i) (vok_13 (by have q9 := hk3; omega) (by omega) (fun _ q => by omega))), (((((FrC.rfl.put (by decide) (by decide)).trans (FrC.sub F31 (by decide))).arr (hk_no (nh_k hk3 (by unfold HT; omega)))).arr (hk_no (nh_k hk3 (by unfold HT; omega)))).arr (hk_no (nh_k hk3 (by unfold HT; omega)))), (((((CHN.rfl.fld (by simp) (by decide)).trans (CHN.of f27 (by simp) (fun z q => Or.inl (by revert q; simp; try omega)) (by simp))).arr (Or.inl (by simp))).arr (Or.inl (by simp))).arr (Or.inl (by simp))), ((show (sA (1000 + x) (((σ.2.1 6 a) * 13) + 2) (q) (sA (1000 + x) (((σ.2.1 6 a) * 13) + 1) (p) (sA (1000 + x) (((σ.2.1 6 a) * 13) + 0) (k) σ24))).2.1 6 a = (σ.2.1 6 a) + 1 from rc_a (Or.inl (by decide)) (rc_a (Or.inl (by decide)) (rc_a (Or.inl (by decide)) (rc_F F31 (Or.inl (by decide)) (by decide) (ra_eq))))).trans (by omega)), ⟨x, rc_a (Or.inl (by decide)) (rc_a (Or.inl (by decide)) (rc_a (Or.inl (by decide)) (rc_F F31 (Or.inl (by decide)) (by decide) (rc_o (by decide) (hx))))), Or.inl rfl, fun q9 => by rw [← hW]; exact cw_app (R1 := (sA 6 a ((σ.2.1 6 a) + 1) σ).2.1 (1000 + x)) (fun z _ _ => by rw [sA_k (by omega)]) f28 (by omega) (by omega) (by omega) (by omega) (by omega) (by omega)⟩⟩
    · refine tn_aload_n dX1_append_42 rfl 1 rfl ?_
      refine tn_aload_n dX1_append_43 rfl 1 rfl ?_
      refine tn_getR (ci := 1) (i := 0) (n := 5) (x := x) dX1_append_44 rfl lay_1 (by decide) fl1_9 ha rfl rfl (rc_o (by decide) (hx)) ?_
      refine tn_sipush dX1_append_47 (by decide) ?_
      refine tn_iconst dX1_append_50 ?_
      refine tn_aload_n dX1_append_51 rfl 1 rfl ?_
      refine tn_getR (ci := 1) (i := 0) (n := 5) (x := x) dX1_append_52 rfl lay_1 (by decide) fl1_9 ha rfl rfl (rc_o (by decide) (hx)) ?_
      refine tn_alenX dX1_append_55 (Or.inl hk3i) ?_
      refine tn_imul dX1_append_56 ?_
      refine tn_mmin (x := 2600) (y := 2 * (((T x).2 : Int))) dX1_append_57 mlm1_57 stM_min iniM cdM_min (by omega) (Nat.le_of_ble_eq_true rfl) ⟨by omega, by omega⟩ ⟨by omega, by omega⟩ (fun z32 g33 => ?_)
      obtain ⟨N44, N44e⟩ : ∃ N : Nat, z32 = (N : Int) := ⟨(z32).toNat, by omega⟩
      refine tn_callS (M := m_X1_append) (pc := 60) (ix := 66) (M' := m_J7_copyOf_59c91) (As := [.ref x, .int (iI z32)]) (rest := [.ref a]) dX1_append_60 ok_J7_copyOf_59c91 stt_J7_copyOf_59c91 ml1_66 np_J7_copyOf_59c91 rfl (Nat.le_of_ble_eq_true rfl) (Nat.le_of_ble_eq_true rfl) rfl (k_copyOfX (d + 1) (T := T) (σ := (sA 6 a ((σ.2.1 6 a) + 1) σ)) (a := x) (z := z32) (N := N44) hk3i (by omega) (fun i => by rw [sA_k (by omega)]; exact (hw.2.2.1 x (Or.inl hk3i) i)) N44e (by omega) (by omega)) (fun r34 T35 σ36 gt37 hp => ?_)
      obtain ⟨x38, f39, rfl, hx40, hT41, hs42, hf43, hf43x⟩ := hp
      show Tn _ _ 63 T35 σ36 [(4, .int (iI ((σ.2.1 6 a) * 13))), (0, .ref a), (1, .int (iI k)), (2, .int (iI p)), (3, .int (iI q))] [.ref x38, .ref a] _
      have ob53 := ha
      replace ha : OB T35 a 1 := gt37.ob ha
      replace hta : (T35 a).1 = 31 := gt37.kk hta (by decide) (by decide)
      refine tn_putV (ci := 1) (i := 0) (n := 5) (r := true) (v := (x38 : Int)) tyX1 tyX1_ok nmX1 dX1_append_63 rfl lay_1 (by decide) fl1_9 rfl (tyX1_ok 0 (by decide)) (vl_ref rfl).symm rfl rfl (gt37.ob ob53) rfl rfl ?_
      obtain ⟨σ45, h46⟩ : ∃ s, s = (sA 5 a (x38 : Int) σ36) := ⟨_, rfl⟩
      rw [← h46]
      have w47 : WT T35 σ45 := by
        rw [h46, hs42, hT41]
        exact WTx.app (hw.put6x (fo_6 ⟨by omega, by omega⟩)) ob53 (rc_o (by decide) (hx)) hx40 hf43 ⟨by omega, by omega⟩ (by omega) (by omega) (by rw [show (sA 6 a ((σ.2.1 6 a) + 1) σ).2.1 6 a = (σ.2.1 6 a) + 1 from ra_eq]; omega)
      have F48 : FrC T [5, 6] σ σ45 := by
        rw [h46, hs42]
        exact FrC.put (FrC.row (FrC.gh (FrC.rfl.put (by decide) (by decide))) (hk_no (by unfold NH HT; omega))) (by decide) (by decide)
      have c49 : σ45.2.1 6 a = (σ.2.1 6 a) + 1 := by rw [h46, hs42]; exact rc_o (by decide) (rc_r (Or.inl (by decide)) (ra_eq))
      have q50 : σ45.2.1 5 a = (x38 : Int) := by rw [h46]; exact ra_eq
      have l51 : (T35 x38).2 = N44 := by rw [hT41, tT_eq]
      obtain ⟨cx52, cx52i⟩ := cell_of w47 (gt37.ob ob53) q50
      have cx52t : (T35 x38).1 = 13 := cx52.2 (by omega)
      show Tn _ _ 66 T35 σ45 [(4, .int (iI ((σ.2.1 6 a) * 13))), (0, .ref a), (1, .int (iI k)), (2, .int (iI p)), (3, .int (iI q))] [] _
      have ch54 : CHN T [(5, a), (6, a)] [] [] σ σ45 := by rw [h46, hs42]; exact CHN.fld (CHN.row (CHN.gh (CHN.fld CHN.rfl (by simp) (by decide))) (Or.inr hx40)) (by simp) (by decide)
      have ct55 : ∀ z, 0 ≤ z → z < ((T x).2 : Int) → σ45.2.1 (1000 + x38) z = σ.2.1 (1000 + x) z := fun z z0 z1 => by rw [h46, hs42, sA_k (by omega), rowS_eq]; have q7 := hf43x z z0 z1; rw [sA_k (by omega)] at q7; exact q7
      refine tn_iload dX1_append_66 0 rfl ?_
      refine tn_if_lt (tgt := 129) dX1_append_68 (by decide) ⟨by omega, by omega⟩ (fun h56 => absurd h56 (by omega)) (fun h56 => ?_)
      refine tn_iload dX1_append_71 0 rfl ?_
      refine tn_bipush dX1_append_73 (by decide) ?_
      refine tn_iadd dX1_append_75 ?_
      refine tn_aload_n dX1_append_76 rfl 1 rfl ?_
      refine tn_getR (ci := 1) (i := 0) (n := 5) (x := x38) dX1_append_77 rfl lay_1 (by decide) fl1_9 ha rfl rfl (q50) ?_
      refine tn_alenX dX1_append_80 (Or.inl cx52i) ?_
      refine tn_icmp_gt (tgt := 129) dX1_append_81 (by decide) ⟨by omega, by omega⟩ ⟨by omega, by omega⟩ (fun h57 => ?_) (fun h57 => ?_)
      · exact tn_vret rfl dX1_append_129 ⟨rfl, w47, (FrC.rfl.trans (FrC.sub F48 (by decide))), (CHN.rfl.trans (CHN.sub ch54 (by simp) (by simp) (by simp))), False.elim (by omega), False.elim (by omega)⟩
      · refine tn_aload_n dX1_append_84 rfl 1 rfl ?_
        refine tn_getR (ci := 1) (i := 0) (n := 5) (x := x38) dX1_append_85 rfl lay_1 (by decide) fl1_9 ha rfl rfl (q50) ?_
        refine tn_iload dX1_append_88 0 rfl ?_
        refine tn_iload dX1_append_90 0 rfl ?_
        refine tn_bipush dX1_append_92 (by decide) ?_
        refine tn_iadd dX1_append_94 ?_
        refine tn_iconst dX1_append_95 ?_
        refine tn_callS (M := m_X1_append) (pc := 96) (ix := 72) (M' := m_J7_fill_fda19) (As := [.ref x38, .int (iI ((σ.2.1 6 a) * 13)), .int (iI (((σ.2.1 6 a) * 13) + 13)), .int (iI 0)]) (rest := []) dX1_append_96 ok_J7_fill_fda19 stt_J7_fill_fda19 ml1_72 np_J7_fill_fda19 rfl (Nat.le_of_ble_eq_true rfl) (Nat.le_of_ble_eq_true rfl) rfl (k_J7_fill_fda19_x (d) (T := T35) (σ := σ45) (x := x38) (f := (σ.2.1 6 a) * 13) (t := ((σ.2.1 6 a) * 13) + 13) (y := 0) cx52i (by omega) (by omega) (by omega) (by decide) w47 (nh_k cx52t (by unfold HT; omega)) (by omega) (by omega)) (fun r58 T60 σ59 gt61 hp => ?_)
        obtain ⟨rfl, rfl, w65, F66, f62, f63⟩ := hp
        clear gt61
        show Tn _ _ 99 T35 σ59 [(4, .int (iI ((σ.2.1 6 a) * 13))), (0, .ref a), (1, .int (iI k)), (2, .int (iI p)), (3, .int (iI q))] [] _
        refine tn_aload_n dX1_append_99 rfl 1 rfl ?_
        refine tn_getR (ci := 1) (i := 0) (n := 5) (x := x38) dX1_append_100 rfl lay_1 (by decide) fl1_9 ha rfl rfl (rc_F F66 (Or.inl (by decide)) (by decide) (q50)) ?_
        refine tn_iload dX1_append_103 0 rfl ?_
        refine tn_iconst dX1_append_105 ?_
        refine tn_iadd dX1_append_106 ?_
        refine tn_iload_n dX1_append_107 rfl 2 rfl ?_
        refine tn_iast (z := ((σ.2.1 6 a) * 13) + 0) (v := k) dX1_append_108 cx52i (by omega) (by omega) (by omega) ?_
        refine tn_aload_n dX1_append_109 rfl 1 rfl ?_
        refine tn_getR (ci := 1) (i := 0) (n := 5) (x := x38) dX1_append_110 rfl lay_1 (by decide) fl1_9 ha rfl rfl (rc_a (Or.inl (by decide)) (rc_F F66 (Or.inl (by decide)) (by decide) (q50))) ?_
        refine tn_iload dX1_append_113 0 rfl ?_
        refine tn_iconst dX1_append_115 ?_
        refine tn_iadd dX1_append_116 ?_
        refine tn_iload_n dX1_append_117 rfl 3 rfl ?_
        refine tn_iast (z := ((σ.2.1 6 a) * 13) + 1) (v := p) dX1_append_118 cx52i (by omega) (by omega) (by omega) ?_
        refine tn_aload_n dX1_append_119 rfl 1 rfl ?_
        refine tn_getR (ci := 1) (i := 0) (n := 5) (x := x38) dX1_append_120 rfl lay_1 (by decide) fl1_9 ha rfl rfl (rc_a (Or.inl (by decide)) (rc_a (Or.inl (by decide)) (rc_F F66 (Or.inl (by decide)) (by decide) (q50)))) ?_
        refine tn_iload dX1_append_123 0 rfl ?_
        refine tn_iconst dX1_append_125 ?_
        refine tn_iadd dX1_append_126 ?_
        refine tn_iload_n dX1_append_127 rfl 4 rfl ?_
        refine tn_iast (z := ((σ.2.1 6 a) * 13) + 2) (v := q) dX1_append_128 cx52i (by omega) (by omega) (by omega) ?_
        exact tn_vret rfl dX1_append_129 ⟨rfl, (((w65.arr (Or.inl cx52i) (vok_13 (by have q9 := cx52t; omega) (by omega) (fun _ q => by omega))).arr (Or.inl cx52i) (vok_13 (by have q9 := cx52t; omega) (by omega) (fun _ q => by omega))).arr (Or.inl cx52i) (vok_13 (by have q9 := cx52t; omega) (by omega) (fun _ q => by omega))), (((((FrC.rfl.trans (FrC.sub F48 (by decide))).trans (FrC.sub (FrC.old F66 gt37) (by decide))).arr (hk_no (GT.nh gt37 (nh_k cx52t (by unfold HT; omega))))).arr (hk_no (GT.nh gt37 (nh_k cx52t (by unfold HT; omega))))).arr (hk_no (GT.nh gt37 (nh_k cx52t (by unfold HT; omega))))), (((((CHN.rfl.trans (CHN.sub ch54 (by simp) (by simp) (by simp))).trans (CHN.of f62 (by simp) (fun z q => by rw [List.mem_singleton.mp q]; exact (Or.inr hx40)) (by simp))).arr (Or.inr hx40)).arr (Or.inr hx40)).arr (Or.inr hx40)), ((show (sA (1000 + x38) (((σ.2.1 6 a) * 13) + 2) (q) (sA (1000 + x38) (((σ.2.1 6 a) * 13) + 1) (p) (sA (1000 + x38) (((σ.2.1 6 a) * 13) + 0) (k) σ59))).2.1 6 a = σ45.2.1 6 a from rc_a (Or.inl (by decide)) (rc_a (Or.inl (by decide)) (rc_a (Or.inl (by decide)) (rc_F F66 (Or.inl (by decide)) (by decide) (rfl))))).trans (by omega)), ⟨x38, rc_a (Or.inl (by decide)) (rc_a (Or.inl (by decide)) (rc_a (Or.inl (by decide)) (rc_F F66 (Or.inl (by decide)) (by decide) (q50)))), Or.inr hx40, fun q9 => by rw [← hW]; exact cw_app (R1 := σ45.2.1 (1000 + x38)) (fun z z0 z1 => ct55 z z0 (by omega)) f63 (by omega) (by omega) (by omega) (by omega) (by omega) (by omega)⟩⟩
end
section
set_option maxHeartbeats 1000000 in
set_option maxRecDepth 20000 in
theorem k_X1_lastOperand_x (d : Nat) {T : CT} {σ : MS} {a : Nat} {i : Int} {k : Int} {p : Int} {x : Nat} {n : Int} {W : Int → It} (ha : OB T a 1) (hta : (T a).1 = 31) (h_i : -2147483648 ≤ i ∧ i ≤ 2147483647) (h_k : -2147483648 ≤ k ∧ k ≤ 2147483647) (h_p : -2147483648 ≤ p ∧ p ≤ 2147483647) (hw : WT T σ) (hx : σ.2.1 5 a = (x : Int)) (hn : σ.2.1 6 a = n) (hW : cW σ x n = W) (hc : 1 ≤ n ∧ n ≤ 5000) (hi : 0 ≤ i ∧ i ≤ 3) : Tn (d + 1) m_X1_lastOperand 0 T σ [(0, .ref a), (1, .int (iI i)), (2, .int (iI k)), (3, .int (iI p))] [] (fun ro T2 σ2 => ro = none ∧ T = T2 ∧ WT T2 σ2 ∧ FrC T [] σ σ2 ∧ (CHX [] [x] [] σ σ2) ∧ (LOQ σ2 x n W i k p)) := by
  obtain ⟨hl4, hk3a, hk3b⟩ := cel_of (wf_5 hw ha) hx
  have hk3 : (T x).1 = 13 := hk3b (by omega)
  clear hk3a hk3b
  have hk3i : IA T x := by unfold IA; omega
  have g5 : 13 * σ.2.1 6 a ≤ ((T x).2 : Int) ∨ 2600 ≤ (T x).2 := hw.2.1 a x ha hx
  refine tn_aload_n dX1_lastOperand_0 rfl 0 rfl ?_
  refine tn_getI (ci := 1) (i := 1) (n := 6) (t := σ.2.1 6 a) dX1_lastOperand_1 rfl lay_1 (by decide) fl1_33 ha rfl rfl (rfl) ?_
  have g6 : ((0 : Int) ≤ σ.2.1 6 a ∧ σ.2.1 6 a ≤ 5000) ∧ ((T a).1 = 50 → σ.2.1 6 a ≤ 200) := wf_6 hw ha
  have g6x := g6.2
  replace g6 := g6.1
  clear g6x
  refine tn_iconst dX1_lastOperand_4 ?_
  refine tn_isub dX1_lastOperand_5 ?_
  refine tn_bipush dX1_lastOperand_6 (by decide) ?_
  refine tn_imul dX1_lastOperand_8 ?_
  refine tn_iconst dX1_lastOperand_9 ?_
  refine tn_iadd dX1_lastOperand_10 ?_
  refine tn_iconst dX1_lastOperand_11 ?_
  refine tn_iload_n dX1_lastOperand_12 rfl 1 rfl ?_
  refine tn_imul dX1_lastOperand_13 ?_
  refine tn_iadd dX1_lastOperand_14 ?_
  refine tn_istore (L' := [(4, .int (iI (((((σ.2.1 6 a) - 1) * 13) + 3) + (2 * i)))), (0, .ref a), (1, .int (iI i)), (2, .int (iI k)), (3, .int (iI p))]) dX1_lastOperand_15 (by decide) rfl ?_
  refine tn_iload_n dX1_lastOperand_17 rfl 2 rfl ?_
  refine tn_if_lt (tgt := 61) dX1_lastOperand_18 (by decide) ⟨by omega, by omega⟩ (fun h7 => absurd h7 (by omega)) (fun h7 => ?_)
  refine tn_iload_n dX1_lastOperand_21 rfl 2 rfl ?_
  refine tn_iconst dX1_lastOperand_22 ?_
  refine tn_icmp_ge (tgt := 61) dX1_lastOperand_23 (by decide) ⟨by omega, by omega⟩ ⟨by decide, by decide⟩ (fun h8 => absurd h8 (by omega)) (fun h8 => ?_)
  refine tn_iload dX1_lastOperand_26 0 rfl ?_
  refine tn_if_lt (tgt := 61) dX1_lastOperand_28 (by decide) ⟨by omega, by omega⟩ (fun h9 => ?_) (fun h9 => ?_)
  · have g10 : 13 * σ.2.1 6 a ≤ ((T x).2 : Int) ∨ 2600 ≤ (T x).2 := hw.2.1 a x ha hx
    exact tn_vret rfl dX1_lastOperand_61 ⟨rfl, rfl, hw, FrC.rfl, CHX.rfl, (fun q9 => False.elim (by omega))⟩
  · refine tn_iload dX1_lastOperand_31 0 rfl ?_
    refine tn_iconst dX1_lastOperand_33 ?_
    refine tn_iadd dX1_lastOperand_34 ?_
    refine tn_aload_n dX1_lastOperand_35 rfl 1 rfl ?_
    refine tn_getR (ci := 1) (i := 0) (n := 5) (x := x) dX1_lastOperand_36 rfl lay_1 (by decide) fl1_9 ha rfl rfl (hx) ?_
    refine tn_alenX dX1_lastOperand_39 (Or.inl hk3i) ?_
    refine tn_icmp_ge (tgt := 61) dX1_lastOperand_40 (by decide) ⟨by omega, by omega⟩ ⟨by omega, by omega⟩ (fun h11 => ?_) (fun h11 => ?_)
    · have g12 : 13 * σ.2.1 6 a ≤ ((T x).2 : Int) ∨ 2600 ≤ (T x).2 := hw.2.1 a x ha hx
      exact tn_vret rfl dX1_lastOperand_61 ⟨rfl, rfl, hw, FrC.rfl, CHX.rfl, (fun q9 => False.elim (by omega))⟩
    · refine tn_aload_n dX1_lastOperand_43 rfl 1 rfl ?_
      refine tn_getR (ci := 1) (i := 0) (n := 5) (x := x) dX1_lastOperand_44 rfl lay_1 (by decide) fl1_9 ha rfl rfl (hx) ?_
      refine tn_iload dX1_lastOperand_47 0 rfl ?_
      refine tn_iload_n dX1_lastOperand_49 rfl 3 rfl ?_
      refine tn_iast (z := ((((σ.2.1 6 a) - 1) * 13) + 3) + (2 * i)) (v := k) dX1_lastOperand_50 hk3i (by omega) (by omega) (by omega) ?_
      refine tn_aload_n dX1_lastOperand_51 rfl 1 rfl ?_
      refine tn_getR (ci := 1) (i := 0) (n := 5) (x := x) dX1_lastOperand_52 rfl lay_1 (by decide) fl1_9 ha rfl rfl (rc_a (Or.inl (by decide)) (hx)) ?_
      refine tn_iload dX1_lastOperand_55 0 rfl ?_
      refine tn_iconst dX1_lastOperand_57 ?_
      refine tn_iadd dX1_lastOperand_58 ?_
      refine tn_iload_n dX1_lastOperand_59 rfl 4 rfl ?_
      refine tn_iast (z := (((((σ.2.1 6 a) - 1) * 13) + 3) + (2 * i)) + 1) (v := p) dX1_lastOperand_60 hk3i (by omega) (by omega) (by omega) ?_
      exact tn_vret rfl dX1_lastOperand_61 ⟨rfl, rfl, ((hw.arr (Or.inl hk3i) (vok_13 (by have q9 := hk3; omega) (by omega) (fun _ q => by omega))).arr (Or.inl hk3i) (vok_13 (by have q9 := hk3; omega) (by omega) (fun _ q => by omega))), ((FrC.rfl.arr (hk_no (nh_k hk3 (by unfold HT; omega)))).arr (hk_no (nh_k hk3 (by unfold HT; omega)))), ((CHX.rfl.arr (by simp)).arr (by simp)), (fun q9 => by rw [← hW]; exact cw_lop (by omega) ⟨by omega, by omega⟩ (by omega) (by omega))⟩
end
section
set_option maxHeartbeats 1000000 in
set_option maxRecDepth 20000 in
theorem k_X1_empty_x (d : Nat) {T : CT} {σ : MS} {a : Nat} {r : Int} {xR : Nat} {Hr : Int → Int} {xP : Nat} {Hp : Int → Int} {xL : Nat} {Hl : Int → Int} {xn : Nat} {Hn : Int → Int} (ha : OB T a 1) (hta : (T a).1 = 31) (h_r : -2147483648 ≤ r ∧ r ≤ 2147483647) (hw : WT T σ) (hxR : σ.2.1 11 a = (xR : Int)) (hHr : σ.2.1 (1000 + xR) = Hr) (hxP : σ.2.1 12 a = (xP : Int)) (hHp : σ.2.1 (1000 + xP) = Hp) (hxL : σ.2.1 13 a = (xL : Int)) (hHl : σ.2.1 (1000 + xL) = Hl) (hxn : σ.2.1 14 a = (xn : Int)) (hHn : σ.2.1 (1000 + xn) = Hn) (hds : DS [xR, xP, xL, xn]) : Tn (d + 2) m_X1_empty 0 T σ [(0, .ref a), (1, .int (iI r))] [] (fun ro T2 σ2 => ro = none ∧ T = T2 ∧ WT T2 σ2 ∧ FrC T [6, 7, 8, 9, 10] σ σ2 ∧ (CHX [(6, a), (7, a), (8, a), (9, a), (10, a)] [xR, xP, xL, xn] [] σ σ2) ∧ ((σ2.2.1 6 a = 0 ∧ σ2.2.1 7 a = 0 ∧ σ2.2.1 8 a = 0 ∧ σ2.2.1 9 a = 0) ∧ σ2.2.1 10 a = 1) ∧ (σ2.2.1 (1000 + xR) 0 = r) ∧ (σ2.2.1 (1000 + xP) 0 = -1) ∧ (σ2.2.1 (1000 + xL) 0 = 0) ∧ (σ2.2.1 (1000 + xn) 0 = 0)) := by
  refine tn_aload_n dX1_empty_0 rfl 0 rfl ?_
  refine tn_iconst dX1_empty_1 ?_
  obtain ⟨x1, hx2, hl4, hk3a, hk3b⟩ := wf_5 hw ha
  have hk3 : (T x1).1 = 13 := hk3b (by omega)
  clear hk3a hk3b
  have hk3i : IA T x1 := by unfold IA; omega
  refine tn_putV (ci := 1) (i := 1) (n := 6) (r := false) (v := 0) tyX1 tyX1_ok nmX1 dX1_empty_2 rfl lay_1 (by decide) fl1_33 rfl (tyX1_ok 1 (by decide)) rfl rfl rfl ha rfl rfl ?_
  refine tn_aload_n dX1_empty_5 rfl 0 rfl ?_
  refine tn_iconst dX1_empty_6 ?_
  refine tn_putV (ci := 1) (i := 2) (n := 7) (r := false) (v := 0) tyX1 tyX1_ok nmX1 dX1_empty_7 rfl lay_1 (by decide) fl1_37 rfl (tyX1_ok 2 (by decide)) rfl rfl rfl ha rfl rfl ?_
  refine tn_aload_n dX1_empty_10 rfl 0 rfl ?_
  refine tn_iconst dX1_empty_11 ?_
  refine tn_putV (ci := 1) (i := 3) (n := 8) (r := false) (v := 0) tyX1 tyX1_ok nmX1 dX1_empty_12 rfl lay_1 (by decide) fl1_40 rfl (tyX1_ok 3 (by decide)) rfl rfl rfl ha rfl rfl ?_
  refine tn_aload_n dX1_empty_15 rfl 0 rfl ?_
  refine tn_iconst dX1_empty_16 ?_
  refine tn_putV (ci := 1) (i := 4) (n := 9) (r := false) (v := 0) tyX1 tyX1_ok nmX1 dX1_empty_17 rfl lay_1 (by decide) fl1_43 rfl (tyX1_ok 4 (by decide)) rfl rfl rfl ha rfl rfl ?_
  refine tn_aload_n dX1_empty_20 rfl 0 rfl ?_
  refine tn_iconst dX1_empty_21 ?_
  refine tn_putV (ci := 1) (i := 5) (n := 10) (r := false) (v := 1) tyX1 tyX1_ok nmX1 dX1_empty_22 rfl lay_1 (by decide) fl1_46 rfl (tyX1_ok 5 (by decide)) rfl rfl rfl ha rfl rfl ?_
  refine tn_aload_n dX1_empty_25 rfl 0 rfl ?_
  obtain ⟨hk7, hl8⟩ : AR T xR 1 12 12 := ar_of (wf_11 hw ha) hxR
  have hk7i : IA T xR := by unfold IA; omega
  refine tn_getR (ci := 1) (i := 6) (n := 11) (x := xR) dX1_empty_26 rfl lay_1 (by decide) fl1_15 ha rfl rfl (rc_o (by decide) (rc_o (by decide) (rc_o (by decide) (rc_o (by decide) (rc_o (by decide) (hxR)))))) ?_
  refine tn_iconst dX1_empty_29 ?_
  refine tn_iload_n dX1_empty_30 rfl 1 rfl ?_
  have cv9 : (sA 10 a (1) (sA 9 a (0) (sA 8 a (0) (sA 7 a (0) (sA 6 a (0) σ))))).2.1 (1000 + xR) = Hr := (rv_fld (by decide)).trans ((rv_fld (by decide)).trans ((rv_fld (by decide)).trans ((rv_fld (by decide)).trans ((rv_fld (by decide)).trans (hHr)))))
  refine tn_callSN (M := m_X1_empty) (pc := 31) (ix := 49) (M' := m_X11_put) (As := [.ref xR, .int (iI 0), .int (iI r)]) (rest := []) dX1_empty_31 ok_X11_put stt_X11_put nl1_49 np_X11_put rfl (Nat.le_of_ble_eq_true rfl) (Nat.le_of_ble_eq_true rfl) rfl (k_X11_put_x (d) (T := T) (σ := (sA 10 a (1) (sA 9 a (0) (sA 8 a (0) (sA 7 a (0) (sA 6 a (0) σ)))))) (x := xR) (i := 0) (y := r) hk7i (by omega) (by decide) (by omega) (((((hw.put6 (hx2) (fo_6 ⟨by omega, by omega⟩) (Or.inl (by omega))).put (by decide) (by decide) (fo_7 (by omega))).put (by decide) (by decide) (fo_8 (by omega))).put (by decide) (by decide) (fo_9 (by omega))).put (by decide) (by decide) (fo_10 (by omega))) (nh_k hk7 (by unfold HT; omega)) (vok_1 (by have q9 := hk7; omega) (by omega))) (fun r10 T12 σ11 gt13 hp => ?_)
  obtain ⟨rfl, rfl, w17, F18, f14, f15⟩ := hp
  clear gt13
  show Tn _ _ 34 T σ11 [(0, .ref a), (1, .int (iI r))] [] _
  refine tn_aload_n dX1_empty_34 rfl 0 rfl ?_
  obtain ⟨hk21, hl22⟩ : AR T xP 1 12 12 := ar_of (wf_12 hw ha) hxP
  have hk21i : IA T xP := by unfold IA; omega
  refine tn_getR (ci := 1) (i := 7) (n := 12) (x := xP) dX1_empty_35 rfl lay_1 (by decide) fl1_18 ha rfl rfl (rc_F F18 (Or.inl (by decide)) (by decide) (rc_o (by decide) (rc_o (by decide) (rc_o (by decide) (rc_o (by decide) (rc_o (by decide) (hxP))))))) ?_
  refine tn_iconst dX1_empty_38 ?_
  refine tn_iconst dX1_empty_39 ?_
  have cv23 : σ11.2.1 (1000 + xP) = Hp := (CHX.r f14 (by simp only [List.mem_cons, List.not_mem_nil, or_false, not_or]; exact (hds.ne (i := 1) (j := 0) rfl rfl (by decide)))).trans ((rv_fld (by decide)).trans ((rv_fld (by decide)).trans ((rv_fld (by decide)).trans ((rv_fld (by decide)).trans ((rv_fld (by decide)).trans (hHp))))))
  refine tn_callSN (M := m_X1_empty) (pc := 40) (ix := 49) (M' := m_X11_put) (As := [.ref xP, .int (iI 0), .int (iI (-1))]) (rest := []) dX1_empty_40 ok_X11_put stt_X11_put nl1_49 np_X11_put rfl (Nat.le_of_ble_eq_true rfl) (Nat.le_of_ble_eq_true rfl) rfl (k_X11_put_x (d) (T := T) (σ := σ11) (x := xP) (i := 0) (y := -1) hk21i (by omega) (by decide) (by decide) w17 (nh_k hk21 (by unfold HT; omega)) (vok_1 (by have q9 := hk21; omega) (by omega))) (fun r24 T26 σ25 gt27 hp => ?_)
  obtain ⟨rfl, rfl, w31, F32, f28, f29⟩ := hp
  clear gt27
  show Tn _ _ 43 T σ25 [(0, .ref a), (1, .int (iI r))] [] _
  refine tn_aload_n dX1_empty_43 rfl 0 rfl ?_
  obtain ⟨hk35, hl36⟩ : AR T xL 1 12 12 := ar_of (wf_13 hw ha) hxL
  have hk35i : IA T xL := by unfold IA; omega
  refine tn_getR (ci := 1) (i := 8) (n := 13) (x := xL) dX1_empty_44 rfl lay_1 (by decide) fl1_21 ha rfl rfl (rc_F F32 (Or.inl (by decide)) (by decide) (rc_F F18 (Or.inl (by decide)) (by decide) (rc_o (by decide) (rc_o (by decide) (rc_o (by decide) (rc_o (by decide) (rc_o (by decide) (hxL)))))))) ?_
  refine tn_iconst dX1_empty_47 ?_
  refine tn_iconst dX1_empty_48 ?_
  have cv37 : σ25.2.1 (1000 + xL) = Hl := (CHX.r f28 (by simp only [List.mem_cons, List.not_mem_nil, or_false, not_or]; exact (hds.ne (i := 2) (j := 1) rfl rfl (by decide)))).trans ((CHX.r f14 (by simp only [List.mem_cons, List.not_mem_nil, or_false, not_or]; exact (hds.ne (i := 2) (j := 0) rfl rfl (by decide)))).trans ((rv_fld (by decide)).trans ((rv_fld (by decide)).trans ((rv_fld (by decide)).trans ((rv_fld (by decide)).trans ((rv_fld (by decide)).trans (hHl)))))))
  refine tn_callSN (M := m_X1_empty) (pc := 49) (ix := 49) (M' := m_X11_put) (As := [.ref xL, .int (iI 0), .int (iI 0)]) (rest := []) dX1_empty_49 ok_X11_put stt_X11_put nl1_49 np_X11_put rfl (Nat.le_of_ble_eq_true rfl) (Nat.le_of_ble_eq_true rfl) rfl (k_X11_put_x (d) (T := T) (σ := σ25) (x := xL) (i := 0) (y := 0) hk35i (by omega) (by decide) (by decide) w31 (nh_k hk35 (by unfold HT; omega)) vok_0) (fun r38 T40 σ39 gt41 hp => ?_)
  obtain ⟨rfl, rfl, w45, F46, f42, f43⟩ := hp
  clear gt41
  show Tn _ _ 52 T σ39 [(0, .ref a), (1, .int (iI r))] [] _
  refine tn_aload_n dX1_empty_52 rfl 0 rfl ?_
  obtain ⟨hk49, hl50⟩ : AR T xn 11 12 12 := ar_of (wf_14 hw ha) hxn
  have hk49i : IA T xn := by unfold IA; omega
  refine tn_getR (ci := 1) (i := 9) (n := 14) (x := xn) dX1_empty_53 rfl lay_1 (by decide) fl1_24 ha rfl rfl (rc_F F46 (Or.inl (by decide)) (by decide) (rc_F F32 (Or.inl (by decide)) (by decide) (rc_F F18 (Or.inl (by decide)) (by decide) (rc_o (by decide) (rc_o (by decide) (rc_o (by decide) (rc_o (by decide) (rc_o (by decide) (hxn))))))))) ?_
  refine tn_iconst dX1_empty_56 ?_
  refine tn_iconst dX1_empty_57 ?_
  have cv51 : σ39.2.1 (1000 + xn) = Hn := (CHX.r f42 (by simp only [List.mem_cons, List.not_mem_nil, or_false, not_or]; exact (hds.ne (i := 3) (j := 2) rfl rfl (by decide)))).trans ((CHX.r f28 (by simp only [List.mem_cons, List.not_mem_nil, or_false, not_or]; exact (hds.ne (i := 3) (j := 1) rfl rfl (by decide)))).trans ((CHX.r f14 (by simp only [List.mem_cons, List.not_mem_nil, or_false, not_or]; exact (hds.ne (i := 3) (j := 0) rfl rfl (by decide)))).trans ((rv_fld (by decide)).trans ((rv_fld (by decide)).trans ((rv_fld (by decide)).trans ((rv_fld (by decide)).trans ((rv_fld (by decide)).trans (hHn))))))))
  refine tn_callSN (M := m_X1_empty) (pc := 58) (ix := 49) (M' := m_X11_put) (As := [.ref xn, .int (iI 0), .int (iI 0)]) (rest := []) dX1_empty_58 ok_X11_put stt_X11_put nl1_49 np_X11_put rfl (Nat.le_of_ble_eq_true rfl) (Nat.le_of_ble_eq_true rfl) rfl (k_X11_put_x (d) (T := T) (σ := σ39) (x := xn) (i := 0) (y := 0) hk49i (by omega) (by decide) (by decide) w45 (nh_k hk49 (by unfold HT; omega)) vok_0) (fun r52 T54 σ53 gt55 hp => ?_)
  obtain ⟨rfl, rfl, w59, F60, f56, f57⟩ := hp
  clear gt55
  show Tn _ _ 61 T σ53 [(0, .ref a), (1, .int (iI r))] [] _
  have cv61 : σ53.2.1 (1000 + xR) = σ11.2.1 (1000 + xR) := (CHX.r f56 (by simp only [List.mem_cons, List.not_mem_nil, or_false, not_or]; exact (hds.ne (i := 0) (j := 3) rfl rfl (by decide)))).trans ((CHX.r f42 (by simp only [List.mem_cons, List.not_mem_nil, or_false, not_or]; exact (hds.ne (i := 0) (j := 2) rfl rfl (by decide)))).trans ((CHX.r f28 (by simp only [List.mem_cons, List.not_mem_nil, or_false, not_or]; exact (hds.ne (i := 0) (j := 1) rfl rfl (by decide)))).trans (rfl)))
  have cv62 : σ53.2.1 (1000 + xP) = σ25.2.1 (1000 + xP) := (CHX.r f56 (by simp only [List.mem_cons, List.not_mem_nil, or_false, not_or]; exact (hds.ne (i := 1) (j := 3) rfl rfl (by decide)))).trans ((CHX.r f42 (by simp only [List.mem_cons, List.not_mem_nil, or_false, not_or]; exact (hds.ne (i := 1) (j := 2) rfl rfl (by decide)))).trans (rfl))
  have cv63 : σ53.2.1 (1000 + xL) = σ39.2.1 (1000 + xL) := (CHX.r f56 (by simp only [List.mem_cons, List.not_mem_nil, or_false, not_or]; exact (hds.ne (i := 2) (j := 3) rfl rfl (by decide)))).trans (rfl)
  exact tn_vret rfl dX1_empty_61 ⟨rfl, rfl, w59, (((((((((FrC.rfl.put (by decide) (by decide)).put (by decide) (by decide)).put (by decide) (by decide)).put (by decide) (by decide)).put (by decide) (by decide)).trans (FrC.sub F18 (by decide))).trans (FrC.sub F32 (by decide))).trans (FrC.sub F46 (by decide))).trans (FrC.sub F60 (by decide))), (((((((((CHX.rfl.fld (by simp) (by decide)).fld (by simp) (by decide)).fld (by simp) (by decide)).fld (by simp) (by decide)).fld (by simp) (by decide)).trans (CHX.sub f14 (by simp) (by simp) (by simp))).trans (CHX.sub f28 (by simp) (by simp) (by simp))).trans (CHX.sub f42 (by simp) (by simp) (by simp))).trans (CHX.sub f56 (by simp) (by simp) (by simp))), ⟨⟨((show σ53.2.1 6 a = 0 from rc_F F60 (Or.inl (by decide)) (by decide) (rc_F F46 (Or.inl (by decide)) (by decide) (rc_F F32 (Or.inl (by decide)) (by decide) (rc_F F18 (Or.inl (by decide)) (by decide) (rc_o (by decide) (rc_o (by decide) (rc_o (by decide) (rc_o (by decide) (ra_eq))))))))).trans (by omega)), ((show σ53.2.1 7 a = 0 from rc_F F60 (Or.inl (by decide)) (by decide) (rc_F F46 (Or.inl (by decide)) (by decide) (rc_F F32 (Or.inl (by decide)) (by decide) (rc_F F18 (Or.inl (by decide)) (by decide) (rc_o (by decide) (rc_o (by decide) (rc_o (by decide) (ra_eq)))))))).trans (by omega)), ((show σ53.2.1 8 a = 0 from rc_F F60 (Or.inl (by decide)) (by decide) (rc_F F46 (Or.inl (by decide)) (by decide) (rc_F F32 (Or.inl (by decide)) (by decide) (rc_F F18 (Or.inl (by decide)) (by decide) (rc_o (by decide) (rc_o (by decide) (ra_eq))))))).trans (by omega)), ((show σ53.2.1 9 a = 0 from rc_F F60 (Or.inl (by decide)) (by decide) (rc_F F46 (Or.inl (by decide)) (by decide) (rc_F F32 (Or.inl (by decide)) (by decide) (rc_F F18 (Or.inl (by decide)) (by decide) (rc_o (by decide) (ra_eq)))))).trans (by omega))⟩, ((show σ53.2.1 10 a = 1 from rc_F F60 (Or.inl (by decide)) (by decide) (rc_F F46 (Or.inl (by decide)) (by decide) (rc_F F32 (Or.inl (by decide)) (by decide) (rc_F F18 (Or.inl (by decide)) (by decide) (ra_eq))))).trans (by omega))⟩, ((congrFun (cv61.trans ((ptf_row f15 ⟨by omega, by omega⟩).trans (by rw [cv9]))) 0).trans uZ_eq), ((congrFun (cv62.trans ((ptf_row f29 ⟨by omega, by omega⟩).trans (by rw [cv23]))) 0).trans uZ_eq), ((congrFun (cv63.trans ((ptf_row f43 ⟨by omega, by omega⟩).trans (by rw [cv37]))) 0).trans uZ_eq), ((congrFun ((ptf_row f57 ⟨by omega, by omega⟩).trans (by rw [cv51])) 0).trans uZ_eq)⟩
end
section
set_option maxHeartbeats 1000000 in
set_option maxRecDepth 20000 in
theorem k_X1_copyFrom_x (d : Nat) {T : CT} {σ : MS} {a : Nat} {p1 : Nat} {x : Nat} {y : Nat} {m : Int} {xR : Nat} {xP : Nat} {xL : Nat} {xn : Nat} {xh : Nat} {yR : Nat} {yP : Nat} {yL : Nat} {yn : Nat} {yh : Nat} (ha : OB T a 1) (hta : (T a).1 = 50) (h_p1 : OB T p1 1) (t_p1 : (T p1).1 = 31) (hw : WT T σ) (hx : σ.2.1 5 a = (x : Int)) (hy : σ.2.1 5 p1 = (y : Int)) (hm : σ.2.1 6 p1 = m) (hxR : σ.2.1 11 a = (xR : Int)) (hxP : σ.2.1 12 a = (xP : Int)) (hxL : σ.2.1 13 a = (xL : Int)) (hxn : σ.2.1 14 a = (xn : Int)) (hxh : σ.2.1 15 a = (xh : Int)) (hyR : σ.2.1 11 p1 = (yR : Int)) (hyP : σ.2.1 12 p1 = (yP : Int)) (hyL : σ.2.1 13 p1 = (yL : Int)) (hyn : σ.2.1 14 p1 = (yn : Int)) (hyh : σ.2.1 15 p1 = (yh : Int)) (hm2 : m ≤ 200) (hap : a ≠ p1) (hds : DS [x, xR, xP, xL, xn, xh, y, yR, yP, yL, yn, yh]) : Tn (d + 3) m_X1_copyFrom 0 T σ [(0, .ref a), (1, .ref p1)] [] (fun ro T2 σ2 => ro = none ∧ WT T2 σ2 ∧ FrC T [5, 6, 7, 8, 9, 10] σ σ2 ∧ (CHN T [(5, a), (6, a), (7, a), (8, a), (9, a), (10, a)] [x, xR, xP, xL, xn, xh] [] σ σ2) ∧ ((σ2.2.1 6 a = m ∧ σ2.2.1 7 a = σ.2.1 7 p1 ∧ σ2.2.1 8 a = σ.2.1 8 p1 ∧ σ2.2.1 9 a = σ.2.1 9 p1) ∧ σ2.2.1 10 a = σ.2.1 10 p1) ∧ (CPQ T σ σ2 a x y m xR xP xL xn xh yR yP yL yn yh)) := by
  have hb8 : OB T p1 1 := ⟨by omega, by rw [t_p1]; rfl, by omega⟩
  have k_x := (cel_of (wf_5 hw ha) hx).2.1 hta
  have k_y := (cel_of (wf_5 hw hb8) hy).2.2 (by omega)
  have n_h := wf_6 hw hb8
  have k_xR := (ar_of (wf_11 hw ha) hxR).1
  have k_xP := (ar_of (wf_12 hw ha) hxP).1
  have k_xL := (ar_of (wf_13 hw ha) hxL).1
  have k_xn := (ar_of (wf_14 hw ha) hxn).1
  have k_xh := (ar_of (wf_15 hw ha) hxh).1
  have k_yR := (ar_of (wf_11 hw hb8) hyR).1
  have k_yP := (ar_of (wf_12 hw hb8) hyP).1
  have k_yL := (ar_of (wf_13 hw hb8) hyL).1
  have k_yn := (ar_of (wf_14 hw hb8) hyn).1
  have k_yh := (ar_of (wf_15 hw hb8) hyh).1
  refine tn_aload_n dX1_copyFrom_0 rfl 0 rfl ?_
  refine tn_aload_n dX1_copyFrom_1 rfl 1 rfl ?_
  refine tn_getI (ci := 1) (i := 1) (n := 6) (t := σ.2.1 6 p1) dX1_copyFrom_2 rfl lay_1 (by decide) fl1_33 h_p1 rfl rfl (rfl) ?_
  have g1 : ((0 : Int) ≤ σ.2.1 6 p1 ∧ σ.2.1 6 p1 ≤ 5000) ∧ ((T p1).1 = 50 → σ.2.1 6 p1 ≤ 200) := wf_6 hw h_p1
  have g1x := g1.2
  replace g1 := g1.1
  clear g1x
  obtain ⟨hl5, hk4a, hk4b⟩ := cel_of (wf_5 hw ha) hx
  have hk4 : (T x).1 = 1 := hk4a (by omega)
  clear hk4a hk4b
  have hk4i : IA T x := by unfold IA; omega
  refine tn_callV (M := m_X1_copyFrom) (pc := 5) (ix := 76) (ci := 1) (M' := m_X1_holdRows) (As := [.int (iI (σ.2.1 6 p1))]) (rest := []) dX1_copyFrom_5 ok_X1_holdRows im_X1_holdRows se_X1_holdRows ml1_76 np_X1_holdRows rfl rfl ha rfl (Nat.le_of_ble_eq_true rfl) (Nat.le_of_ble_eq_true rfl) rfl (k_X1_holdRows_x (d) (T := T) (σ := σ) (a := a) (m := σ.2.1 6 p1) (x := x) ha hta (by omega) hw (hx) (by omega)) (fun r6 T8 σ7 gt9 hp => ?_)
  obtain ⟨v14, rfl, w15, F16, f10, f11, f12, f13⟩ := hp
  replace ha : OB T8 a 1 := gt9.ob ha
  replace hta : (T8 a).1 = 50 := gt9.kk hta (by decide) (by decide)
  replace t_p1 : (T8 p1).1 = 31 := gt9.kk t_p1 (by decide) (by decide)
  replace h_p1 : OB T8 p1 1 := gt9.ob h_p1
  show Tn _ _ 8 T8 σ7 [(0, .ref a), (1, .ref p1)] [.int (iI v14)] _
  refine tn_if_ne (tgt := 12) dX1_copyFrom_8 (by decide) ⟨by omega, by omega⟩ (fun h17 => ?_) (fun h17 => ?_)
  · obtain ⟨x29, e59, ex9, el9, ec9⟩ := f13
    obtain ⟨x18, hx19, hl21, hk20a, hk20b⟩ := wf_5 w15 ha
    have hk20 : (T8 x18).1 = 1 := hk20a (by omega)
    clear hk20a hk20b
    have hk20i : IA T8 x18 := by unfold IA; omega
    have e29 : x29 = x18 := by have z : σ7.2.1 5 a = (x18 : Int) := hx19; omega
    rw [e29] at ex9 el9 ec9
    have g69 : σ7.2.1 6 p1 = m := rc_F F16 (Or.inl (by decide)) (by decide) (hm)
    have g79 : σ7.2.1 7 p1 = σ.2.1 7 p1 := rc_F F16 (Or.inl (by decide)) (by decide) (rfl)
    have g89 : σ7.2.1 8 p1 = σ.2.1 8 p1 := rc_F F16 (Or.inl (by decide)) (by decide) (rfl)
    have g99 : σ7.2.1 9 p1 = σ.2.1 9 p1 := rc_F F16 (Or.inl (by decide)) (by decide) (rfl)
    have g109 : σ7.2.1 10 p1 = σ.2.1 10 p1 := rc_F F16 (Or.inl (by decide)) (by decide) (rfl)
    refine tn_aload_n dX1_copyFrom_12 rfl 0 rfl ?_
    refine tn_aload_n dX1_copyFrom_13 rfl 1 rfl ?_
    refine tn_getI (ci := 1) (i := 1) (n := 6) (t := σ7.2.1 6 p1) dX1_copyFrom_14 rfl lay_1 (by decide) fl1_33 h_p1 rfl rfl (rfl) ?_
    have g22 : ((0 : Int) ≤ σ7.2.1 6 p1 ∧ σ7.2.1 6 p1 ≤ 5000) ∧ ((T8 p1).1 = 50 → σ7.2.1 6 p1 ≤ 200) := wf_6 w15 h_p1
    have g22x := g22.2
    replace g22 := g22.1
    clear g22x
    refine tn_putV (ci := 1) (i := 1) (n := 6) (r := false) (v := σ7.2.1 6 p1) tyX1 tyX1_ok nmX1 dX1_copyFrom_17 rfl lay_1 (by decide) fl1_33 rfl (tyX1_ok 1 (by decide)) rfl rfl rfl ha rfl rfl ?_
    refine tn_aload_n dX1_copyFrom_20 rfl 0 rfl ?_
    refine tn_aload_n dX1_copyFrom_21 rfl 1 rfl ?_
    refine tn_getI (ci := 1) (i := 2) (n := 7) (t := σ7.2.1 7 p1) dX1_copyFrom_22 rfl lay_1 (by decide) fl1_37 h_p1 rfl rfl (rc_o (by decide) (rfl)) ?_
    have g23 : ((0 : Int) ≤ σ7.2.1 7 p1 ∧ σ7.2.1 7 p1 ≤ 12) := wf_7 w15 h_p1
    refine tn_putV (ci := 1) (i := 2) (n := 7) (r := false) (v := σ7.2.1 7 p1) tyX1 tyX1_ok nmX1 dX1_copyFrom_25 rfl lay_1 (by decide) fl1_37 rfl (tyX1_ok 2 (by decide)) rfl rfl rfl ha rfl rfl ?_
    refine tn_aload_n dX1_copyFrom_28 rfl 0 rfl ?_
    refine tn_aload_n dX1_copyFrom_29 rfl 1 rfl ?_
    refine tn_getI (ci := 1) (i := 3) (n := 8) (t := σ7.2.1 8 p1) dX1_copyFrom_30 rfl lay_1 (by decide) fl1_40 h_p1 rfl rfl (rc_o (by decide) (rc_o (by decide) (rfl))) ?_
    have g24 : ((0 : Int) ≤ σ7.2.1 8 p1 ∧ σ7.2.1 8 p1 ≤ 4) := wf_8 w15 h_p1
    refine tn_putV (ci := 1) (i := 3) (n := 8) (r := false) (v := σ7.2.1 8 p1) tyX1 tyX1_ok nmX1 dX1_copyFrom_33 rfl lay_1 (by decide) fl1_40 rfl (tyX1_ok 3 (by decide)) rfl rfl rfl ha rfl rfl ?_
    refine tn_aload_n dX1_copyFrom_36 rfl 0 rfl ?_
    refine tn_aload_n dX1_copyFrom_37 rfl 1 rfl ?_
    refine tn_getI (ci := 1) (i := 4) (n := 9) (t := σ7.2.1 9 p1) dX1_copyFrom_38 rfl lay_1 (by decide) fl1_43 h_p1 rfl rfl (rc_o (by decide) (rc_o (by decide) (rc_o (by decide) (rfl)))) ?_
    have g25 : ((-2147483648 : Int) ≤ σ7.2.1 9 p1 ∧ σ7.2.1 9 p1 ≤ 2147483647) := wf_9 w15 h_p1
    refine tn_putV (ci := 1) (i := 4) (n := 9) (r := false) (v := σ7.2.1 9 p1) tyX1 tyX1_ok nmX1 dX1_copyFrom_41 rfl lay_1 (by decide) fl1_43 rfl (tyX1_ok 4 (by decide)) rfl rfl rfl ha rfl rfl ?_
    refine tn_aload_n dX1_copyFrom_44 rfl 0 rfl ?_
    refine tn_aload_n dX1_copyFrom_45 rfl 1 rfl ?_
    refine tn_getI (ci := 1) (i := 5) (n := 10) (t := σ7.2.1 10 p1) dX1_copyFrom_46 rfl lay_1 (by decide) fl1_46 h_p1 rfl rfl (rc_o (by decide) (rc_o (by decide) (rc_o (by decide) (rc_o (by decide) (rfl))))) ?_
    have g26 : ((0 : Int) ≤ σ7.2.1 10 p1 ∧ σ7.2.1 10 p1 ≤ 12) := wf_10 w15 h_p1
    refine tn_putV (ci := 1) (i := 5) (n := 10) (r := false) (v := σ7.2.1 10 p1) tyX1 tyX1_ok nmX1 dX1_copyFrom_49 rfl lay_1 (by decide) fl1_46 rfl (tyX1_ok 5 (by decide)) rfl rfl rfl ha rfl rfl ?_
    obtain ⟨σ27, h28⟩ : ∃ s, s = (sA 10 a (σ7.2.1 10 p1) (sA 9 a (σ7.2.1 9 p1) (sA 8 a (σ7.2.1 8 p1) (sA 7 a (σ7.2.1 7 p1) (sA 6 a (σ7.2.1 6 p1) σ7))))) := ⟨_, rfl⟩
    rw [← h28]
    have w29 : WT T8 σ27 := by rw [h28]; exact (((((w15.put6 (hx19) (fo_6 ⟨by omega, by omega⟩) (by omega)).put (by decide) (by decide) (fo_7 (by omega))).put (by decide) (by decide) (fo_8 (by omega))).put (by decide) (by decide) (fo_9 (by omega))).put (by decide) (by decide) (fo_10 (by omega)))
    have F30 : FrC T [6, 7, 8, 9, 10] σ7 σ27 := by rw [h28]; exact (((((FrC.rfl.put (by decide) (by decide)).put (by decide) (by decide)).put (by decide) (by decide)).put (by decide) (by decide)).put (by decide) (by decide))
    have c31 : CHX [(6, a), (7, a), (8, a), (9, a), (10, a)] [] [] σ7 σ27 := by rw [h28]; exact (((((CHX.rfl.fld (by simp) (by decide)).fld (by simp) (by decide)).fld (by simp) (by decide)).fld (by simp) (by decide)).fld (by simp) (by decide))
    have σ27q6 : σ27.2.1 6 a = σ7.2.1 6 p1 := by rw [h28]; exact rc_o (by decide) (rc_o (by decide) (rc_o (by decide) (rc_o (by decide) (ra_eq))))
    have σ27q7 : σ27.2.1 7 a = σ7.2.1 7 p1 := by rw [h28]; exact rc_o (by decide) (rc_o (by decide) (rc_o (by decide) (ra_eq)))
    have σ27q8 : σ27.2.1 8 a = σ7.2.1 8 p1 := by rw [h28]; exact rc_o (by decide) (rc_o (by decide) (ra_eq))
    have σ27q9 : σ27.2.1 9 a = σ7.2.1 9 p1 := by rw [h28]; exact rc_o (by decide) (ra_eq)
    have σ27q10 : σ27.2.1 10 a = σ7.2.1 10 p1 := by rw [h28]; exact ra_eq
    have s69 : ∀ z : Nat, σ27.2.1 (1000 + z) = σ7.2.1 (1000 + z) := fun z => c31.2.1 z (by simp)
    obtain ⟨x32, hx33, hk34, hl35⟩ : ∃ x : Nat, σ7.2.1 11 a = (x : Int) ∧ AR T8 x 1 12 12 := wf_11 w15 ha
    have hk34i : IA T8 x32 := by unfold IA; omega
    have exR9 : x32 = xR := by have z1 : σ27.2.1 11 a = (x32 : Int) := (rc_F F30 (Or.inl (by decide)) (by decide) (hx33)); have z2 : σ27.2.1 11 a = (xR : Int) := rc_F F30 (Or.inl (by decide)) (by decide) (rc_F F16 (Or.inl (by decide)) (by decide) (hxR)); omega
    obtain ⟨x36, hx37, hk38, hl39⟩ : ∃ x : Nat, σ7.2.1 12 a = (x : Int) ∧ AR T8 x 1 12 12 := wf_12 w15 ha
    have hk38i : IA T8 x36 := by unfold IA; omega
    have exP9 : x36 = xP := by have z1 : σ27.2.1 12 a = (x36 : Int) := (rc_F F30 (Or.inl (by decide)) (by decide) (hx37)); have z2 : σ27.2.1 12 a = (xP : Int) := rc_F F30 (Or.inl (by decide)) (by decide) (rc_F F16 (Or.inl (by decide)) (by decide) (hxP)); omega
    obtain ⟨x40, hx41, hk42, hl43⟩ : ∃ x : Nat, σ7.2.1 13 a = (x : Int) ∧ AR T8 x 1 12 12 := wf_13 w15 ha
    have hk42i : IA T8 x40 := by unfold IA; omega
    have exL9 : x40 = xL := by have z1 : σ27.2.1 13 a = (x40 : Int) := (rc_F F30 (Or.inl (by decide)) (by decide) (hx41)); have z2 : σ27.2.1 13 a = (xL : Int) := rc_F F30 (Or.inl (by decide)) (by decide) (rc_F F16 (Or.inl (by decide)) (by decide) (hxL)); omega
    obtain ⟨x44, hx45, hk46, hl47⟩ : ∃ x : Nat, σ7.2.1 14 a = (x : Int) ∧ AR T8 x 11 12 12 := wf_14 w15 ha
    have hk46i : IA T8 x44 := by unfold IA; omega
    have exn9 : x44 = xn := by have z1 : σ27.2.1 14 a = (x44 : Int) := (rc_F F30 (Or.inl (by decide)) (by decide) (hx45)); have z2 : σ27.2.1 14 a = (xn : Int) := rc_F F30 (Or.inl (by decide)) (by decide) (rc_F F16 (Or.inl (by decide)) (by decide) (hxn)); omega
    obtain ⟨x48, hx49, hk50, hl51⟩ : ∃ x : Nat, σ7.2.1 15 a = (x : Int) ∧ AR T8 x 1 144 144 := wf_15 w15 ha
    have hk50i : IA T8 x48 := by unfold IA; omega
    have exh9 : x48 = xh := by have z1 : σ27.2.1 15 a = (x48 : Int) := (rc_F F30 (Or.inl (by decide)) (by decide) (hx49)); have z2 : σ27.2.1 15 a = (xh : Int) := rc_F F30 (Or.inl (by decide)) (by decide) (rc_F F16 (Or.inl (by decide)) (by decide) (hxh)); omega
    obtain ⟨x52, hx53, hl55, hk54a, hk54b⟩ := wf_5 w15 h_p1
    have hk54 : (T8 x52).1 = 13 := hk54b (by omega)
    clear hk54a hk54b
    have hk54i : IA T8 x52 := by unfold IA; omega
    have ey9 : x52 = y := by have z1 : σ27.2.1 5 p1 = (x52 : Int) := (rc_F F30 (Or.inl (by decide)) (by decide) (hx53)); have z2 : σ27.2.1 5 p1 = (y : Int) := rc_F F30 (Or.inl (by decide)) (by decide) (Eq.trans (CHN.f (a := p1) f11 (by decide) (by first | (simp; done) | (simp; omega))) (hy)); omega
    obtain ⟨x56, hx57, hk58, hl59⟩ : ∃ x : Nat, σ7.2.1 11 p1 = (x : Int) ∧ AR T8 x 1 12 12 := wf_11 w15 h_p1
    have hk58i : IA T8 x56 := by unfold IA; omega
    have eyR9 : x56 = yR := by have z1 : σ27.2.1 11 p1 = (x56 : Int) := (rc_F F30 (Or.inl (by decide)) (by decide) (hx57)); have z2 : σ27.2.1 11 p1 = (yR : Int) := rc_F F30 (Or.inl (by decide)) (by decide) (rc_F F16 (Or.inl (by decide)) (by decide) (hyR)); omega
    obtain ⟨x60, hx61, hk62, hl63⟩ : ∃ x : Nat, σ7.2.1 12 p1 = (x : Int) ∧ AR T8 x 1 12 12 := wf_12 w15 h_p1
    have hk62i : IA T8 x60 := by unfold IA; omega
    have eyP9 : x60 = yP := by have z1 : σ27.2.1 12 p1 = (x60 : Int) := (rc_F F30 (Or.inl (by decide)) (by decide) (hx61)); have z2 : σ27.2.1 12 p1 = (yP : Int) := rc_F F30 (Or.inl (by decide)) (by decide) (rc_F F16 (Or.inl (by decide)) (by decide) (hyP)); omega
    obtain ⟨x64, hx65, hk66, hl67⟩ : ∃ x : Nat, σ7.2.1 13 p1 = (x : Int) ∧ AR T8 x 1 12 12 := wf_13 w15 h_p1
    have hk66i : IA T8 x64 := by unfold IA; omega
    have eyL9 : x64 = yL := by have z1 : σ27.2.1 13 p1 = (x64 : Int) := (rc_F F30 (Or.inl (by decide)) (by decide) (hx65)); have z2 : σ27.2.1 13 p1 = (yL : Int) := rc_F F30 (Or.inl (by decide)) (by decide) (rc_F F16 (Or.inl (by decide)) (by decide) (hyL)); omega
    obtain ⟨x68, hx69, hk70, hl71⟩ : ∃ x : Nat, σ7.2.1 14 p1 = (x : Int) ∧ AR T8 x 11 12 12 := wf_14 w15 h_p1
    have hk70i : IA T8 x68 := by unfold IA; omega
    have eyn9 : x68 = yn := by have z1 : σ27.2.1 14 p1 = (x68 : Int) := (rc_F F30 (Or.inl (by decide)) (by decide) (hx69)); have z2 : σ27.2.1 14 p1 = (yn : Int) := rc_F F30 (Or.inl (by decide)) (by decide) (rc_F F16 (Or.inl (by decide)) (by decide) (hyn)); omega
    obtain ⟨x72, hx73, hk74, hl75⟩ : ∃ x : Nat, σ7.2.1 15 p1 = (x : Int) ∧ AR T8 x 1 144 144 := wf_15 w15 h_p1
    have hk74i : IA T8 x72 := by unfold IA; omega
    have eyh9 : x72 = yh := by have z1 : σ27.2.1 15 p1 = (x72 : Int) := (rc_F F30 (Or.inl (by decide)) (by decide) (hx73)); have z2 : σ27.2.1 15 p1 = (yh : Int) := rc_F F30 (Or.inl (by decide)) (by decide) (rc_F F16 (Or.inl (by decide)) (by decide) (hyh)); omega
    have g76 : 13 * σ7.2.1 6 p1 ≤ ((T8 x52).2 : Int) ∨ 2600 ≤ (T8 x52).2 := w15.2.1 p1 x52 h_p1 hx53
    have hd9 : DS [x18, x32, x36, x40, x44, x48, x52, x56, x60, x64, x68, x72] := by rw [exR9, exP9, exL9, exn9, exh9, ey9, eyR9, eyP9, eyL9, eyn9, eyh9]; exact hds.fr ex9 (fun z q => by simp only [List.mem_cons, List.not_mem_nil, or_false] at q; rcases q with rfl | rfl | rfl | rfl | rfl | rfl | rfl | rfl | rfl | rfl | rfl <;> omega)
    refine tn_aload_n dX1_copyFrom_52 rfl 1 rfl ?_
    refine tn_getR (ci := 1) (i := 0) (n := 5) (x := x52) dX1_copyFrom_53 rfl lay_1 (by decide) fl1_9 h_p1 rfl rfl (rc_F F30 (Or.inl (by decide)) (by decide) (hx53)) ?_
    refine tn_iconst dX1_copyFrom_56 ?_
    refine tn_aload_n dX1_copyFrom_57 rfl 0 rfl ?_
    refine tn_getR (ci := 1) (i := 0) (n := 5) (x := x18) dX1_copyFrom_58 rfl lay_1 (by decide) fl1_9 ha rfl rfl (rc_F F30 (Or.inl (by decide)) (by decide) (hx19)) ?_
    refine tn_iconst dX1_copyFrom_61 ?_
    refine tn_aload_n dX1_copyFrom_62 rfl 0 rfl ?_
    refine tn_getI (ci := 1) (i := 1) (n := 6) (t := σ27.2.1 6 a) dX1_copyFrom_63 rfl lay_1 (by decide) fl1_33 ha rfl rfl (rfl) ?_
    have g77 : ((0 : Int) ≤ σ27.2.1 6 a ∧ σ27.2.1 6 a ≤ 5000) ∧ ((T8 a).1 = 50 → σ27.2.1 6 a ≤ 200) := wf_6 w29 ha
    have g77x := g77.2
    replace g77 := g77.1
    have g77x := g77x hta
    refine tn_bipush dX1_copyFrom_66 (by decide) ?_
    refine tn_imul dX1_copyFrom_68 ?_
    refine tn_acopyI (a := x52) (b := x18) (sp := 0) (dp := 0) (n := (σ27.2.1 6 a) * 13) dX1_copyFrom_69 mla1_80 acNat acSt acIni hk54i hk20i ⟨by omega, by omega⟩ (by omega) (by omega) (by omega) (by omega) (by omega) (by omega) (Nat.le_of_ble_eq_true rfl) ?_
    obtain ⟨σ78, h79⟩ : ∃ s, s = (rowS (1000 + x18) (cpZ (σ27.2.1 (1000 + x52)) (σ27.2.1 (1000 + x18)) (0) (0) ((σ27.2.1 6 a) * 13)) σ27) := ⟨_, rfl⟩
    rw [← h79]
    have w80 : WT T8 σ78 := by rw [h79]; exact (w29.row (Or.inl hk20i) (vok_cp1 w29 hk54i hk20i (by have q9 := hk20; omega)))
    have F81 : FrC T [] σ27 σ78 := by rw [h79]; exact (FrC.rfl.row (hk_no (GT.nh gt9 (nh_k hk20 (by unfold HT; omega)))))
    have c82 : CHX [] [x18] [] σ27 σ78 := by rw [h79]; exact (CHX.rfl.row (by simp))
    refine tn_aload_n dX1_copyFrom_72 rfl 1 rfl ?_
    refine tn_getR (ci := 1) (i := 6) (n := 11) (x := x56) dX1_copyFrom_73 rfl lay_1 (by decide) fl1_15 h_p1 rfl rfl (rc_F F81 (Or.inl (by decide)) (by decide) (rc_F F30 (Or.inl (by decide)) (by decide) (hx57))) ?_
    refine tn_iconst dX1_copyFrom_76 ?_
    refine tn_aload_n dX1_copyFrom_77 rfl 0 rfl ?_
    refine tn_getR (ci := 1) (i := 6) (n := 11) (x := x32) dX1_copyFrom_78 rfl lay_1 (by decide) fl1_15 ha rfl rfl (rc_F F81 (Or.inl (by decide)) (by decide) (rc_F F30 (Or.inl (by decide)) (by decide) (hx33))) ?_
    refine tn_iconst dX1_copyFrom_81 ?_
    refine tn_bipush dX1_copyFrom_82 (by decide) ?_
    refine tn_acopyI (a := x56) (b := x32) (sp := 0) (dp := 0) (n := 12) dX1_copyFrom_84 mla1_80 acNat acSt acIni hk58i hk34i ⟨by omega, by omega⟩ (by omega) (by omega) (by omega) (by omega) (by omega) (by omega) (Nat.le_of_ble_eq_true rfl) ?_
    obtain ⟨σ83, h84⟩ : ∃ s, s = (rowS (1000 + x32) (cpZ (σ78.2.1 (1000 + x56)) (σ78.2.1 (1000 + x32)) (0) (0) (12)) σ78) := ⟨_, rfl⟩
    rw [← h84]
    have w85 : WT T8 σ83 := by rw [h84]; exact (w80.row (Or.inl hk34i) (vok_cp1 w80 hk58i hk34i (by have q9 := hk34; omega)))
    have F86 : FrC T [] σ78 σ83 := by rw [h84]; exact (FrC.rfl.row (hk_no (GT.nh gt9 (nh_k hk34 (by unfold HT; omega)))))
    have c87 : CHX [] [x32] [] σ78 σ83 := by rw [h84]; exact (CHX.rfl.row (by simp))
    refine tn_aload_n dX1_copyFrom_87 rfl 1 rfl ?_
    refine tn_getR (ci := 1) (i := 7) (n := 12) (x := x60) dX1_copyFrom_88 rfl lay_1 (by decide) fl1_18 h_p1 rfl rfl (rc_F F86 (Or.inl (by decide)) (by decide) (rc_F F81 (Or.inl (by decide)) (by decide) (rc_F F30 (Or.inl (by decide)) (by decide) (hx61)))) ?_
    refine tn_iconst dX1_copyFrom_91 ?_
    refine tn_aload_n dX1_copyFrom_92 rfl 0 rfl ?_
    refine tn_getR (ci := 1) (i := 7) (n := 12) (x := x36) dX1_copyFrom_93 rfl lay_1 (by decide) fl1_18 ha rfl rfl (rc_F F86 (Or.inl (by decide)) (by decide) (rc_F F81 (Or.inl (by decide)) (by decide) (rc_F F30 (Or.inl (by decide)) (by decide) (hx37)))) ?_
    refine tn_iconst dX1_copyFrom_96 ?_
    refine tn_bipush dX1_copyFrom_97 (by decide) ?_
    refine tn_acopyI (a := x60) (b := x36) (sp := 0) (dp := 0) (n := 12) dX1_copyFrom_99 mla1_80 acNat acSt acIni hk62i hk38i ⟨by omega, by omega⟩ (by omega) (by omega) (by omega) (by omega) (by omega) (by omega) (Nat.le_of_ble_eq_true rfl) ?_
    obtain ⟨σ88, h89⟩ : ∃ s, s = (rowS (1000 + x36) (cpZ (σ83.2.1 (1000 + x60)) (σ83.2.1 (1000 + x36)) (0) (0) (12)) σ83) := ⟨_, rfl⟩
    rw [← h89]
    have w90 : WT T8 σ88 := by rw [h89]; exact (w85.row (Or.inl hk38i) (vok_cp1 w85 hk62i hk38i (by have q9 := hk38; omega)))
    have F91 : FrC T [] σ83 σ88 := by rw [h89]; exact (FrC.rfl.row (hk_no (GT.nh gt9 (nh_k hk38 (by unfold HT; omega)))))
    have c92 : CHX [] [x36] [] σ83 σ88 := by rw [h89]; exact (CHX.rfl.row (by simp))
    refine tn_aload_n dX1_copyFrom_102 rfl 1 rfl ?_
    refine tn_getR (ci := 1) (i := 8) (n := 13) (x := x64) dX1_copyFrom_103 rfl lay_1 (by decide) fl1_21 h_p1 rfl rfl (rc_F F91 (Or.inl (by decide)) (by decide) (rc_F F86 (Or.inl (by decide)) (by decide) (rc_F F81 (Or.inl (by decide)) (by decide) (rc_F F30 (Or.inl (by decide)) (by decide) (hx65))))) ?_
    refine tn_iconst dX1_copyFrom_106 ?_
    refine tn_aload_n dX1_copyFrom_107 rfl 0 rfl ?_
    refine tn_getR (ci := 1) (i := 8) (n := 13) (x := x40) dX1_copyFrom_108 rfl lay_1 (by decide) fl1_21 ha rfl rfl (rc_F F91 (Or.inl (by decide)) (by decide) (rc_F F86 (Or.inl (by decide)) (by decide) (rc_F F81 (Or.inl (by decide)) (by decide) (rc_F F30 (Or.inl (by decide)) (by decide) (hx41))))) ?_
    refine tn_iconst dX1_copyFrom_111 ?_
    refine tn_bipush dX1_copyFrom_112 (by decide) ?_
    refine tn_acopyI (a := x64) (b := x40) (sp := 0) (dp := 0) (n := 12) dX1_copyFrom_114 mla1_80 acNat acSt acIni hk66i hk42i ⟨by omega, by omega⟩ (by omega) (by omega) (by omega) (by omega) (by omega) (by omega) (Nat.le_of_ble_eq_true rfl) ?_
    obtain ⟨σ93, h94⟩ : ∃ s, s = (rowS (1000 + x40) (cpZ (σ88.2.1 (1000 + x64)) (σ88.2.1 (1000 + x40)) (0) (0) (12)) σ88) := ⟨_, rfl⟩
    rw [← h94]
    have w95 : WT T8 σ93 := by rw [h94]; exact (w90.row (Or.inl hk42i) (vok_cp1 w90 hk66i hk42i (by have q9 := hk42; omega)))
    have F96 : FrC T [] σ88 σ93 := by rw [h94]; exact (FrC.rfl.row (hk_no (GT.nh gt9 (nh_k hk42 (by unfold HT; omega)))))
    have c97 : CHX [] [x40] [] σ88 σ93 := by rw [h94]; exact (CHX.rfl.row (by simp))
    refine tn_aload_n dX1_copyFrom_117 rfl 1 rfl ?_
    refine tn_getR (ci := 1) (i := 9) (n := 14) (x := x68) dX1_copyFrom_118 rfl lay_1 (by decide) fl1_24 h_p1 rfl rfl (rc_F F96 (Or.inl (by decide)) (by decide) (rc_F F91 (Or.inl (by decide)) (by decide) (rc_F F86 (Or.inl (by decide)) (by decide) (rc_F F81 (Or.inl (by decide)) (by decide) (rc_F F30 (Or.inl (by decide)) (by decide) (hx69)))))) ?_
    refine tn_iconst dX1_copyFrom_121 ?_
    refine tn_aload_n dX1_copyFrom_122 rfl 0 rfl ?_
    refine tn_getR (ci := 1) (i := 9) (n := 14) (x := x44) dX1_copyFrom_123 rfl lay_1 (by decide) fl1_24 ha rfl rfl (rc_F F96 (Or.inl (by decide)) (by decide) (rc_F F91 (Or.inl (by decide)) (by decide) (rc_F F86 (Or.inl (by decide)) (by decide) (rc_F F81 (Or.inl (by decide)) (by decide) (rc_F F30 (Or.inl (by decide)) (by decide) (hx45)))))) ?_
    refine tn_iconst dX1_copyFrom_126 ?_
    refine tn_bipush dX1_copyFrom_127 (by decide) ?_
    refine tn_acopyI (a := x68) (b := x44) (sp := 0) (dp := 0) (n := 12) dX1_copyFrom_129 mla1_80 acNat acSt acIni hk70i hk46i ⟨by omega, by omega⟩ (by omega) (by omega) (by omega) (by omega) (by omega) (by omega) (Nat.le_of_ble_eq_true rfl) ?_
    obtain ⟨σ98, h99⟩ : ∃ s, s = (rowS (1000 + x44) (cpZ (σ93.2.1 (1000 + x68)) (σ93.2.1 (1000 + x44)) (0) (0) (12)) σ93) := ⟨_, rfl⟩
    rw [← h99]
    have w100 : WT T8 σ98 := by rw [h99]; exact (w95.row (Or.inl hk46i) (vok_cp11 w95 hk70 hk46))
    have F101 : FrC T [] σ93 σ98 := by rw [h99]; exact (FrC.rfl.row (hk_no (GT.nh gt9 (nh_k hk46 (by unfold HT; omega)))))
    have c102 : CHX [] [x44] [] σ93 σ98 := by rw [h99]; exact (CHX.rfl.row (by simp))
    refine tn_aload_n dX1_copyFrom_132 rfl 1 rfl ?_
    refine tn_getR (ci := 1) (i := 10) (n := 15) (x := x72) dX1_copyFrom_133 rfl lay_1 (by decide) fl1_27 h_p1 rfl rfl (rc_F F101 (Or.inl (by decide)) (by decide) (rc_F F96 (Or.inl (by decide)) (by decide) (rc_F F91 (Or.inl (by decide)) (by decide) (rc_F F86 (Or.inl (by decide)) (by decide) (rc_F F81 (Or.inl (by decide)) (by decide) (rc_F F30 (Or.inl (by decide)) (by decide) (hx73))))))) ?_
    refine tn_iconst dX1_copyFrom_136 ?_
    refine tn_aload_n dX1_copyFrom_137 rfl 0 rfl ?_
    refine tn_getR (ci := 1) (i := 10) (n := 15) (x := x48) dX1_copyFrom_138 rfl lay_1 (by decide) fl1_27 ha rfl rfl (rc_F F101 (Or.inl (by decide)) (by decide) (rc_F F96 (Or.inl (by decide)) (by decide) (rc_F F91 (Or.inl (by decide)) (by decide) (rc_F F86 (Or.inl (by decide)) (by decide) (rc_F F81 (Or.inl (by decide)) (by decide) (rc_F F30 (Or.inl (by decide)) (by decide) (hx49))))))) ?_
    refine tn_iconst dX1_copyFrom_141 ?_
    refine tn_sipush dX1_copyFrom_142 (by decide) ?_
    refine tn_acopyI (a := x72) (b := x48) (sp := 0) (dp := 0) (n := 144) dX1_copyFrom_145 mla1_80 acNat acSt acIni hk74i hk50i ⟨by omega, by omega⟩ (by omega) (by omega) (by omega) (by omega) (by omega) (by omega) (Nat.le_of_ble_eq_true rfl) ?_
    obtain ⟨σ103, h104⟩ : ∃ s, s = (rowS (1000 + x48) (cpZ (σ98.2.1 (1000 + x72)) (σ98.2.1 (1000 + x48)) (0) (0) (144)) σ98) := ⟨_, rfl⟩
    rw [← h104]
    have w105 : WT T8 σ103 := by rw [h104]; exact (w100.row (Or.inl hk50i) (vok_cp1 w100 hk74i hk50i (by have q9 := hk50; omega)))
    have F106 : FrC T [] σ98 σ103 := by rw [h104]; exact (FrC.rfl.row (hk_no (GT.nh gt9 (nh_k hk50 (by unfold HT; omega)))))
    have c107 : CHX [] [x48] [] σ98 σ103 := by rw [h104]; exact (CHX.rfl.row (by simp))
    have c69 := cp6 (s := σ27) hd9 h79 h84 h89 h94 h99 h104
    exact tn_vret rfl dX1_copyFrom_148 ⟨rfl, w105, ((((((((FrC.rfl.trans (FrC.sub F16 (by decide))).trans (FrC.sub F30 (by decide))).trans (FrC.sub F81 (by decide))).trans (FrC.sub F86 (by decide))).trans (FrC.sub F91 (by decide))).trans (FrC.sub F96 (by decide))).trans (FrC.sub F101 (by decide))).trans (FrC.sub F106 (by decide))), ((((((((CHN.rfl.trans (CHN.sub f11 (by simp) (by simp) (by simp))).trans (CHN.of c31 (by simp) (fun z q => Or.inl (by revert q; simp; try omega)) (by simp))).trans (CHN.of c82 (by simp) (fun z q => by rw [List.mem_singleton.mp q]; exact (ex9.imp (fun e => by rw [e]; simp) id)) (by simp))).trans (CHN.of c87 (by simp) (fun z q => by rw [List.mem_singleton.mp q]; exact (Or.inl (by rw [exR9]; simp))) (by simp))).trans (CHN.of c92 (by simp) (fun z q => by rw [List.mem_singleton.mp q]; exact (Or.inl (by rw [exP9]; simp))) (by simp))).trans (CHN.of c97 (by simp) (fun z q => by rw [List.mem_singleton.mp q]; exact (Or.inl (by rw [exL9]; simp))) (by simp))).trans (CHN.of c102 (by simp) (fun z q => by rw [List.mem_singleton.mp q]; exact (Or.inl (by rw [exn9]; simp))) (by simp))).trans (CHN.of c107 (by simp) (fun z q => by rw [List.mem_singleton.mp q]; exact (Or.inl (by rw [exh9]; simp))) (by simp))), ⟨⟨((show σ103.2.1 6 a = σ27.2.1 6 a from rc_F F106 (Or.inl (by decide)) (by decide) (rc_F F101 (Or.inl (by decide)) (by decide) (rc_F F96 (Or.inl (by decide)) (by decide) (rc_F F91 (Or.inl (by decide)) (by decide) (rc_F F86 (Or.inl (by decide)) (by decide) (rc_F F81 (Or.inl (by decide)) (by decide) (rfl))))))).trans (by omega)), ((show σ103.2.1 7 a = σ27.2.1 7 a from rc_F F106 (Or.inl (by decide)) (by decide) (rc_F F101 (Or.inl (by decide)) (by decide) (rc_F F96 (Or.inl (by decide)) (by decide) (rc_F F91 (Or.inl (by decide)) (by decide) (rc_F F86 (Or.inl (by decide)) (by decide) (rc_F F81 (Or.inl (by decide)) (by decide) (rfl))))))).trans (by omega)), ((show σ103.2.1 8 a = σ27.2.1 8 a from rc_F F106 (Or.inl (by decide)) (by decide) (rc_F F101 (Or.inl (by decide)) (by decide) (rc_F F96 (Or.inl (by decide)) (by decide) (rc_F F91 (Or.inl (by decide)) (by decide) (rc_F F86 (Or.inl (by decide)) (by decide) (rc_F F81 (Or.inl (by decide)) (by decide) (rfl))))))).trans (by omega)), ((show σ103.2.1 9 a = σ27.2.1 9 a from rc_F F106 (Or.inl (by decide)) (by decide) (rc_F F101 (Or.inl (by decide)) (by decide) (rc_F F96 (Or.inl (by decide)) (by decide) (rc_F F91 (Or.inl (by decide)) (by decide) (rc_F F86 (Or.inl (by decide)) (by decide) (rc_F F81 (Or.inl (by decide)) (by decide) (rfl))))))).trans (by omega))⟩, ((show σ103.2.1 10 a = σ27.2.1 10 a from rc_F F106 (Or.inl (by decide)) (by decide) (rc_F F101 (Or.inl (by decide)) (by decide) (rc_F F96 (Or.inl (by decide)) (by decide) (rc_F F91 (Or.inl (by decide)) (by decide) (rc_F F86 (Or.inl (by decide)) (by decide) (rc_F F81 (Or.inl (by decide)) (by decide) (rfl))))))).trans (by omega))⟩, ⟨x18, rc_F F106 (Or.inl (by decide)) (by decide) (rc_F F101 (Or.inl (by decide)) (by decide) (rc_F F96 (Or.inl (by decide)) (by decide) (rc_F F91 (Or.inl (by decide)) (by decide) (rc_F F86 (Or.inl (by decide)) (by decide) (rc_F F81 (Or.inl (by decide)) (by decide) (rc_F F30 (Or.inl (by decide)) (by decide) (hx19))))))), ex9, (cw_same (fun z a b => by have w := c69.1 z a (by omega); rw [s69, ey9] at w; exact w.trans (congrFun (f11.2.1 y (by simp) ⟨by omega, by omega⟩) z))), (fun z a b => by rw [← exR9]; have w := c69.2.1 z a (by omega); rw [s69, eyR9] at w; exact w.trans (congrFun (f11.2.1 yR (by simp) ⟨by omega, by omega⟩) z)), (fun z a b => by rw [← exP9]; have w := c69.2.2.1 z a (by omega); rw [s69, eyP9] at w; exact w.trans (congrFun (f11.2.1 yP (by simp) ⟨by omega, by omega⟩) z)), (fun z a b => by rw [← exL9]; have w := c69.2.2.2.1 z a (by omega); rw [s69, eyL9] at w; exact w.trans (congrFun (f11.2.1 yL (by simp) ⟨by omega, by omega⟩) z)), (fun z a b => by rw [← exn9]; have w := c69.2.2.2.2.1 z a (by omega); rw [s69, eyn9] at w; exact w.trans (congrFun (f11.2.1 yn (by simp) ⟨by omega, by omega⟩) z)), (fun z a b => by rw [← exh9]; have w := c69.2.2.2.2.2 z a (by omega); rw [s69, eyh9] at w; exact w.trans (congrFun (f11.2.1 yh (by simp) ⟨by omega, by omega⟩) z))⟩⟩
  · exact tn_vret rfl dX1_copyFrom_11 ⟨rfl, w15, (FrC.rfl.trans (FrC.sub F16 (by decide))), (CHN.rfl.trans (CHN.sub f11 (by simp) (by simp) (by simp))), False.elim (by omega), False.elim (by omega)⟩
end
section
def nwN (N g : Int) : Int := if 1000 ≤ g then g - 1000 + N else g
theorem uZ_id {α : Type} {f : Int → α} {z : Int} : uZ f z (f z) = f := by
  funext q; unfold uZ; by_cases e : q = z
  · rw [if_pos e, e]
  · rw [if_neg e]
theorem rv_up {σ : MS} {y : Nat} {z v : Int} : (sA (1000 + y) z v σ).2.1 (1000 + y) = uZ (σ.2.1 (1000 + y)) z v := if_pos rfl
theorem nn_wA {nb : Int → Int} {V V1 : Int → It} {k y : Int} (e : V1 = uZ V k (uZ (V k) 1 y)) (h : V k 0 ≤ 5 ∨ V k 0 = 10) (hy : y = nb (V k 1)) : V1 = uZ V k (rn1 nb (V k)) := by
  unfold rn1
  rw [e, if_pos h, hy]
theorem nn_wC {nb : Int → Int} {V : Int → It} {k : Int} (h : (V k 0 ≤ 5 ∨ V k 0 = 10) → nb (V k 1) = V k 1) : V = uZ V k (rn1 nb (V k)) := by
  unfold rn1
  by_cases z : V k 0 ≤ 5 ∨ V k 0 = 10
  · rw [if_pos z, h z, uZ_id, uZ_id]
  · rw [if_neg z, uZ_id]
theorem RN3.nop {W1 V : Int → It} {nb : Int → Int} {k c : Int} (h : RN3 W1 V nb k c) (hc : c < 11) (q : V k c = 2) (hy : nb (V k (c + 1)) = V k (c + 1)) : RN3 W1 V nb k (c + 2) := h.yes hc q hy.symm (by rw [uZ_id, uZ_id])
def nnI (N : Int) (i : It) : It := rn3 (nwN N) (rn1 (nwN N) i) 4
theorem nn_fin {W W1 V : Int → It} {N k c : Int} (h1 : W1 = uZ W k (rn1 (nwN N) (W k))) (h : RN3 W1 V (nwN N) k c) (hc : 11 ≤ c) : V = uZ W k (nnI N (W k)) := by
  have e := h.fin hc
  rw [h1, uZ_eq, uZ_uZ] at e
  exact e
end
section
set_option maxHeartbeats 1000000 in
set_option maxRecDepth 20000 in
theorem k_X5_exchange_x (d : Nat) {T : CT} {σ : MS} {a : Nat} {r : Int} {p2 : Nat} {xs : Nat} (ha : OB T a 5) (h_r : -2147483648 ≤ r ∧ r ≤ 2147483647) (h_p2 : OB T p2 1) (t_p2 : (T p2).1 = 31) (hw : WT T σ) (hxs : σ.2.1 34 a = (xs : Int)) (hr : 0 ≤ r ∧ r < 7) : Tn (d + 1) m_X5_exchange 0 T σ [(0, .ref a), (1, .int (iI r)), (2, .ref p2)] [] (fun ro T2 σ2 => ∃ v : Int, ro = some (vl true v) ∧ T = T2 ∧ WT T2 σ2 ∧ FrC T [] σ σ2 ∧ (∃ x : Nat, v = (x : Int) ∧ (T2 x).1 = 31) ∧ (CHX [] [xs] [] σ σ2) ∧ (v = σ.2.1 (1000 + xs) r) ∧ (σ2.2.1 (1000 + xs) = uZ (σ.2.1 (1000 + xs)) r (p2 : Int))) := by
  refine tn_iload_n dX5_exchange_0 rfl 1 rfl ?_
  refine tn_if_lt (tgt := 22) dX5_exchange_1 (by decide) ⟨by omega, by omega⟩ (fun h1 => absurd h1 (by omega)) (fun h1 => ?_)
  refine tn_iload_n dX5_exchange_4 rfl 1 rfl ?_
  refine tn_aload_n dX5_exchange_5 rfl 0 rfl ?_
  obtain ⟨hk4, hl5⟩ : AR T xs 4 7 7 := ar_of (wf_34 hw ha) hxs
  have hk4i : (T xs).1 = 4 ∨ (T xs).1 = 5 := by omega
  refine tn_getR (ci := 5) (i := 1) (n := 34) (x := xs) dX5_exchange_6 rfl lay_5 (by decide) fl5_20 ha rfl rfl (hxs) ?_
  refine tn_alenX dX5_exchange_9 (by have q9 := hk4i; omega) ?_
  refine tn_icmp_ge (tgt := 22) dX5_exchange_10 (by decide) ⟨by omega, by omega⟩ ⟨by omega, by omega⟩ (fun h6 => absurd h6 (by omega)) (fun h6 => ?_)
  refine tn_aload_n dX5_exchange_13 rfl 0 rfl ?_
  refine tn_getR (ci := 5) (i := 1) (n := 34) (x := xs) dX5_exchange_14 rfl lay_5 (by decide) fl5_20 ha rfl rfl (hxs) ?_
  refine tn_iload_n dX5_exchange_17 rfl 1 rfl ?_
  obtain ⟨x7, hx8, hk9⟩ := (hw).2.2.2.1.1 xs hk4 (r) (by omega) (by omega)
  refine tn_aald (z := r) (x := x7) dX5_exchange_18 hk4i (by omega) (by omega) (by omega) hx8 ?_
  have hk9o : OB T x7 1 := ⟨by omega, by rw [hk9]; rfl, by omega⟩
  refine tn_ifnonnull (tgt := 24) dX5_exchange_19 (by decide) ?_
  refine tn_aload_n dX5_exchange_24 rfl 0 rfl ?_
  refine tn_getR (ci := 5) (i := 1) (n := 34) (x := xs) dX5_exchange_25 rfl lay_5 (by decide) fl5_20 ha rfl rfl (hxs) ?_
  refine tn_iload_n dX5_exchange_28 rfl 1 rfl ?_
  obtain ⟨x10, hx11, hk12⟩ := (hw).2.2.2.1.1 xs hk4 (r) (by omega) (by omega)
  refine tn_aald (z := r) (x := x10) dX5_exchange_29 hk4i (by omega) (by omega) (by omega) hx11 ?_
  have hk12o : OB T x10 1 := ⟨by omega, by rw [hk12]; rfl, by omega⟩
  refine tn_astore_n (L' := [(3, .ref x10), (0, .ref a), (1, .int (iI r)), (2, .ref p2)]) dX5_exchange_30 rfl (by decide) rfl ?_
  refine tn_aload_n dX5_exchange_31 rfl 1 rfl ?_
  refine tn_getR (ci := 5) (i := 1) (n := 34) (x := xs) dX5_exchange_32 rfl lay_5 (by decide) fl5_20 ha rfl rfl (hxs) ?_
  refine tn_iload_n dX5_exchange_35 rfl 2 rfl ?_
  refine tn_aload_n dX5_exchange_36 rfl 3 rfl ?_
  refine tn_aastQ (z := r) (v := p2) dX5_exchange_37 (by have q9 := hk4i; omega) h_p2.r (by omega) (by omega) (by omega) ?_
  refine tn_aload_n dX5_exchange_38 rfl 0 rfl ?_
  exact tn_aret rfl (Or.inl ⟨_, rfl⟩) (Or.inr ⟨_, rfl⟩) dX5_exchange_39 ⟨(x10 : Int), congrArg some (vl_ref rfl).symm, rfl, (hw.rq (by have h1 := hk4; have h2 := t_p2; omega)), (FrC.rfl.arr (hk_no (nh_k hk4 (by unfold HT; omega)))), ⟨_, rfl, hk12⟩, (CHX.rfl.arr (by simp)), hx11.symm, rv_up⟩
end
section
set_option maxHeartbeats 1000000 in
set_option maxRecDepth 20000 in
theorem l_X5_numberNew_x_46 (d : Nat) {T : CT} {σ0 : MS} {a : Nat} {c1 : Int} {W1 : Int → It} {cd : Nat} {x : Nat} {n : Int} {W : Int → It} {Nm : Int} {post : Option Value → CT → MS → Prop} (h_a : OB T a 5) (r_c1 : 0 ≤ c1 ∧ c1 ≤ 200) (hw0 : WT T σ0) (hk : 0 ≤ c1 ∧ c1 < n) (hcd : σ0.2.1 35 a = (cd : Int)) (hx : σ0.2.1 5 cd = (x : Int)) (hn : σ0.2.1 6 cd = n) (hNm : σ0.2.1 7 cd = Nm) (hN : n ≤ 200) (hx_122 : ∀ (i2 : Int) (σ : MS) , (WT T σ) → (FrC T [] σ0 σ) → (3 ≤ i2 ∧ i2 ≤ 11) → (CHX [] [x] [] σ0 σ) → (RN3 W1 (cW σ x n) (nwN Nm) c1 i2) → (3 ≤ i2 ∧ i2 ≤ 11) → (11 ≤ i2) → Tn (d + 3) m_X5_numberNew 122 T σ [(0, .ref a), (1, .int (iI c1)), (2, .int (iI i2))] [] post) : ∀ (nq9 : Nat) (i2 : Int) (σ : MS) , (WT T σ) → (FrC T [] σ0 σ) → (3 ≤ i2 ∧ i2 ≤ 11) → (CHX [] [x] [] σ0 σ) → (RN3 W1 (cW σ x n) (nwN Nm) c1 i2) → (3 ≤ i2 ∧ i2 ≤ 11) → (2147483700 - i2).toNat = nq9 → Tn (d + 3) m_X5_numberNew 46 T σ [(0, .ref a), (1, .int (iI c1)), (2, .int (iI i2))] [] post := by
  intro nq9
  induction nq9 using Nat.strongRecOn with
  | _ nq9 ih =>
    intro i2 σ hw hF r_i2 hC hI h2 hm
    have hIn := hI.num
    refine tn_iload_n dX5_numberNew_46 rfl 2 rfl ?_
    refine tn_bipush dX5_numberNew_47 (by decide) ?_
    refine tn_icmp_ge (tgt := 122) dX5_numberNew_49 (by decide) ⟨by omega, by omega⟩ ⟨by decide, by decide⟩ (fun h1 => ?_) (fun h1 => ?_)
    · exact tn_sub [0, 1, 2] rfl (hx_122 (i2) σ hw (FrC.rfl.trans (FrC.sub hF (by decide))) (by omega) hC hI (by omega) (by omega))
    · refine tn_aload_n dX5_numberNew_52 rfl 0 rfl ?_
      have hk4 : (T cd).1 = 31 := ob_of (wf_35 hw0 h_a) hcd
      have hk4o : OB T cd 1 := ⟨by omega, by rw [hk4]; rfl, by omega⟩
      refine tn_getR (ci := 5) (i := 2) (n := 35) (x := cd) dX5_numberNew_53 rfl lay_5 (by decide) fl5_47 h_a rfl rfl (rc_F hF (Or.inl (by decide)) (by decide) (hcd)) ?_
      refine tn_iload_n dX5_numberNew_56 rfl 1 rfl ?_
      refine tn_iload_n dX5_numberNew_57 rfl 2 rfl ?_
      obtain ⟨hl9, hk8a, hk8b⟩ := cel_of (wf_5 hw0 hk4o) hx
      have hk8 : (T x).1 = 13 := hk8b (by omega)
      clear hk8a hk8b
      have hk8i : IA T x := by unfold IA; omega
      refine tn_callV (M := m_X5_numberNew) (pc := 58) (ix := 164) (ci := 1) (M' := m_X1_get) (As := [.int (iI c1), .int (iI i2)]) (rest := []) dX5_numberNew_58 ok_X1_get im_X1_get se_X1_get ml5_164 np_X1_get rfl rfl hk4o rfl (Nat.le_of_ble_eq_true rfl) (Nat.le_of_ble_eq_true rfl) rfl (k_X1_get_x (d + 1) (T := T) (σ := σ) (a := cd) (k := c1) (c := i2) (x := x) (n := n) (W := cW σ x n) hk4o (by omega) (by omega) hw (rc_F hF (Or.inl (by decide)) (by decide) (hx)) (rc_F hF (Or.inl (by decide)) (by decide) (hn)) rfl (by omega) (by omega)) (fun r10 T12 σ11 gt13 hp => ?_)
      obtain ⟨v16, rfl, rfl, rfl, f14, f15⟩ := hp
      clear gt13
      show Tn _ _ 61 T σ [(0, .ref a), (1, .int (iI c1)), (2, .int (iI i2))] [.int (iI v16)] _
      refine tn_iconst dX5_numberNew_61 ?_
      refine tn_icmp_ne (tgt := 116) dX5_numberNew_62 (by decide) ⟨by omega, by omega⟩ ⟨by decide, by decide⟩ (fun h17 => ?_) (fun h17 => ?_)
      · refine tn_iinc (q0 := 2) (L' := [(2, .int (iI (i2 + 2))), (0, .ref a), (1, .int (iI c1))]) dX5_numberNew_116 rfl (by decide) rfl ?_
        refine tn_goto (tgt := 46) dX5_numberNew_119 (by decide) ?_
        exact tn_sub [1, 2, 0] rfl (ih _ (by omega) (i2 + 2) σ hw (FrC.rfl.trans (FrC.sub hF (by decide))) (by omega) hC (hI.no (by omega) (by omega)) (by omega) rfl)
      · refine tn_aload_n dX5_numberNew_65 rfl 0 rfl ?_
        refine tn_getR (ci := 5) (i := 2) (n := 35) (x := cd) dX5_numberNew_66 rfl lay_5 (by decide) fl5_47 h_a rfl rfl (rc_F hF (Or.inl (by decide)) (by decide) (hcd)) ?_
        refine tn_iload_n dX5_numberNew_69 rfl 1 rfl ?_
        refine tn_iload_n dX5_numberNew_70 rfl 2 rfl ?_
        refine tn_iconst dX5_numberNew_71 ?_
        refine tn_iadd dX5_numberNew_72 ?_
        refine tn_callV (M := m_X5_numberNew) (pc := 73) (ix := 164) (ci := 1) (M' := m_X1_get) (As := [.int (iI c1), .int (iI (i2 + 1))]) (rest := []) dX5_numberNew_73 ok_X1_get im_X1_get se_X1_get ml5_164 np_X1_get rfl rfl hk4o rfl (Nat.le_of_ble_eq_true rfl) (Nat.le_of_ble_eq_true rfl) rfl (k_X1_get_x (d + 1) (T := T) (σ := σ) (a := cd) (k := c1) (c := i2 + 1) (x := x) (n := n) (W := cW σ x n) hk4o (by omega) (by omega) hw (rc_F hF (Or.inl (by decide)) (by decide) (hx)) (rc_F hF (Or.inl (by decide)) (by decide) (hn)) rfl (by omega) (by omega)) (fun r18 T20 σ19 gt21 hp => ?_)
        obtain ⟨v24, rfl, rfl, rfl, f22, f23⟩ := hp
        clear gt21
        show Tn _ _ 76 T σ [(0, .ref a), (1, .int (iI c1)), (2, .int (iI i2))] [.int (iI v24)] _
        refine tn_sipush dX5_numberNew_76 (by decide) ?_
        refine tn_icmp_lt (tgt := 116) dX5_numberNew_79 (by decide) ⟨by omega, by omega⟩ ⟨by decide, by decide⟩ (fun h25 => ?_) (fun h25 => ?_)
        · refine tn_iinc (q0 := 2) (L' := [(2, .int (iI (i2 + 2))), (0, .ref a), (1, .int (iI c1))]) dX5_numberNew_116 rfl (by decide) rfl ?_
          refine tn_goto (tgt := 46) dX5_numberNew_119 (by decide) ?_
          exact tn_sub [1, 2, 0] rfl (ih _ (by omega) (i2 + 2) σ hw (FrC.rfl.trans (FrC.sub hF (by decide))) (by omega) hC (hI.nop (by omega) (by omega) (by unfold nwN; rw [if_neg (by omega)])) (by omega) rfl)
        · refine tn_aload_n dX5_numberNew_82 rfl 0 rfl ?_
          refine tn_getR (ci := 5) (i := 2) (n := 35) (x := cd) dX5_numberNew_83 rfl lay_5 (by decide) fl5_47 h_a rfl rfl (rc_F hF (Or.inl (by decide)) (by decide) (hcd)) ?_
          refine tn_iload_n dX5_numberNew_86 rfl 1 rfl ?_
          refine tn_iload_n dX5_numberNew_87 rfl 2 rfl ?_
          refine tn_iconst dX5_numberNew_88 ?_
          refine tn_iadd dX5_numberNew_89 ?_
          refine tn_aload_n dX5_numberNew_90 rfl 0 rfl ?_
          refine tn_getR (ci := 5) (i := 2) (n := 35) (x := cd) dX5_numberNew_91 rfl lay_5 (by decide) fl5_47 h_a rfl rfl (rc_F hF (Or.inl (by decide)) (by decide) (hcd)) ?_
          refine tn_iload_n dX5_numberNew_94 rfl 1 rfl ?_
          refine tn_iload_n dX5_numberNew_95 rfl 2 rfl ?_
          refine tn_iconst dX5_numberNew_96 ?_
          refine tn_iadd dX5_numberNew_97 ?_
          refine tn_callV (M := m_X5_numberNew) (pc := 98) (ix := 164) (ci := 1) (M' := m_X1_get) (As := [.int (iI c1), .int (iI (i2 + 1))]) (rest := [.int (iI (i2 + 1)), .int (iI c1), .ref cd]) dX5_numberNew_98 ok_X1_get im_X1_get se_X1_get ml5_164 np_X1_get rfl rfl hk4o rfl (Nat.le_of_ble_eq_true rfl) (Nat.le_of_ble_eq_true rfl) rfl (k_X1_get_x (d + 1) (T := T) (σ := σ) (a := cd) (k := c1) (c := i2 + 1) (x := x) (n := n) (W := cW σ x n) hk4o (by omega) (by omega) hw (rc_F hF (Or.inl (by decide)) (by decide) (hx)) (rc_F hF (Or.inl (by decide)) (by decide) (hn)) rfl (by omega) (by omega)) (fun r26 T28 σ27 gt29 hp => ?_)
          obtain ⟨v32, rfl, rfl, rfl, f30, f31⟩ := hp
          clear gt29
          show Tn _ _ 101 T σ [(0, .ref a), (1, .int (iI c1)), (2, .int (iI i2))] [.int (iI v32), .int (iI (i2 + 1)), .int (iI c1), .ref cd] _
          refine tn_sipush dX5_numberNew_101 (by decide) ?_
          refine tn_isub dX5_numberNew_104 ?_
          refine tn_aload_n dX5_numberNew_105 rfl 0 rfl ?_
          refine tn_getR (ci := 5) (i := 2) (n := 35) (x := cd) dX5_numberNew_106 rfl lay_5 (by decide) fl5_47 h_a rfl rfl (rc_F hF (Or.inl (by decide)) (by decide) (hcd)) ?_
          refine tn_getI (ci := 1) (i := 2) (n := 7) (t := σ0.2.1 7 cd) dX5_numberNew_109 rfl lay_1 (by decide) fl5_152 hk4o rfl rfl (rc_F hF (Or.inl (by decide)) (by decide) (rfl)) ?_
          have g33 : ((0 : Int) ≤ σ0.2.1 7 cd ∧ σ0.2.1 7 cd ≤ 12) := wf_7 hw0 hk4o
          refine tn_iadd dX5_numberNew_112 ?_
          refine tn_callV (M := m_X5_numberNew) (pc := 113) (ix := 167) (ci := 1) (M' := m_X1_set) (As := [.int (iI c1), .int (iI (i2 + 1)), .int (iI ((v32 - 1000) + (σ0.2.1 7 cd)))]) (rest := []) dX5_numberNew_113 ok_X1_set im_X1_set se_X1_set ml5_167 np_X1_set rfl rfl hk4o rfl (Nat.le_of_ble_eq_true rfl) (Nat.le_of_ble_eq_true rfl) rfl (k_X1_set_x (d + 1) (T := T) (σ := σ) (a := cd) (k := c1) (c := i2 + 1) (y := (v32 - 1000) + (σ0.2.1 7 cd)) (x := x) (n := n) (W := cW σ x n) hk4o (by omega) (by omega) (by omega) hw (rc_F hF (Or.inl (by decide)) (by decide) (hx)) (rc_F hF (Or.inl (by decide)) (by decide) (hn)) rfl (by omega) (by omega) (by omega) (by omega)) (fun r34 T36 σ35 gt37 hp => ?_)
          obtain ⟨rfl, rfl, w41, F42, f38, f39⟩ := hp
          clear gt37
          show Tn _ _ 116 T σ35 [(0, .ref a), (1, .int (iI c1)), (2, .int (iI i2))] [] _
          refine tn_iinc (q0 := 2) (L' := [(2, .int (iI (i2 + 2))), (0, .ref a), (1, .int (iI c1))]) dX5_numberNew_116 rfl (by decide) rfl ?_
          refine tn_goto (tgt := 46) dX5_numberNew_119 (by decide) ?_
          exact tn_sub [1, 2, 0] rfl (ih _ (by omega) (i2 + 2) σ35 w41 ((FrC.rfl.trans (FrC.sub hF (by decide))).trans (FrC.sub F42 (by decide))) (by omega) (hC.trans (CHX.sub f38 (by simp) (by simp) (by simp))) (hI.yes (by omega) (by omega) (by unfold nwN; rw [if_pos (by omega)]; omega) f39) (by omega) rfl)
set_option maxHeartbeats 1000000 in
set_option maxRecDepth 20000 in
theorem k_X5_numberNew_x (d : Nat) {T : CT} {σ : MS} {a : Nat} {k : Int} {cd : Nat} {x : Nat} {n : Int} {W : Int → It} {Nm : Int} (ha : OB T a 5) (h_k : -2147483648 ≤ k ∧ k ≤ 2147483647) (hw : WT T σ) (hcd : σ.2.1 35 a = (cd : Int)) (hx : σ.2.1 5 cd = (x : Int)) (hn : σ.2.1 6 cd = n) (hW : cW σ x n = W) (hNm : σ.2.1 7 cd = Nm) (hN : n ≤ 200) (hk : 0 ≤ k ∧ k < n) (hk0 : 0 ≤ W k 0) : Tn (d + 3) m_X5_numberNew 0 T σ [(0, .ref a), (1, .int (iI k))] [] (fun ro T2 σ2 => ro = none ∧ T = T2 ∧ WT T2 σ2 ∧ FrC T [] σ σ2 ∧ (CHX [] [x] [] σ σ2) ∧ (cW σ2 x n = uZ W k (nnI Nm (W k)))) := by
  refine tn_aload_n dX5_numberNew_0 rfl 0 rfl ?_
  have hk3 : (T cd).1 = 31 := ob_of (wf_35 hw ha) hcd
  have hk3o : OB T cd 1 := ⟨by omega, by rw [hk3]; rfl, by omega⟩
  refine tn_getR (ci := 5) (i := 2) (n := 35) (x := cd) dX5_numberNew_1 rfl lay_5 (by decide) fl5_47 ha rfl rfl (hcd) ?_
  refine tn_iload_n dX5_numberNew_4 rfl 1 rfl ?_
  obtain ⟨hl8, hk7a, hk7b⟩ := cel_of (wf_5 hw hk3o) hx
  have hk7 : (T x).1 = 13 := hk7b (by omega)
  clear hk7a hk7b
  have hk7i : IA T x := by unfold IA; omega
  refine tn_callV (M := m_X5_numberNew) (pc := 5) (ix := 161) (ci := 1) (M' := m_X1_writtenBy) (As := [.int (iI k)]) (rest := []) dX5_numberNew_5 ok_X1_writtenBy im_X1_writtenBy se_X1_writtenBy ml5_161 np_X1_writtenBy rfl rfl hk3o rfl (Nat.le_of_ble_eq_true rfl) (Nat.le_of_ble_eq_true rfl) rfl (k_X1_writtenBy_x (d) (T := T) (σ := σ) (a := cd) (k := k) (x := x) (n := n) (W := W) hk3o (by omega) hw (hx) (hn) hW (by omega)) (fun r9 T11 σ10 gt12 hp => ?_)
  obtain ⟨v15, rfl, rfl, rfl, f13, f14⟩ := hp
  clear gt12
  show Tn _ _ 8 T σ [(0, .ref a), (1, .int (iI k))] [.int (iI v15)] _
  have wb9 := f14
  unfold WBQ at wb9
  refine tn_sipush dX5_numberNew_8 (by decide) ?_
  refine tn_icmp_lt (tgt := 44) dX5_numberNew_11 (by decide) ⟨by omega, by omega⟩ ⟨by decide, by decide⟩ (fun h16 => ?_) (fun h16 => ?_)
  · have hv1 : cW σ x n = uZ W k (rn1 (nwN Nm) (W k)) := (by rw [hW]; exact nn_wC (fun z => by unfold nwN; rw [if_neg (by omega)]))
    refine tn_iconst dX5_numberNew_44 ?_
    refine tn_istore_n (L' := [(2, .int (iI 3)), (0, .ref a), (1, .int (iI k))]) dX5_numberNew_45 rfl (by decide) rfl ?_
    refine tn_sub [1, 2, 0] rfl (l_X5_numberNew_x_46 (d) (T := T) (σ0 := σ) (a := a) (c1 := k) (cd := cd) (x := x) (n := n) (W := W) (Nm := Nm) (W1 := (cW σ x n)) ha (by omega) hw (by omega) (hcd) (hx) (hn) (hNm) hN (fun i217 σ18 w21 F22 r23 f24 f25 f26 f27 => ?_) _ (3) σ hw FrC.rfl (by omega) CHX.rfl RN3.nil (by omega) rfl)
    show Tn _ _ 122 T σ18 [(0, .ref a), (1, .int (iI k)), (2, .int (iI i217))] [] _
    exact tn_vret rfl dX5_numberNew_122 ⟨rfl, rfl, w21, (FrC.rfl.trans (FrC.sub F22 (by decide))), (CHX.rfl.trans (CHX.sub f24 (by simp) (by simp) (by simp))), (nn_fin hv1 f25 (by omega))⟩
  · refine tn_aload_n dX5_numberNew_14 rfl 0 rfl ?_
    refine tn_getR (ci := 5) (i := 2) (n := 35) (x := cd) dX5_numberNew_15 rfl lay_5 (by decide) fl5_47 ha rfl rfl (hcd) ?_
    refine tn_iload_n dX5_numberNew_18 rfl 1 rfl ?_
    refine tn_iconst dX5_numberNew_19 ?_
    refine tn_aload_n dX5_numberNew_20 rfl 0 rfl ?_
    refine tn_getR (ci := 5) (i := 2) (n := 35) (x := cd) dX5_numberNew_21 rfl lay_5 (by decide) fl5_47 ha rfl rfl (hcd) ?_
    refine tn_iload_n dX5_numberNew_24 rfl 1 rfl ?_
    refine tn_iconst dX5_numberNew_25 ?_
    refine tn_callV (M := m_X5_numberNew) (pc := 26) (ix := 164) (ci := 1) (M' := m_X1_get) (As := [.int (iI k), .int (iI 1)]) (rest := [.int (iI 1), .int (iI k), .ref cd]) dX5_numberNew_26 ok_X1_get im_X1_get se_X1_get ml5_164 np_X1_get rfl rfl hk3o rfl (Nat.le_of_ble_eq_true rfl) (Nat.le_of_ble_eq_true rfl) rfl (k_X1_get_x (d + 1) (T := T) (σ := σ) (a := cd) (k := k) (c := 1) (x := x) (n := n) (W := W) hk3o (by omega) (by decide) hw (hx) (hn) hW (by omega) (by omega)) (fun r28 T30 σ29 gt31 hp => ?_)
    obtain ⟨v34, rfl, rfl, rfl, f32, f33⟩ := hp
    clear gt31
    show Tn _ _ 29 T σ [(0, .ref a), (1, .int (iI k))] [.int (iI v34), .int (iI 1), .int (iI k), .ref cd] _
    refine tn_sipush dX5_numberNew_29 (by decide) ?_
    refine tn_isub dX5_numberNew_32 ?_
    refine tn_aload_n dX5_numberNew_33 rfl 0 rfl ?_
    refine tn_getR (ci := 5) (i := 2) (n := 35) (x := cd) dX5_numberNew_34 rfl lay_5 (by decide) fl5_47 ha rfl rfl (hcd) ?_
    refine tn_getI (ci := 1) (i := 2) (n := 7) (t := σ.2.1 7 cd) dX5_numberNew_37 rfl lay_1 (by decide) fl5_152 hk3o rfl rfl (rfl) ?_
    have g35 : ((0 : Int) ≤ σ.2.1 7 cd ∧ σ.2.1 7 cd ≤ 12) := wf_7 hw hk3o
    refine tn_iadd dX5_numberNew_40 ?_
    refine tn_callV (M := m_X5_numberNew) (pc := 41) (ix := 167) (ci := 1) (M' := m_X1_set) (As := [.int (iI k), .int (iI 1), .int (iI ((v34 - 1000) + (σ.2.1 7 cd)))]) (rest := []) dX5_numberNew_41 ok_X1_set im_X1_set se_X1_set ml5_167 np_X1_set rfl rfl hk3o rfl (Nat.le_of_ble_eq_true rfl) (Nat.le_of_ble_eq_true rfl) rfl (k_X1_set_x (d + 1) (T := T) (σ := σ) (a := cd) (k := k) (c := 1) (y := (v34 - 1000) + (σ.2.1 7 cd)) (x := x) (n := n) (W := W) hk3o (by omega) (by decide) (by omega) hw (hx) (hn) hW (by omega) (by omega) (by omega) (by omega)) (fun r36 T38 σ37 gt39 hp => ?_)
    obtain ⟨rfl, rfl, w43, F44, f40, f41⟩ := hp
    clear gt39
    show Tn _ _ 44 T σ37 [(0, .ref a), (1, .int (iI k))] [] _
    have hv1 : cW σ37 x n = uZ W k (rn1 (nwN Nm) (W k)) := nn_wA f41 (by omega) (by unfold nwN; rw [if_pos (by omega)]; omega)
    refine tn_iconst dX5_numberNew_44 ?_
    refine tn_istore_n (L' := [(2, .int (iI 3)), (0, .ref a), (1, .int (iI k))]) dX5_numberNew_45 rfl (by decide) rfl ?_
    refine tn_sub [1, 2, 0] rfl (l_X5_numberNew_x_46 (d) (T := T) (σ0 := σ37) (a := a) (c1 := k) (cd := cd) (x := x) (n := n) (W := W) (Nm := Nm) (W1 := (cW σ37 x n)) ha (by omega) w43 (by omega) (rc_F F44 (Or.inl (by decide)) (by decide) (hcd)) (rc_F F44 (Or.inl (by decide)) (by decide) (hx)) (rc_F F44 (Or.inl (by decide)) (by decide) (hn)) (rc_F F44 (Or.inl (by decide)) (by decide) (hNm)) hN (fun i245 σ46 w49 F50 r51 f52 f53 f54 f55 => ?_) _ (3) σ37 w43 FrC.rfl (by omega) CHX.rfl RN3.nil (by omega) rfl)
    show Tn _ _ 122 T σ46 [(0, .ref a), (1, .int (iI k)), (2, .int (iI i245))] [] _
    exact tn_vret rfl dX5_numberNew_122 ⟨rfl, rfl, w49, ((FrC.rfl.trans (FrC.sub F44 (by decide))).trans (FrC.sub F50 (by decide))), ((CHX.rfl.trans (CHX.sub f40 (by simp) (by simp) (by simp))).trans (CHX.sub f52 (by simp) (by simp) (by simp))), (nn_fin hv1 f53 (by omega))⟩
end
section
theorem crs_ext {n F : Int} {W : Int → It} {Hr Hp Hl Hn Hh Gr Gp Gl Gn Gh : Int → Int} (h1 : ∀ f, 0 ≤ f → f < F → Hr f = Gr f) (h2 : ∀ f, 0 ≤ f → f < F → Hp f = Gp f) (h3 : ∀ f, 0 ≤ f → f < F → Hl f = Gl f) (h4 : ∀ f, 0 ≤ f → f < F → Hn f = Gn f) (h5 : ∀ f m, 0 ≤ f → f < F → 0 ≤ m → m < Gn f → Hh (12 * f + m) = Gh (12 * f + m)) : cRS n W F Hr Hp Hl Hn Hh = cRS n W F Gr Gp Gl Gn Gh := by
  have e : ∀ A B : Int → Int, (∀ f, 0 ≤ f → f < F → A f = B f) → (fun f => if 0 ≤ f ∧ f < F then A f else 0) = (fun f => if 0 ≤ f ∧ f < F then B f else 0) := fun A B h => by
    funext f
    by_cases z : 0 ≤ f ∧ f < F
    · rw [if_pos z, if_pos z, h f z.1 z.2]
    · rw [if_neg z, if_neg z]
  have e4 : (fun f m => if (0 ≤ f ∧ f < F) ∧ 0 ≤ m ∧ m < Hn f then Hh (12 * f + m) else 0) = (fun f m => if (0 ≤ f ∧ f < F) ∧ 0 ≤ m ∧ m < Gn f then Gh (12 * f + m) else 0) := by
    funext f m
    by_cases z : 0 ≤ f ∧ f < F
    · by_cases w : 0 ≤ m ∧ m < Gn f
      · rw [if_pos ⟨z, w.1, by rw [h4 f z.1 z.2]; exact w.2⟩, if_pos ⟨z, w⟩, h5 f m z.1 z.2 w.1 w.2]
      · rw [if_neg (fun q => w ⟨q.2.1, by rw [← h4 f z.1 z.2]; exact q.2.2⟩), if_neg (fun q => w q.2)]
    · rw [if_neg (fun q => z q.1), if_neg (fun q => z q.1)]
  unfold cRS
  rw [e Hr Gr h1, e Hp Gp h2, e Hl Gl h3, e4]
theorem INJ.ds {S : Nat → Prop} {T : CT} {σ : MS} (h : INJ S T σ) {L : List (Nat × Nat)} (hL : ∀ p, p ∈ L → p.1 ∈ AFL ∧ S p.2 ∧ OB T p.2 (cls p.1)) (hn : L.Nodup) : DS (L.map (fun p => adN σ p.1 p.2)) := fun i j a b hi hj hij e => by
  rw [List.getElem?_map] at hi hj
  cases qi : L[i]? with
  | none => rw [qi] at hi; exact absurd hi (by simp)
  | some p =>
    cases qj : L[j]? with
    | none => rw [qj] at hj; exact absurd hj (by simp)
    | some q =>
      rw [qi] at hi
      rw [qj] at hj
      have hi' : adN σ p.1 p.2 = a := by simpa using hi
      have hj' : adN σ q.1 q.2 = b := by simpa using hj
      obtain ⟨p1, p2, p3⟩ := hL p (List.mem_of_getElem? qi)
      obtain ⟨q1, q2, q3⟩ := hL q (List.mem_of_getElem? qj)
      have z := h.2 p.1 q.1 p.2 q.2 p1 q1 p2 q2 p3 q3 (by rw [hi', hj', e])
      have pq : p = q := Prod.ext z.1 z.2
      rw [← pq] at qj
      exact hij ((List.getElem?_inj (List.getElem?_eq_some_iff.mp qi).1 hn).mp (qi.trans qj.symm))
def CPC (T : CT) (σ σ2 : MS) (a e : Nat) : Prop := cdS σ2 a = cdS σ e ∧ cdW σ2 a = cdW σ e ∧ (σ2.2.1 6 a = σ.2.1 6 e ∧ σ2.2.1 7 a = σ.2.1 7 e ∧ σ2.2.1 8 a = σ.2.1 8 e ∧ σ2.2.1 9 a = σ.2.1 9 e ∧ σ2.2.1 10 a = σ.2.1 10 e) ∧ (σ2.2.1 5 a = σ.2.1 5 a ∨ (T (adN σ2 5 a)).1 = 0) ∧ rwF σ2 14 a 0 = rwF σ 14 e 0
section CPCS
variable {S : Nat → Prop} {T : CT} {σ : MS} {a e : Nat}
theorem cp_ds (hI : INJ S T σ) (sa : S a) (se : S e) (ha : OB T a 1) (he : OB T e 1) (hae : a ≠ e) : DS [adN σ 5 a, adN σ 11 a, adN σ 12 a, adN σ 13 a, adN σ 14 a, adN σ 15 a, adN σ 5 e, adN σ 11 e, adN σ 12 e, adN σ 13 e, adN σ 14 e, adN σ 15 e] := by
  refine hI.ds (L := [(5, a), (11, a), (12, a), (13, a), (14, a), (15, a), (5, e), (11, e), (12, e), (13, e), (14, e), (15, e)]) (fun p hp => ?_) (by simp [hae])
  simp only [List.mem_cons, List.not_mem_nil, or_false] at hp
  rcases hp with rfl | rfl | rfl | rfl | rfl | rfl | rfl | rfl | rfl | rfl | rfl | rfl
  · exact ⟨(show 5 ∈ AFL by decide), sa, ha⟩
  · exact ⟨(show 11 ∈ AFL by decide), sa, ha⟩
  · exact ⟨(show 12 ∈ AFL by decide), sa, ha⟩
  · exact ⟨(show 13 ∈ AFL by decide), sa, ha⟩
  · exact ⟨(show 14 ∈ AFL by decide), sa, ha⟩
  · exact ⟨(show 15 ∈ AFL by decide), sa, ha⟩
  · exact ⟨(show 5 ∈ AFL by decide), se, he⟩
  · exact ⟨(show 11 ∈ AFL by decide), se, he⟩
  · exact ⟨(show 12 ∈ AFL by decide), se, he⟩
  · exact ⟨(show 13 ∈ AFL by decide), se, he⟩
  · exact ⟨(show 14 ∈ AFL by decide), se, he⟩
  · exact ⟨(show 15 ∈ AFL by decide), se, he⟩
theorem ad_1 (hw : WT T σ) (ha : OB T a 1) : ∀ f, f ∈ AF6 → σ.2.1 f a = ((adN σ f a : Nat) : Int) := fun f hf => by
  have k : ∀ {Q : Nat → Prop} {f : Nat}, (∃ x : Nat, σ.2.1 f a = (x : Int) ∧ Q x) → σ.2.1 f a = ((adN σ f a : Nat) : Int) := fun h => (ad_ex h).1
  simp only [List.mem_cons, List.not_mem_nil, or_false] at hf
  rcases hf with rfl | rfl | rfl | rfl | rfl | rfl
  · exact k (wf_5 hw ha)
  · exact k (wf_11 hw ha)
  · exact k (wf_12 hw ha)
  · exact k (wf_13 hw ha)
  · exact k (wf_14 hw ha)
  · exact k (wf_15 hw ha)
theorem k_copyFrom_c (d : Nat) (ha : OB T a 1) (hta : (T a).1 = 50) (he : OB T e 1) (te : (T e).1 = 31) (hw : WT T σ) (sa : S a) (se : S e) (hI : INJ S T σ) (hN : σ.2.1 6 e ≤ 200) (hn12 : ∀ f, 0 ≤ f → f < σ.2.1 10 e → rwF σ 14 e f ≤ 12) : Tn (d + 3) m_X1_copyFrom 0 T σ [(0, .ref a), (1, .ref e)] [] (fun ro T2 σ2 => ro = none ∧ WT T2 σ2 ∧ FrC T [5, 6, 7, 8, 9, 10] σ σ2 ∧ CHN T [(5, a), (6, a), (7, a), (8, a), (9, a), (10, a)] [adN σ 5 a, adN σ 11 a, adN σ 12 a, adN σ 13 a, adN σ 14 a, adN σ 15 a] [] σ σ2 ∧ CPC T σ σ2 a e) := by
  have hae : a ≠ e := fun q => by rw [q] at hta; omega
  have ea := ad_1 hw ha
  have ee := ad_1 hw he
  have f10 := wf_10 hw he
  refine (k_X1_copyFrom_x d ha hta he te hw (ea 5 (by decide)) (ee 5 (by decide)) rfl (ea 11 (by decide)) (ea 12 (by decide)) (ea 13 (by decide)) (ea 14 (by decide)) (ea 15 (by decide)) (ee 11 (by decide)) (ee 12 (by decide)) (ee 13 (by decide)) (ee 14 (by decide)) (ee 15 (by decide)) hN hae (cp_ds hI sa se ha he hae)).mono (fun ro T2 σ2 hp => ?_)
  obtain ⟨p1, p2, p3, ch, ⟨⟨q6, q7, q8, q9⟩, q10⟩, x2, x5, xe, cw, r1, r2, r3, r4, r5⟩ := hp
  have ax : adN σ2 5 a = x2 := adN_of x5
  have hW : cdW σ2 a = cdW σ e := by unfold cdW; rw [ax, q6]; exact cw
  have ad : ∀ f, f ∈ [11, 12, 13, 14, 15] → adN σ2 f a = adN σ f a := fun f hf => by
    simp only [List.mem_cons, List.not_mem_nil, or_false] at hf
    unfold adN
    rw [ch.f (by omega) (by simp; omega)]
  refine ⟨p1, p2, p3, ch, ?_, hW, ⟨q6, q7, q8, q9, q10⟩, ?_, ?_⟩
  · unfold cdS
    rw [hW, q6, q10]
    have rr : ∀ g, g ∈ [11, 12, 13, 14, 15] → rwF σ2 g a = σ2.2.1 (1000 + adN σ g a) := fun g hg => by unfold rwF; rw [ad g hg]
    rw [rr 11 (by decide), rr 12 (by decide), rr 13 (by decide), rr 14 (by decide), rr 15 (by decide)]
    exact crs_ext (fun f f0 f1 => r1 f f0 (by omega)) (fun f f0 f1 => r2 f f0 (by omega)) (fun f f0 f1 => r3 f f0 (by omega)) (fun f f0 f1 => r4 f f0 (by omega)) (fun f m f0 f1 m0 m1 => r5 _ (by omega) (by have z := hn12 f f0 f1; omega))
  · rcases xe with z | z
    · exact Or.inl (by rw [x5, z]; exact (ea 5 (by decide)).symm)
    · exact Or.inr (by rw [ax]; exact z)
  · unfold rwF
    rw [ad 14 (by decide)]
    exact r4 0 (by decide) (by decide)
end CPCS
end
section
theorem INJ.keep {S : Nat → Prop} {T : CT} {σ σ2 : MS} (h : INJ S T σ) (k : ∀ f (b : Nat), f ∈ AFL → σ2.2.1 f b = σ.2.1 f b) : INJ S T σ2 := ⟨h.1, fun f g a b hf hg sa sb oa ob e => h.2 f g a b hf hg sa sb oa ob (by unfold adN at e ⊢; rw [k f a hf, k g b hg] at e; exact e)⟩
def TK1 (S : Nat → Prop) (T : CT) (σ s3 : MS) (e : Nat) : Prop := INJ S T s3 ∧ cdS s3 e = cdS σ e ∧ LNK (cdW s3 e) (σ.2.1 6 e) ∧ (WOK (cdW σ e) (σ.2.1 6 e) → WOK (cdW s3 e) (σ.2.1 6 e)) ∧ rwF s3 14 e = rwF σ 14 e ∧ ∀ f (b : Nat), f < 1000 → s3.2.1 f b = σ.2.1 f b
theorem af6_k {T : CT} {σ : MS} {e : Nat} (hw : WT T σ) (he : OB T e 1) : ∀ f, f ∈ AF6 → (T (adN σ f e)).1 = 1 ∨ (T (adN σ f e)).1 = 11 ∨ (T (adN σ f e)).1 = 13 := fun f hf => by
  have e5 := ad_1 hw he
  have c5 := cel_of (wf_5 hw he) (e5 5 (by decide))
  have a1 := ar_of (wf_11 hw he) (e5 11 (by decide))
  have a2 := ar_of (wf_12 hw he) (e5 12 (by decide))
  have a3 := ar_of (wf_13 hw he) (e5 13 (by decide))
  have a4 := ar_of (wf_14 hw he) (e5 14 (by decide))
  have a5 := ar_of (wf_15 hw he) (e5 15 (by decide))
  simp only [List.mem_cons, List.not_mem_nil, or_false] at hf
  rcases hf with rfl | rfl | rfl | rfl | rfl | rfl
  · by_cases z : (T e).1 = 50
    · exact Or.inl (c5.2.1 z)
    · exact Or.inr (Or.inr (c5.2.2 z))
  · have := a1.1; omega
  · have := a2.1; omega
  · have := a3.1; omega
  · have := a4.1; omega
  · have := a5.1; omega
theorem TK1.mk {S : Nat → Prop} {T : CT} {σ s1 s2 s3 : MS} {e xs xm y : Nat} {r n v : Int} (hw : WT T σ) (hI : INJ S T σ) (se : S e) (he : OB T e 1) (x1 : CHX [] [xs] [] σ s1) (kx : (T xs).1 = 4) (x2 : s2 = sA (1000 + xm) r v s1) (km : (T xm).1 = 4) (hy : s2.2.1 5 e = (y : Int)) (hn : s2.2.1 6 e = n) (l1 : CHX [] [y] [] s2 s3) (l2 : LKE (cW s2 y n) (cW s3 y n)) (l3 : LNK (cW s3 y n) n) : TK1 S T σ s3 e := by
  have k6 := af6_k hw he
  have c1 : CSM σ s1 e := csm_chx x1 (fun p hp => absurd hp (by simp)) (fun f hf q => by
    have z := k6 f hf
    rw [List.mem_singleton.mp q] at z
    omega)
  have c2 : CSM s1 s2 e := by
    refine ⟨fun f f0 f1 => by rw [x2, sA_k (by omega)], fun f hf => ?_⟩
    have z := k6 f hf
    have f0 : 5 ≤ f ∧ f ≤ 16 := by simp only [List.mem_cons, List.not_mem_nil, or_false] at hf; omega
    rw [x2, sA_k (fun q => by
      have w : adN s1 f e = xm := by omega
      rw [c1.ad f0.1 f0.2] at w
      rw [w] at z
      omega)]
  have c := c1.trans c2
  have k2 : ∀ f (b : Nat), f < 1000 → s2.2.1 f b = σ.2.1 f b := fun f b hf => by rw [x2, sA_k (by omega)]; exact x1.f hf (by simp)
  have k3 : ∀ f (b : Nat), f < 1000 → s3.2.1 f b = σ.2.1 f b := fun f b hf => (l1.f hf (by simp)).trans (k2 f b hf)
  have i2 : INJ S T s2 := hI.keep (fun f b hf => k2 f b (by simp only [List.mem_cons, List.not_mem_nil, or_false] at hf; omega))
  have i3 : INJ S T s3 := hI.keep (fun f b hf => k3 f b (by simp only [List.mem_cons, List.not_mem_nil, or_false] at hf; omega))
  have ey : y = adN s2 5 e := (adN_of hy).symm
  have f5 : s3.2.1 5 e = s2.2.1 5 e := l1.f (by decide) (by simp)
  have f6 : s3.2.1 6 e = s2.2.1 6 e := l1.f (by decide) (by simp)
  have f10 : s3.2.1 10 e = s2.2.1 10 e := l1.f (by decide) (by simp)
  have w2 : cdW s2 e = cW s2 y n := cd_w2 hy hn
  have w3 : cdW s3 e = cW s3 y n := cd_w2 (f5.trans hy) (f6.trans hn)
  have k : ∀ f, f ∈ [11, 12, 13, 14, 15] → rwF s3 f e = rwF s2 f e := fun f hf => rw_keep l1 (by simp only [List.mem_cons, List.not_mem_nil, or_false] at hf; omega) (by simp) (by
    rw [ey]
    simp only [List.mem_singleton]
    have fa : f ∈ AFL ∧ cls f = 1 ∧ f ≠ 5 := by
      simp only [List.mem_cons, List.not_mem_nil, or_false] at hf
      rcases hf with rfl | rfl | rfl | rfl | rfl <;> exact ⟨by decide, rfl, by decide⟩
    exact fun q => fa.2.2 (i2.2 f 5 e e fa.1 (by decide) se se (by rw [fa.2.1]; exact he) he q).1)
  have s23 : cdS s3 e = cdS s2 e := by
    unfold cdS cRS
    rw [w3, w2, l2.vw, f6, f10, k 11 (by decide), k 12 (by decide), k 13 (by decide), k 14 (by decide), k 15 (by decide)]
  have n6 : n = σ.2.1 6 e := by rw [← hn]; exact k2 6 e (by decide)
  refine ⟨i3, s23.trans c.s, ?_, fun q => ?_, (k 14 (by decide)).trans (c.rw (by decide) (by decide) (by decide)), k3⟩
  · rw [w3, ← n6]; exact l3
  · rw [w3, ← n6]
    rw [← c.w, w2, ← n6] at q
    exact l2.wok q
abbrev TKS (c : Nat) : List (Nat × Nat) := [(5, c), (6, c), (7, c), (8, c), (9, c), (10, c)]
abbrev TRS (σ : MS) (xs xm c e t : Nat) : List Nat := [xs, xm, adN σ 5 e, adN σ 5 c, adN σ 11 c, adN σ 12 c, adN σ 13 c, adN σ 14 c, adN σ 15 c, t]
def TKM (T : CT) (σ σ2 : MS) (c e xs xm t : Nat) (r f : Int) : Prop := cdS σ2 c = cdS σ e ∧ (σ2.2.1 6 c = σ.2.1 6 e ∧ σ2.2.1 7 c = σ.2.1 7 e ∧ σ2.2.1 8 c = σ.2.1 8 e ∧ σ2.2.1 9 c = σ.2.1 9 e ∧ rwF σ2 14 c 0 = rwF σ 14 e 0) ∧ LNK (cdW σ2 c) (σ2.2.1 6 c) ∧ (WOK (cdW σ e) (σ.2.1 6 e) → WOK (cdW σ2 c) (σ2.2.1 6 c)) ∧ (σ2.2.1 5 c = σ.2.1 5 c ∨ (T (adN σ2 5 c)).1 = 0) ∧ CHN T (TKS c) (TRS σ xs xm c e t) [] σ σ2 ∧ σ2.2.1 (1000 + xs) = uZ (σ.2.1 (1000 + xs)) r f ∧ σ2.2.1 (1000 + xm) = uZ (σ.2.1 (1000 + xm)) r (e : Int)
theorem TKM.mk {S : Nat → Prop} {T : CT} {σ s1 s2 s3 s4 s5 : MS} {c e xs xm y t tl : Nat} {r n f : Int} (hw : WT T σ) (hI : INJ S T σ) (sc : S c) (se : S e) (stl : S tl) (oc : OB T c 1) (he : OB T e 1) (ot : OB T tl 10) (x1 : CHX [] [xs] [] σ s1) (xr : s1.2.1 (1000 + xs) = uZ (σ.2.1 (1000 + xs)) r f) (kx : (T xs).1 = 4) (x2 : s2 = sA (1000 + xm) r (e : Int) s1) (km : (T xm).1 = 4) (xsm : xs ≠ xm) (hy : s2.2.1 5 e = (y : Int)) (hn : s2.2.1 6 e = n) (l1 : CHX [] [y] [] s2 s3) (l2 : LKE (cW s2 y n) (cW s3 y n)) (l3 : LNK (cW s3 y n) n) (cf : CHN T (TKS c) [adN s3 5 c, adN s3 11 c, adN s3 12 c, adN s3 13 c, adN s3 14 c, adN s3 15 c] [] s3 s4) (cp : CPC T s3 s4 c e) (sp : CHX [] [t] [] s4 s5) (ht : t = adN σ 89 tl) : TKM T σ s5 c e xs xm t r f := by
  have tk := TK1.mk hw hI se he x1 kx x2 km hy hn l1 l2 l3
  obtain ⟨i3, d3, ln3, wk3, r3, k3⟩ := tk
  have A3 : ∀ g (b : Nat), g < 1000 → adN s3 g b = adN σ g b := fun g b hg => by unfold adN; rw [k3 g b hg]
  rw [A3 5 c (by decide), A3 11 c (by decide), A3 12 c (by decide), A3 13 c (by decide), A3 14 c (by decide), A3 15 c (by decide)] at cf
  obtain ⟨cd, cw, ⟨q6, q7, q8, q9, q10⟩, q5, q14⟩ := cp
  have kc := af6_k hw oc
  have ke := af6_k hw he
  have kt := (ar_of (wf_89 hw ot) ((ad_ex (Q := fun x => AR T x 1 6 6) (wf_89 hw ot)).1)).1
  rw [← ht] at kt
  have ey : y = adN σ 5 e := by
    rw [← adN_of hy]
    unfold adN
    rw [x2, sA_k (by omega), x1.f (by decide) (by simp)]
  have ky := ke 5 (by decide)
  rw [← ey] at ky
  have neq : ∀ g, g ∈ AF6 → adN σ g c ≠ t := fun g hg => by
    rw [ht]
    have fa : g ∈ AFL ∧ cls g = 1 ∧ g ≠ 89 := by
      simp only [List.mem_cons, List.not_mem_nil, or_false] at hg
      rcases hg with rfl | rfl | rfl | rfl | rfl | rfl <;> exact ⟨by decide, rfl, by decide⟩
    exact hI.ne sc stl (by rw [fa.2.1]; exact oc) ot fa.1 (by decide) (Or.inl fa.2.2)
  have A4 : ∀ g, g ∈ [11, 12, 13, 14, 15] → adN s4 g c = adN σ g c := fun g hg => by
    simp only [List.mem_cons, List.not_mem_nil, or_false] at hg
    rw [← A3 g c (by omega)]
    unfold adN
    rw [cf.f (by omega) (by simp; omega)]
  have cs : CSM s4 s5 c := csm_chx sp (fun p hp => absurd hp (by simp)) (fun g hg q => by
    have q := List.mem_singleton.mp q
    by_cases g5 : g = 5
    · subst g5
      rcases q5 with z | z
      · have w : adN s4 5 c = adN σ 5 c := by rw [← A3 5 c (by decide)]; unfold adN; rw [z]
        rw [w] at q
        exact neq 5 (by decide) q
      · rw [q] at z; omega
    · rw [A4 g (by simp only [List.mem_cons, List.not_mem_nil, or_false] at hg ⊢; omega)] at q
      exact neq g hg q)
  have e6 : s5.2.1 6 c = σ.2.1 6 e := (cs.1 6 (by decide) (by decide)).trans (q6.trans (k3 6 e (by decide)))
  have kc' : ∀ z, z ∈ [adN σ 5 c, adN σ 11 c, adN σ 12 c, adN σ 13 c, adN σ 14 c, adN σ 15 c] → (T z).1 ≠ 4 := fun z hz => by
    simp only [List.mem_cons, List.not_mem_nil, or_false] at hz
    rcases hz with rfl | rfl | rfl | rfl | rfl | rfl
    · have := kc 5 (by decide); omega
    · have := kc 11 (by decide); omega
    · have := kc 12 (by decide); omega
    · have := kc 13 (by decide); omega
    · have := kc 14 (by decide); omega
    · have := kc 15 (by decide); omega
  have row : ∀ z, (T z).1 = 4 → s5.2.1 (1000 + z) = s2.2.1 (1000 + z) := fun z hz => by
    rw [sp.r (fun q => by rw [← List.mem_singleton.mp q] at kt; omega), cf.2.1 z (fun q => kc' z q hz) ⟨by omega, by omega⟩, l1.r (fun q => by rw [← List.mem_singleton.mp q] at ky; omega)]
  refine ⟨cs.s.trans (cd.trans d3), ⟨e6, (cs.1 7 (by decide) (by decide)).trans (q7.trans (k3 7 e (by decide))), (cs.1 8 (by decide) (by decide)).trans (q8.trans (k3 8 e (by decide))), (cs.1 9 (by decide) (by decide)).trans (q9.trans (k3 9 e (by decide))), by rw [cs.rw (f := 14) (by decide) (by decide) (by decide), q14, r3]⟩, ?_, fun q => ?_, ?_, ?_, ?_, ?_⟩
  · rw [cs.w, cw, e6]; exact ln3
  · rw [cs.w, cw, e6]; exact wk3 q
  · rw [cs.1 5 (by decide) (by decide), cs.ad (by decide) (by decide)]
    exact q5.imp (fun z => z.trans (k3 5 c (by decide))) id
  · have a1 : CHN T (TKS c) (TRS σ xs xm c e t) [] σ s1 := CHN.of x1 (by simp) (fun z q => Or.inl (by revert q; simp; omega)) (by simp)
    have a2 : CHN T (TKS c) (TRS σ xs xm c e t) [] σ s2 := by rw [x2]; exact a1.arr (Or.inl (by simp))
    have a3 := a2.trans (CHN.of (T := T) (ks2 := TKS c) (rs2 := TRS σ xs xm c e t) (ls2 := []) l1 (by simp) (fun z q => Or.inl (by rw [List.mem_singleton.mp q, ey]; simp)) (by simp))
    have a4 := a3.trans (CHN.sub cf (fun p q => q) (fun z q => by revert q; simp; omega) (by simp))
    exact a4.trans (CHN.of sp (by simp) (fun z q => Or.inl (by rw [List.mem_singleton.mp q]; simp)) (by simp))
  · rw [row xs kx, x2, sA_k (by omega)]; exact xr
  · rw [row xm km, x2, rv_up, x1.r (fun q => xsm (List.mem_singleton.mp q).symm)]
end
section
set_option maxHeartbeats 1000000 in
set_option maxRecDepth 20000 in
theorem k_X11_takeMade_x (d : Nat) {T : CT} {σ : MS} {a : Nat} {r : Int} {S : Nat → Prop} {c e : Nat} (ha : OB T a 11) (h_r : -2147483648 ≤ r ∧ r ≤ 2147483647) (hw : WT T σ) (hI : INJ S T σ) (hr : 0 ≤ r ∧ r < 6) (hcr : σ.2.1 (1000 + adN σ 99 a) r = (c : Int)) (sc : S c) (her : σ.2.1 (1000 + adN σ 34 (adN σ 100 a)) r = (e : Int)) (se : S e) (stl : S (adN σ 102 a)) (hN9 : σ.2.1 6 e ≤ 200) (hn12 : ∀ f, 0 ≤ f → f < σ.2.1 10 e → rwF σ 14 e f ≤ 12) : Tn (d + 4) m_X11_takeMade 0 T σ [(0, .ref a), (1, .int (iI r))] [] (fun ro T2 σ2 => ro = none ∧ WT T2 σ2 ∧ FrC T [5, 6, 7, 8, 9, 10] σ σ2 ∧ (TKM T σ σ2 c e (adN σ 34 (adN σ 100 a)) (adN σ 98 a) (adN σ 89 (adN σ 102 a)) r (σ.2.1 (1000 + adN σ 98 a) r))) := by
  refine tn_iload_n dX11_takeMade_0 rfl 1 rfl ?_
  refine tn_if_lt (tgt := 40) dX11_takeMade_1 (by decide) ⟨by omega, by omega⟩ (fun h1 => absurd h1 (by omega)) (fun h1 => ?_)
  refine tn_iload_n dX11_takeMade_4 rfl 1 rfl ?_
  refine tn_aload_n dX11_takeMade_5 rfl 0 rfl ?_
  obtain ⟨x2, hx3, hk4, hl5⟩ : ∃ x : Nat, σ.2.1 98 a = (x : Int) ∧ AR T x 4 6 6 := wf_98 hw ha
  have hk4i : (T x2).1 = 4 ∨ (T x2).1 = 5 := by omega
  refine tn_getR (ci := 11) (i := 3) (n := 98) (x := x2) dX11_takeMade_6 rfl lay_11 (by decide) fl11_15 ha rfl rfl (hx3) ?_
  refine tn_alenX dX11_takeMade_9 (by have q9 := hk4i; omega) ?_
  refine tn_icmp_ge (tgt := 40) dX11_takeMade_10 (by decide) ⟨by omega, by omega⟩ ⟨by omega, by omega⟩ (fun h6 => absurd h6 (by omega)) (fun h6 => ?_)
  refine tn_iload_n dX11_takeMade_13 rfl 1 rfl ?_
  refine tn_aload_n dX11_takeMade_14 rfl 0 rfl ?_
  obtain ⟨x7, hx8, hk9, hl10⟩ : ∃ x : Nat, σ.2.1 99 a = (x : Int) ∧ AR T x 5 6 6 := wf_99 hw ha
  have hk9i : (T x7).1 = 4 ∨ (T x7).1 = 5 := by omega
  refine tn_getR (ci := 11) (i := 4) (n := 99) (x := x7) dX11_takeMade_15 rfl lay_11 (by decide) fl11_19 ha rfl rfl (hx8) ?_
  refine tn_alenX dX11_takeMade_18 (by have q9 := hk9i; omega) ?_
  refine tn_icmp_ge (tgt := 40) dX11_takeMade_19 (by decide) ⟨by omega, by omega⟩ ⟨by omega, by omega⟩ (fun h11 => absurd h11 (by omega)) (fun h11 => ?_)
  refine tn_aload_n dX11_takeMade_22 rfl 0 rfl ?_
  refine tn_getR (ci := 11) (i := 4) (n := 99) (x := x7) dX11_takeMade_23 rfl lay_11 (by decide) fl11_19 ha rfl rfl (hx8) ?_
  refine tn_iload_n dX11_takeMade_26 rfl 1 rfl ?_
  obtain ⟨x12, hx13, hk14⟩ := (hw).2.2.2.1.2 x7 hk9 (r) (by omega) (by omega)
  refine tn_aald (z := r) (x := x12) dX11_takeMade_27 hk9i (by omega) (by omega) (by omega) hx13 ?_
  have hk14o : OB T x12 1 := ⟨by omega, by rw [hk14]; rfl, by omega⟩
  have ec9 : x12 = c := by have z := hx13; rw [← adN_of hx8] at z; omega
  refine tn_ifnull dX11_takeMade_28 ?_
  refine tn_aload_n dX11_takeMade_31 rfl 0 rfl ?_
  refine tn_getR (ci := 11) (i := 3) (n := 98) (x := x2) dX11_takeMade_32 rfl lay_11 (by decide) fl11_15 ha rfl rfl (hx3) ?_
  refine tn_iload_n dX11_takeMade_35 rfl 1 rfl ?_
  obtain ⟨x15, hx16, hk17⟩ := (hw).2.2.2.1.1 x2 hk4 (r) (by omega) (by omega)
  refine tn_aald (z := r) (x := x15) dX11_takeMade_36 hk4i (by omega) (by omega) (by omega) hx16 ?_
  have hk17o : OB T x15 1 := ⟨by omega, by rw [hk17]; rfl, by omega⟩
  refine tn_ifnonnull (tgt := 41) dX11_takeMade_37 (by decide) ?_
  refine tn_aload_n dX11_takeMade_41 rfl 0 rfl ?_
  refine tn_getR (ci := 11) (i := 3) (n := 98) (x := x2) dX11_takeMade_42 rfl lay_11 (by decide) fl11_15 ha rfl rfl (hx3) ?_
  refine tn_iload_n dX11_takeMade_45 rfl 1 rfl ?_
  refine tn_aload_n dX11_takeMade_46 rfl 0 rfl ?_
  obtain ⟨x18, hx19, hk20⟩ : ∃ x : Nat, σ.2.1 100 a = (x : Int) ∧ (T x).1 = 35 := wf_100 hw ha
  have hk20o : OB T x18 5 := ⟨by omega, by rw [hk20]; rfl, by omega⟩
  refine tn_getR (ci := 11) (i := 5) (n := 100) (x := x18) dX11_takeMade_47 rfl lay_11 (by decide) fl11_25 ha rfl rfl (hx19) ?_
  refine tn_iload_n dX11_takeMade_50 rfl 1 rfl ?_
  refine tn_aload_n dX11_takeMade_51 rfl 0 rfl ?_
  refine tn_getR (ci := 11) (i := 3) (n := 98) (x := x2) dX11_takeMade_52 rfl lay_11 (by decide) fl11_15 ha rfl rfl (hx3) ?_
  refine tn_iload_n dX11_takeMade_55 rfl 1 rfl ?_
  obtain ⟨x22, hx23, hk24⟩ := (hw).2.2.2.1.1 x2 hk4 (r) (by omega) (by omega)
  refine tn_aald (z := r) (x := x22) dX11_takeMade_56 hk4i (by omega) (by omega) (by omega) hx23 ?_
  have hk24o : OB T x22 1 := ⟨by omega, by rw [hk24]; rfl, by omega⟩
  obtain ⟨x25, hx26, hk27, hl28⟩ : ∃ x : Nat, σ.2.1 34 x18 = (x : Int) ∧ AR T x 4 7 7 := wf_34 hw hk20o
  have hk27i : (T x25).1 = 4 ∨ (T x25).1 = 5 := by omega
  refine tn_callV (M := m_X11_takeMade) (pc := 57) (ix := 285) (ci := 5) (M' := m_X5_exchange) (As := [.int (iI r), .ref x22]) (rest := [.int (iI r), .ref x2]) dX11_takeMade_57 ok_X5_exchange im_X5_exchange se_X5_exchange ml11_285 np_X5_exchange rfl rfl hk20o rfl (Nat.le_of_ble_eq_true rfl) (Nat.le_of_ble_eq_true rfl) rfl (k_X5_exchange_x (d + 2) (T := T) (σ := σ) (a := x18) (r := r) (p2 := x22) (xs := x25) hk20o (by omega) hk24o hk24 hw (hx26) (by omega)) (fun r29 T31 σ30 gt32 hp => ?_)
  obtain ⟨v36, rfl, rfl, w37, F38, rv39, f33, f34, f35⟩ := hp
  clear gt32
  obtain ⟨x40, rfl, hk41⟩ := rv39
  show Tn _ _ 60 T σ30 [(0, .ref a), (1, .int (iI r))] (vl true (x40 : Int) :: [.int (iI r), .ref x2]) _
  rw [vl_ref rfl]
  have hk41o : OB T x40 1 := ⟨by omega, by rw [hk41]; rfl, by omega⟩
  have her9 : σ.2.1 (1000 + x25) r = (e : Int) := by rw [← adN_of (hx26), ← adN_of hx19]; exact her
  have ee9 : x40 = e := by have z := f34; omega
  have ef9 := hx23
  refine tn_aastQ (z := r) (v := x40) dX11_takeMade_60 (by have q9 := hk4i; omega) hk41o.r (by omega) (by omega) (by omega) ?_
  refine tn_aload_n dX11_takeMade_61 rfl 0 rfl ?_
  refine tn_getR (ci := 11) (i := 3) (n := 98) (x := x2) dX11_takeMade_62 rfl lay_11 (by decide) fl11_15 ha rfl rfl (rc_a (Or.inl (by decide)) (rc_F F38 (Or.inl (by decide)) (by decide) (hx3))) ?_
  refine tn_iload_n dX11_takeMade_65 rfl 1 rfl ?_
  obtain ⟨x42, hx43, hk44⟩ := ((show WT T (sA (1000 + x2) (r) (x40 : Int) σ30) from (w37.rq (by have h1 := hk4; have h2 := hk41; omega)))).2.2.2.1.1 x2 hk4 (r) (by omega) (by omega)
  refine tn_aald (z := r) (x := x42) dX11_takeMade_66 hk4i (by omega) (by omega) (by omega) hx43 ?_
  have hk44o : OB T x42 1 := ⟨by omega, by rw [hk44]; rfl, by omega⟩
  have e19 : x42 = x40 := by have z := hx43; rw [rv_up, uZ_eq] at z; omega
  obtain ⟨x45, hx46, hl48, hk47a, hk47b⟩ := wf_5 hw hk44o
  have hk47 : (T x45).1 = 13 := hk47b (by omega)
  clear hk47a hk47b
  have hk47i : IA T x45 := by unfold IA; omega
  refine tn_callV (M := m_X11_takeMade) (pc := 67) (ix := 198) (ci := 1) (M' := m_X1_link) (As := []) (rest := []) dX11_takeMade_67 ok_X1_link im_X1_link se_X1_link ml11_198 np_X1_link rfl rfl hk44o rfl (Nat.le_of_ble_eq_true rfl) (Nat.le_of_ble_eq_true rfl) rfl (k_X1_link_x (d) (T := T) (σ := (sA (1000 + x2) (r) (x40 : Int) σ30)) (a := x42) (x := x45) (n := σ.2.1 6 x42) (W := cW (sA (1000 + x2) (r) (x40 : Int) σ30) x45 (σ.2.1 6 x42)) hk44o (w37.rq (by have h1 := hk4; have h2 := hk41; omega)) (rc_a (Or.inl (by decide)) (rc_F F38 (Or.inl (by decide)) (by decide) (hx46))) (rc_a (Or.inl (by decide)) (rc_F F38 (Or.inl (by decide)) (by decide) (rfl))) rfl (by rw [e19, ee9]; exact hN9)) (fun r49 T51 σ50 gt52 hp => ?_)
  obtain ⟨rfl, rfl, w57, F58, f53, f54, f55⟩ := hp
  clear gt52
  show Tn _ _ 70 T σ50 [(0, .ref a), (1, .int (iI r))] [] _
  have kxs9 : (T x25).1 = 4 := by omega
  have kxm9 : (T x2).1 = 4 := by omega
  have tk9 : TK1 S T σ σ50 x42 := TK1.mk (xs := x25) (xm := x2) (s1 := σ30) (s2 := (sA (1000 + x2) (r) (x40 : Int) σ30)) hw hI (by rw [e19, ee9]; exact se) hk44o f33 (by omega) rfl (by omega) (rc_a (Or.inl (by decide)) (rc_F F38 (Or.inl (by decide)) (by decide) (hx46))) (rc_a (Or.inl (by decide)) (rc_F F38 (Or.inl (by decide)) (by decide) (rfl))) f53 f54 f55
  refine tn_aload_n dX11_takeMade_70 rfl 0 rfl ?_
  refine tn_getR (ci := 11) (i := 4) (n := 99) (x := x7) dX11_takeMade_71 rfl lay_11 (by decide) fl11_19 ha rfl rfl (rc_F F58 (Or.inl (by decide)) (by decide) (rc_a (Or.inl (by decide)) (rc_F F38 (Or.inl (by decide)) (by decide) (hx8)))) ?_
  refine tn_iload_n dX11_takeMade_74 rfl 1 rfl ?_
  obtain ⟨x59, hx60, hk61⟩ := (w57).2.2.2.1.2 x7 hk9 (r) (by omega) (by omega)
  refine tn_aald (z := r) (x := x59) dX11_takeMade_75 hk9i (by omega) (by omega) (by omega) hx60 ?_
  have hk61o : OB T x59 1 := ⟨by omega, by rw [hk61]; rfl, by omega⟩
  have rc9 : σ50.2.1 (1000 + x7) = σ.2.1 (1000 + x7) := (f53.r (fun q => by have q2 : x7 = x45 := List.mem_singleton.mp q; have z2 : (T x7).1 = (T x45).1 := (by rw [q2]); omega)).trans ((sA_k (fun q => by have q2 : x7 = x2 := (by omega); have z2 : (T x7).1 = (T x2).1 := (by rw [q2]); omega)).trans (f33.r (fun q => by have q2 : x7 = x25 := List.mem_singleton.mp q; have z2 : (T x7).1 = (T x25).1 := (by rw [q2]); omega)))
  have c19 : x59 = c := by have z := hx60; rw [rc9, ← adN_of hx8] at z; omega
  refine tn_aload_n dX11_takeMade_76 rfl 0 rfl ?_
  refine tn_getR (ci := 11) (i := 3) (n := 98) (x := x2) dX11_takeMade_77 rfl lay_11 (by decide) fl11_15 ha rfl rfl (rc_F F58 (Or.inl (by decide)) (by decide) (rc_a (Or.inl (by decide)) (rc_F F38 (Or.inl (by decide)) (by decide) (hx3)))) ?_
  refine tn_iload_n dX11_takeMade_80 rfl 1 rfl ?_
  obtain ⟨x62, hx63, hk64⟩ := (w57).2.2.2.1.1 x2 hk4 (r) (by omega) (by omega)
  refine tn_aald (z := r) (x := x62) dX11_takeMade_81 hk4i (by omega) (by omega) (by omega) hx63 ?_
  have hk64o : OB T x62 1 := ⟨by omega, by rw [hk64]; rfl, by omega⟩
  have oc9 : OB T x59 1 := hk61o
  have oe9 : OB T x42 1 := hk44o
  have et9 := ad_ex (Q := fun x => (T x).1 = 40) (wf_102 hw ha)
  have ot9 : OB T (adN σ 102 a) 10 := ⟨by have := et9.2; omega, by rw [et9.2]; rfl, by have := et9.2; omega⟩
  have rm9 : σ50.2.1 (1000 + x2) r = (x40 : Int) := by rw [f53.r (fun q => by have q2 : x2 = x45 := List.mem_singleton.mp q; have z2 : (T x2).1 = (T x45).1 := (by rw [q2]); omega), rv_up, uZ_eq]
  have e29 : x62 = x42 := by have z := hx63; rw [rm9] at z; omega
  refine tn_callV (M := m_X11_takeMade) (pc := 82) (ix := 289) (ci := 1) (M' := m_X1_copyFrom) (As := [.ref x62]) (rest := []) dX11_takeMade_82 ok_X1_copyFrom im_X1_copyFrom se_X1_copyFrom ml11_289 np_X1_copyFrom rfl rfl hk61o rfl (Nat.le_of_ble_eq_true rfl) (Nat.le_of_ble_eq_true rfl) rfl (k_copyFrom_c (d) (T := T) (σ := σ50) (a := x59) (e := x62) (S := S) hk61o hk61 hk64o hk64 w57 (by rw [c19]; exact sc) (by rw [e29, e19, ee9]; exact se) tk9.1 (by rw [e29, tk9.2.2.2.2.2 6 _ (by decide), e19, ee9]; exact hN9) (fun f a b => by rw [e29] at b ⊢; rw [tk9.2.2.2.2.2 10 _ (by decide)] at b; rw [tk9.2.2.2.2.1]; rw [e19, ee9] at b ⊢; exact hn12 f a b)) (fun r65 T67 σ66 gt68 hp => ?_)
  obtain ⟨rfl, w72, F73, f69, f70⟩ := hp
  replace ha : OB T67 a 11 := gt68.ob ha
  show Tn _ _ 85 T67 σ66 [(0, .ref a), (1, .int (iI r))] [] _
  refine tn_aload_n dX11_takeMade_85 rfl 0 rfl ?_
  obtain ⟨x74, hx75, hk76⟩ : ∃ x : Nat, σ66.2.1 102 a = (x : Int) ∧ (T67 x).1 = 40 := wf_102 w72 ha
  have hk76o : OB T67 x74 10 := ⟨by omega, by rw [hk76]; rfl, by omega⟩
  refine tn_getR (ci := 11) (i := 7) (n := 102) (x := x74) dX11_takeMade_86 rfl lay_11 (by decide) fl11_39 ha rfl rfl (hx75) ?_
  refine tn_iload_n dX11_takeMade_89 rfl 1 rfl ?_
  obtain ⟨x78, hx79, hk80, hl81⟩ : ∃ x : Nat, σ66.2.1 89 x74 = (x : Int) ∧ AR T67 x 1 6 6 := wf_89 w72 hk76o
  have hk80i : IA T67 x78 := by unfold IA; omega
  refine tn_callV (M := m_X11_takeMade) (pc := 90) (ix := 201) (ci := 10) (M' := m_X10_spoil) (As := [.int (iI r)]) (rest := []) dX11_takeMade_90 ok_X10_spoil im_X10_spoil se_X10_spoil ml11_201 np_X10_spoil rfl rfl hk76o rfl (Nat.le_of_ble_eq_true rfl) (Nat.le_of_ble_eq_true rfl) rfl (k_X10_spoil_x (d + 1) (T := T67) (σ := σ66) (a := x74) (p1 := r) (xf := x78) hk76o (by omega) w72 (hx79)) (fun r82 T84 σ83 gt85 hp => ?_)
  obtain ⟨rfl, rfl, w88, F89, f86⟩ := hp
  clear gt85
  show Tn _ _ 93 T67 σ83 [(0, .ref a), (1, .int (iI r))] [] _
  have to9 : x74 = adN σ 102 a := by have z := hx75; have z2 : σ66.2.1 102 a = σ.2.1 102 a := (f69.f (a := a) (by decide) (by simp)).trans (tk9.2.2.2.2.2 102 a (by decide)); rw [z2, et9.1] at z; omega
  have sx9 : x78 = adN σ 89 (adN σ 102 a) := by have z : σ66.2.1 89 x74 = (x78 : Int) := (hx79); have z2 : σ66.2.1 89 x74 = σ.2.1 89 x74 := (f69.f (a := x74) (by decide) (by simp)).trans (tk9.2.2.2.2.2 89 _ (by decide)); rw [z2] at z; rw [← to9]; exact (adN_of z).symm
  have tm9 := TKM.mk (S := S) (c := x59) (e := x42) (xs := x25) (xm := x2) (t := x78) (tl := adN σ 102 a) (r := r) (f := (x22 : Int)) (s1 := σ30) (s2 := (sA (1000 + x2) (r) (x40 : Int) σ30)) (s3 := σ50) (s4 := σ66) (s5 := σ83) hw hI (by rw [c19]; exact sc) (by rw [e19, ee9]; exact se) stl oc9 oe9 ot9 f33 f35 kxs9 (by rw [e19]) kxm9 (fun q => by have z2 : (T x25).2 = (T x2).2 := (by rw [q]); omega) (rc_a (Or.inl (by decide)) (rc_F F38 (Or.inl (by decide)) (by decide) (hx46))) (rc_a (Or.inl (by decide)) (rc_F F38 (Or.inl (by decide)) (by decide) (rfl))) f53 f54 f55 f69 (by have z := f70; rw [e29] at z; exact z) f86 sx9
  exact tn_vret rfl dX11_takeMade_93 ⟨rfl, w88, (((((FrC.rfl.trans (FrC.sub F38 (by decide))).arr (hk_no (nh_k hk4 (by unfold HT; omega)))).trans (FrC.sub F58 (by decide))).trans (FrC.sub F73 (by decide))).trans (FrC.sub (FrC.old F89 gt68) (by decide))), (by have z := tm9; rw [c19, e19, ee9] at z; rw [adN_of hx19, adN_of (hx26), adN_of hx3, ← sx9, ef9]; exact z)⟩
end
section
section MKC
variable {T : CT} {σ : MS} {a : Nat} {i k p q : Int}
def APC (T : CT) (σ σ2 : MS) (a : Nat) (k p q : Int) : Prop := (σ.2.1 6 a < 200 → cdW σ2 a = uZ (cdW σ a) (σ.2.1 6 a) (rwI k p q)) ∧ (σ2.2.1 5 a = σ.2.1 5 a ∨ (T (adN σ2 5 a)).1 = 0)
def LOC (σ σ2 : MS) (a : Nat) (i k p : Int) : Prop := σ.2.1 6 a ≤ 200 → cdW σ2 a = uZ (cdW σ a) (σ.2.1 6 a - 1) (uZ (uZ (cdW σ a (σ.2.1 6 a - 1)) (3 + 2 * i) k) (4 + 2 * i) p)
theorem k_append_c (d : Nat) (ha : OB T a 1) (hta : (T a).1 = 31) (h_k : -2147483648 ≤ k ∧ k ≤ 2147483647) (h_p : -2147483648 ≤ p ∧ p ≤ 2147483647) (h_q : -2147483648 ≤ q ∧ q ≤ 2147483647) (hw : WT T σ) (hc : σ.2.1 6 a ≤ 4999) (hk : k ≠ 14 ∧ k ≠ 15) : Tn (d + 3) m_X1_append 0 T σ [(0, .ref a), (1, .int (iI k)), (2, .int (iI p)), (3, .int (iI q))] [] (fun ro T2 σ2 => ro = none ∧ WT T2 σ2 ∧ FrC T [5, 6] σ σ2 ∧ (σ2.2.1 6 a = σ.2.1 6 a + 1) ∧ (CHN T [(5, a), (6, a)] [adN σ 5 a] [] σ σ2) ∧ (APC T σ σ2 a k p q)) := by
  have e5 := ad_1 hw ha 5 (by decide)
  refine (k_X1_append_x d ha hta h_k h_p h_q hw e5 rfl rfl hc hk).mono (fun ro T2 σ2 hp => ?_)
  obtain ⟨p1, p2, p3, ch, p5, x2, x5, xe, cw⟩ := hp
  have ax : adN σ2 5 a = x2 := adN_of x5
  refine ⟨p1, p2, p3, p5, ch, fun z => ?_, ?_⟩
  · have w := cw z
    unfold cdW
    rw [ax, p5]
    exact w
  · rcases xe with z | z
    · exact Or.inl (by rw [x5, z]; exact e5.symm)
    · exact Or.inr (by rw [ax]; exact z)
theorem k_lastOperand_c (d : Nat) (ha : OB T a 1) (hta : (T a).1 = 31) (h_i : -2147483648 ≤ i ∧ i ≤ 2147483647) (h_k : -2147483648 ≤ k ∧ k ≤ 2147483647) (h_p : -2147483648 ≤ p ∧ p ≤ 2147483647) (hw : WT T σ) (hc : 1 ≤ σ.2.1 6 a) (hi : 0 ≤ i ∧ i ≤ 3) : Tn (d + 1) m_X1_lastOperand 0 T σ [(0, .ref a), (1, .int (iI i)), (2, .int (iI k)), (3, .int (iI p))] [] (fun ro T2 σ2 => ro = none ∧ T = T2 ∧ WT T2 σ2 ∧ FrC T [] σ σ2 ∧ (CHX [] [adN σ 5 a] [] σ σ2) ∧ (LOC σ σ2 a i k p)) := by
  have e5 := ad_1 hw ha 5 (by decide)
  have n6 := wf_6 hw ha
  refine (k_X1_lastOperand_x d ha hta h_i h_k h_p hw e5 rfl rfl (by omega) hi).mono (fun ro T2 σ2 hp => ?_)
  obtain ⟨p1, p2, p3, p4, ch, lo⟩ := hp
  refine ⟨p1, p2, p3, p4, ch, fun z => ?_⟩
  have w := lo z
  have ax : adN σ2 5 a = adN σ 5 a := by unfold adN; rw [ch.f (by decide) (by simp)]
  unfold cdW
  rw [ax, ch.f (a := a) (n := 6) (by decide) (by simp)]
  exact w
end MKC
theorem jn_it {k p e l b v : Int} : uZ (uZ (uZ (uZ (rwI k p 0) (3 + 2 * 0) e) (4 + 2 * 0) l) (3 + 2 * 1) b) (4 + 2 * 1) v = it2 k p e l b v := by
  funext c
  show (if c = 6 then v else if c = 5 then b else if c = 4 then l else if c = 3 then e else if c = 0 then k else if c = 1 then p else if c = 2 then 0 else 0) = if c = 0 then k else if c = 1 then p else if c = 3 then e else if c = 4 then l else if c = 5 then b else if c = 6 then v else 0
  by_cases a6 : c = 6
  · subst a6; rfl
  · by_cases a5 : c = 5
    · subst a5; rfl
    · by_cases a4 : c = 4
      · subst a4; rfl
      · by_cases a3 : c = 3
        · subst a3; rfl
        · rw [if_neg a6, if_neg a5, if_neg a4, if_neg a3, if_neg a6, if_neg a5, if_neg a4, if_neg a3]
          by_cases a0 : c = 0
          · rw [if_pos a0, if_pos a0]
          · by_cases a1 : c = 1
            · rw [if_neg a0, if_pos a1, if_neg a0, if_pos a1]
            · rw [if_neg a0, if_neg a1, if_neg a0, if_neg a1]
              by_cases a2 : c = 2
              · rw [if_pos a2]
              · rw [if_neg a2]
theorem cdw_fld {σ : MS} {j c : Nat} {b v : Int} (h5 : j ≠ 5) (h6 : j ≠ 6) (h : j < 1000) : cdW (sA j b v σ) c = cdW σ c := by
  unfold cdW adN
  rw [sA_k (Ne.symm h5), sA_k (Ne.symm h6), cW_fld h]
end
section
section GCMS
variable {S : Int → Int} {nm : Int → Int64 → Int} {rn : Int64 → Int} {tb : Int → Int} {ks ls ms l : List Nat} {j i k : Nat} {x y z : Int × Int × Int} {q p r : QR} {F G : MK → MK}
def GCM (S : Int → Int) (nm : Int → Int64 → Int) (rn : Int64 → Int) (tb : Int → Int) (ks : List Nat) (j : Nat) (x : Int × Int × Int) (q : QR) (ls : List Nat) (i : Nat) (y : Int × Int × Int) (p : QR) (F : MK → MK) : Prop := ∀ t, TEQ t (tkS S j) → ∃ (t' : TK) (l : List EV), TEQ t' (tkS S i) ∧ ∀ (K : List Nat) (ρ : List EV) (m : MK), RM S nm rn tb (ks ++ K, t, x, q, ρ) m (ls ++ K, t', y, p, ρ ++ l) (F m)
theorem GCM.nl : GCM S nm rn tb ks j x q ks j x q id := fun t h => ⟨t, [], h, fun K ρ m => by rw [List.append_nil]; exact RM.rfl⟩
theorem GCM.gg (h : GCM S nm rn tb ks j x q ls i y p F) (g : GCM S nm rn tb ls i y p ms k z r G) : GCM S nm rn tb ks j x q ms k z r (fun m => G (F m)) := fun t a => by
  obtain ⟨t1, l1, a1, b1⟩ := h t a
  obtain ⟨t2, l2, a2, b2⟩ := g t1 a1
  refine ⟨t2, l1 ++ l2, a2, fun K ρ m => ?_⟩
  have w := b2 K (ρ ++ l1) (F m)
  rw [List.append_assoc] at w
  exact (b1 K ρ m).trans w
theorem GCM.ml (n : List Nat) (h : GCM S nm rn tb ks j x q ls i y p F) : GCM S nm rn tb (ks ++ n) j x q (ls ++ n) i y p F := fun t a => by
  obtain ⟨t1, l1, a1, b1⟩ := h t a
  refine ⟨t1, l1, a1, fun K ρ m => ?_⟩
  rw [List.append_assoc, List.append_assoc]
  exact b1 (n ++ K) ρ m
theorem GCM.st {k0 : Nat} (h : ∀ t, TEQ t (tkS S j) → ∃ (t' : TK) (l : List EV), TEQ t' (tkS S i) ∧ stk S k0 t x q = some (ls, t', y, p, l) ∧ ∀ m, mkk S nm rn tb k0 t q m = F m) : GCM S nm rn tb [k0] j x q ls i y p F := fun t a => by
  obtain ⟨t1, l1, a1, b1, c1⟩ := h t a
  refine ⟨t1, l1, a1, fun K ρ m => ?_⟩
  rw [← c1 m]
  exact RM.step b1
theorem GCM.cg (h : GCM S nm rn tb ks j x q ls i y p F) (e : ∀ m, F m = G m) : GCM S nm rn tb ks j x q ls i y p G := fun t a => by
  obtain ⟨t1, l1, a1, b1⟩ := h t a
  exact ⟨t1, l1, a1, fun K ρ m => by rw [← e m]; exact b1 K ρ m⟩
def GM (S : Int → Int) (nm : Int → Int64 → Int) (rn : Int64 → Int) (tb : Int → Int) (ks : List Nat) (j : Nat) (e b : Int) (u : UR) (ls : List Nat) (i : Nat) (f d : Int) (w : UR) (n : Int) (F : MK → MK) : Prop := ∀ N pm rp : Int, GCM S nm rn tb ks j (e, b, N) (u.1, u.2.1, u.2.2, pm, rp) ls i (f, d, N + n) (w.1, w.2.1, w.2.2, pm, rp) F
variable {e b f d f2 d2 n n2 : Int} {u w w2 : UR}
theorem GM.nl : GM S nm rn tb ks j e b u ks j e b u 0 id := fun N pm rp => by rw [Int.add_zero]; exact GCM.nl
theorem GM.gg (z : List Nat) (h : GM S nm rn tb ks j e b u (l ++ z) i f d w n F) (g : GM S nm rn tb l i f d w ms k f2 d2 w2 n2 G) : GM S nm rn tb ks j e b u (ms ++ z) k f2 d2 w2 (n + n2) (fun m => G (F m)) := fun N pm rp => by
  have v := (g (N + n) pm rp).ml z
  rw [Int.add_assoc] at v
  exact (h N pm rp).gg v
end GCMS
section MSTEPS
variable {S : Int → Int} {nm : Int → Int64 → Int} {rn : Int64 → Int} {tb : Int → Int} {j : Nat} {e b : Int} {u : UR}
theorem gm0m (hS : SB S) (h : ckd (tkS S j) = 45) : GM S nm rn tb [0] j e b u [1, 51] (j + 1) e b u 0 (fun m => m.push (0, 2, 1, [(0, 0)])) := fun N pm rp => by
  rw [Int.add_zero]; exact GCM.st (fun t a => ⟨(advT S t.2.1), _, a.nx, if_pos ((kdS hS a (c := 45) (by decide)).mp h), fun m => if_pos ((kdS hS a (c := 45) (by decide)).mp h)⟩)
theorem gm0n (hS : SB S) (h : ckd (tkS S j) ≠ 45) : GM S nm rn tb [0] j e b u [1] j e b u 0 id := fun N pm rp => by
  rw [Int.add_zero]; exact GCM.st (fun t a => ⟨t, _, a, if_neg (fun q => absurd ((kdS hS a (c := 45) (by decide)).mpr q) h), fun m => if_neg (fun q => absurd ((kdS hS a (c := 45) (by decide)).mpr q) h)⟩)
theorem gm1d (hS : SB S) (h : ckd (tkS S j) = 257) : GM S nm rn tb [1] j e b u [] (j + 1) e b u 0 (fun m => m.sP 1 (tkS S j).2.2.2.1) := fun N pm rp => by
  rw [Int.add_zero]; exact GCM.st (fun t a => ⟨(advT S t.2.1), _, a.nx, if_pos (Or.inl ((kd3 hS a).mp h)), fun m => (if_pos ((kd3 hS a).mp h)).trans (by rw [a.2.2.2.2 (fun q => by have z := (kd3 hS a).mp h; rw [a.2.2.1] at z; omega)])⟩)
theorem gm1w (hS : SB S) (h : ckd (tkS S j) = 256) : GM S nm rn tb [1] j e b u [] (j + 1) e b u 0 (fun m => m.sP 2 (nm m.rt (tkS S j).2.2.2.2)) := fun N pm rp => by
  rw [Int.add_zero]; exact GCM.st (fun t a => ⟨(advT S t.2.1), _, a.nx, if_pos (Or.inr ((kdN hS a).mp h)), fun m => (if_neg (fun q => absurd ((kd3 hS a).mpr q) (by rw [h]; decide))).trans ((if_pos ((kdN hS a).mp h)).trans (by rw [a.2.2.2.1]))⟩)
end MSTEPS
end
section
section YSTEPS
variable {S : Int → Int} {nm : Int → Int64 → Int} {rn : Int64 → Int} {tb : Int → Int} {j : Nat} {e b : Int} {u : UR}
theorem gm1p (hS : SB S) (h : ckd (tkS S j) = 40) : GM S nm rn tb [1] j e b u [2, 141] (j + 1) e b u 0 id := fun N pm rp => by
  rw [Int.add_zero]; exact GCM.st (fun t a => ⟨(advT S t.2.1), _, a.nx, ((if_neg (fun q => q.elim (fun q => absurd ((kd3 hS a).mpr q) (by rw [h]; decide)) (fun q => absurd ((kdN hS a).mpr q) (by rw [h]; decide))))).trans (if_pos ((kdS hS a (c := 40) (by decide)).mp h)), fun m => (if_neg (fun q => absurd ((kd3 hS a).mpr q) (by rw [h]; decide))).trans (if_neg (fun q => absurd ((kdN hS a).mpr q) (by rw [h]; decide)))⟩)
theorem gm2 (hS : SB S) (h : e ≠ 8) : GM S nm rn tb [2] j e b u [3, 6] j (e + 1) b u 0 id := fun N pm rp => by
  rw [Int.add_zero]; exact GCM.st (fun t a => ⟨t, _, a, if_neg h, fun m => rfl⟩)
theorem gm3 (hS : SB S)  : GM S nm rn tb [3] j e b u [4, 8] j e b u 0 id := fun N pm rp => by
  rw [Int.add_zero]; exact GCM.st (fun t a => ⟨t, _, a, rfl, fun m => rfl⟩)
theorem gm4 (hS : SB S)  : GM S nm rn tb [4] j e b u [0, 9] j e b u 0 id := fun N pm rp => by
  rw [Int.add_zero]; exact GCM.st (fun t a => ⟨t, _, a, rfl, fun m => rfl⟩)
theorem gm6e (hS : SB S) (h : ckd (tkS S j) = 61) : GM S nm rn tb [6] j e b u [3, 51, 7] (j + 1) e b u 0 (fun m => m.push (0, 4, m.pk, [(m.pv, 0)])) := fun N pm rp => by
  rw [Int.add_zero]; exact GCM.st (fun t a => ⟨(advT S t.2.1), _, a.nx, if_pos (Or.inl ((kdS hS a (c := 61) (by decide)).mp h)), fun m => if_pos ((kdS hS a (c := 61) (by decide)).mp h)⟩)
theorem gm6l (hS : SB S) (h : ckd (tkS S j) = 60) : GM S nm rn tb [6] j e b u [3, 51, 7] (j + 1) e b u 0 (fun m => m.push (0, 5, m.pk, [(m.pv, 0)])) := fun N pm rp => by
  rw [Int.add_zero]; exact GCM.st (fun t a => ⟨(advT S t.2.1), _, a.nx, if_pos (Or.inr ((kdS hS a (c := 60) (by decide)).mp h)), fun m => (if_neg (fun q => absurd ((kdS hS a (c := 61) (by decide)).mpr q) (by rw [h]; decide))).trans (if_pos ((kdS hS a (c := 60) (by decide)).mp h))⟩)
theorem gm6n (hS : SB S) (h1 : ckd (tkS S j) ≠ 61) (h2 : ckd (tkS S j) ≠ 60) : GM S nm rn tb [6] j e b u [7] j e b u 0 id := fun N pm rp => by
  rw [Int.add_zero]; exact GCM.st (fun t a => ⟨t, _, a, if_neg (fun q => q.elim (fun q => absurd ((kdS hS a (c := 61) (by decide)).mpr q) h1) (fun q => absurd ((kdS hS a (c := 60) (by decide)).mpr q) h2)), fun m => (if_neg (fun q => absurd ((kdS hS a (c := 61) (by decide)).mpr q) h1)).trans (if_neg (fun q => absurd ((kdS hS a (c := 60) (by decide)).mpr q) h2))⟩)
theorem gm7 (hS : SB S)  : GM S nm rn tb [7] j e b u [] j (e - 1) b u 0 id := fun N pm rp => by
  rw [Int.add_zero]; exact GCM.st (fun t a => ⟨t, _, a, rfl, fun m => rfl⟩)
theorem gm8p (hS : SB S) (h : ckd (tkS S j) = 43) : GM S nm rn tb [8] j e b u [4, 51, 8] (j + 1) e b u 0 (fun m => m.push (0, 1, m.pk, [(m.pv, 0)])) := fun N pm rp => by
  rw [Int.add_zero]; exact GCM.st (fun t a => ⟨(advT S t.2.1), _, a.nx, if_pos (Or.inl ((kdS hS a (c := 43) (by decide)).mp h)), fun m => if_pos ((kdS hS a (c := 43) (by decide)).mp h)⟩)
theorem gm8m (hS : SB S) (h : ckd (tkS S j) = 45) : GM S nm rn tb [8] j e b u [4, 51, 8] (j + 1) e b u 0 (fun m => m.push (0, 2, m.pk, [(m.pv, 0)])) := fun N pm rp => by
  rw [Int.add_zero]; exact GCM.st (fun t a => ⟨(advT S t.2.1), _, a.nx, if_pos (Or.inr ((kdS hS a (c := 45) (by decide)).mp h)), fun m => (if_neg (fun q => absurd ((kdS hS a (c := 43) (by decide)).mpr q) (by rw [h]; decide))).trans (if_pos ((kdS hS a (c := 45) (by decide)).mp h))⟩)
theorem gm8n (hS : SB S) (h1 : ckd (tkS S j) ≠ 43) (h2 : ckd (tkS S j) ≠ 45) : GM S nm rn tb [8] j e b u [] j e b u 0 id := fun N pm rp => by
  rw [Int.add_zero]; exact GCM.st (fun t a => ⟨t, _, a, if_neg (fun q => q.elim (fun q => absurd ((kdS hS a (c := 43) (by decide)).mpr q) h1) (fun q => absurd ((kdS hS a (c := 45) (by decide)).mpr q) h2)), fun m => (if_neg (fun q => absurd ((kdS hS a (c := 43) (by decide)).mpr q) h1)).trans (if_neg (fun q => absurd ((kdS hS a (c := 45) (by decide)).mpr q) h2))⟩)
theorem gm9y (hS : SB S) (h : ckd (tkS S j) = 42) : GM S nm rn tb [9] j e b u [0, 51, 9] (j + 1) e b u 0 (fun m => m.push (0, 3, m.pk, [(m.pv, 0)])) := fun N pm rp => by
  rw [Int.add_zero]; exact GCM.st (fun t a => ⟨(advT S t.2.1), _, a.nx, if_pos ((kdS hS a (c := 42) (by decide)).mp h), fun m => if_pos ((kdS hS a (c := 42) (by decide)).mp h)⟩)
theorem gm9n (hS : SB S) (h : ckd (tkS S j) ≠ 42) : GM S nm rn tb [9] j e b u [] j e b u 0 id := fun N pm rp => by
  rw [Int.add_zero]; exact GCM.st (fun t a => ⟨t, _, a, if_neg (fun q => absurd ((kdS hS a (c := 42) (by decide)).mpr q) h), fun m => (if_neg (fun q => absurd ((kdS hS a (c := 42) (by decide)).mpr q) h))⟩)
theorem gm51 (hS : SB S)  : GM S nm rn tb [51] j e b u [] j e b u 1 (fun m => m.one tb) := fun N pm rp => by
  exact GCM.st (fun t a => ⟨t, _, a, rfl, fun m => rfl⟩)
theorem gm52 (hS : SB S)  : GM S nm rn tb [52] j e b u [] j e b u 2 (fun m => m.two) := fun N pm rp => by
  exact GCM.st (fun t a => ⟨t, _, a, rfl, fun m => rfl⟩)
theorem gm20w (hS : SB S) (h : ckd (tkS S j) = 262) : GM S nm rn tb [20] j e b u [22] j e b u 0 (fun m => m.stm) := fun N pm rp => by
  rw [Int.add_zero]; exact GCM.st (fun t a => ⟨t, _, a, if_pos ((kdW hS a).mp h), fun m => if_pos ((kdW hS a).mp h)⟩)
theorem gm20i (hS : SB S) (h : ckd (tkS S j) = 260) : GM S nm rn tb [20] j e b u [51, 21] j e b u 0 (fun m => m.stm.push (1, 0, 0, [])) := fun N pm rp => by
  rw [Int.add_zero]; exact GCM.st (fun t a => ⟨t, _, a, (if_neg (fun q => absurd ((kdW hS a).mpr q) (by rw [h]; decide))).trans (if_pos ((kdI hS a).mp h)), fun m => if_neg (fun q => absurd ((kdW hS a).mpr q) (by rw [h]; decide))⟩)
theorem gm20o (hS : SB S) (h : ckd (tkS S j) = 258) : GM S nm rn tb [20] j e b u [51, 39] j e b u 0 (fun m => m.stm.push (1, 0, 0, [])) := fun N pm rp => by
  rw [Int.add_zero]; exact GCM.st (fun t a => ⟨t, _, a, (if_neg (fun q => absurd ((kdW hS a).mpr q) (by rw [h]; decide))).trans ((if_neg (fun q => absurd ((kdI hS a).mpr q) (by rw [h]; decide))).trans (if_pos (Or.inl ((kdO hS a).mp h)))), fun m => if_neg (fun q => absurd ((kdW hS a).mpr q) (by rw [h]; decide))⟩)
theorem gm20r (hS : SB S) (h : ckd (tkS S j) = 259) : GM S nm rn tb [20] j e b u [51, 39] j e b u 0 (fun m => m.stm.push (1, 0, 0, [])) := fun N pm rp => by
  rw [Int.add_zero]; exact GCM.st (fun t a => ⟨t, _, a, (if_neg (fun q => absurd ((kdW hS a).mpr q) (by rw [h]; decide))).trans ((if_neg (fun q => absurd ((kdI hS a).mpr q) (by rw [h]; decide))).trans (if_pos (Or.inr ((kdR hS a).mp h)))), fun m => if_neg (fun q => absurd ((kdW hS a).mpr q) (by rw [h]; decide))⟩)
theorem gm20n (hS : SB S) (h : ckd (tkS S j) = 256) : GM S nm rn tb [20] j e b u [51, 23] j e b u 0 (fun m => m.stm.push (1, 0, 0, [])) := fun N pm rp => by
  rw [Int.add_zero]; exact GCM.st (fun t a => ⟨t, _, a, (if_neg (fun q => absurd ((kdW hS a).mpr q) (by rw [h]; decide))).trans ((if_neg (fun q => absurd ((kdI hS a).mpr q) (by rw [h]; decide))).trans ((if_neg (fun q => q.elim (fun q => absurd ((kdO hS a).mpr q) (by rw [h]; decide)) (fun q => absurd ((kdR hS a).mpr q) (by rw [h]; decide)))).trans (if_pos ((kdN hS a).mp h)))), fun m => if_neg (fun q => absurd ((kdW hS a).mpr q) (by rw [h]; decide))⟩)
theorem gm21 (hS : SB S)  : GM S nm rn tb [21] j e b u [2, 51, 28, 24] (j + 1) e b u 0 (fun m => m.push (2, 0, 0, [])) := fun N pm rp => by
  rw [Int.add_zero]; exact GCM.st (fun t a => ⟨(advT S t.2.1), _, a.nx, rfl, fun m => rfl⟩)
theorem gm22 (hS : SB S)  : GM S nm rn tb [22] j e b u [52, 2, 51, 28, 52] (j + 1) e b u 0 (fun m => m.push (5, 0, 0, [])) := fun N pm rp => by
  rw [Int.add_zero]; exact GCM.st (fun t a => ⟨(advT S t.2.1), _, a.nx, rfl, fun m => rfl⟩)
theorem gm23 (hS : SB S)  : GM S nm rn tb [23] j e b u [161, 25] (j + 1) e b u 0 (fun m => m.push (8, nm m.rt (tkS S j).2.2.2.2, 0, [])) := fun N pm rp => by
  rw [Int.add_zero]; exact GCM.st (fun t a => ⟨(advT S t.2.1), _, a.nx, rfl, fun m => by show m.push (8, nm m.rt t.2.2.2.2, 0, []) = _; rw [a.2.2.2.1]⟩)
theorem gm39 (hS : SB S)  : GM S nm rn tb [39] j e b u [2, 51, 159] (j + 1) e b u 0 (fun m => if ckd (tkS S j) = 258 then m.push (10, 6, 0, []) else m.push (10, 7, 0, [])) := fun N pm rp => by
  rw [Int.add_zero]; exact GCM.st (fun t a => ⟨(advT S t.2.1), _, a.nx, rfl, fun m => (if z : ckd (tkS S j) = 258 then (if_pos ((kdO hS a).mp z)).trans (if_pos z).symm else (if_neg (fun q => z ((kdO hS a).mpr q))).trans (if_neg z).symm)⟩)
theorem gm24y (hS : SB S) (h : ckd (tkS S j) = 261) : GM S nm rn tb [24] j e b u [52, 28, 51] (j + 1) e b u 0 (fun m => m.top (fun e => if e.1 = 3 then (4, e.2.1, 0, []) else e)) := fun N pm rp => by
  rw [Int.add_zero]; exact GCM.st (fun t a => ⟨(advT S t.2.1), _, a.nx, if_pos ((kdL hS a).mp h), fun m => if_pos ((kdL hS a).mp h)⟩)
theorem gm24n (hS : SB S) (h : ckd (tkS S j) ≠ 261) : GM S nm rn tb [24] j e b u [51] j e b u 0 id := fun N pm rp => by
  rw [Int.add_zero]; exact GCM.st (fun t a => ⟨t, _, a, if_neg (fun q => absurd ((kdL hS a).mpr q) h), fun m => if_neg (fun q => absurd ((kdL hS a).mpr q) h)⟩)
theorem gm25c (hS : SB S) (h : ckd (tkS S j) = 256) (h2 : ckd (tkS S (j + 1)) = 40) : GM S nm rn tb [25] j e b u [26, 159] (j + 1) e b ((tkS S j).2.2.2.2, 0, (tkS S j).1) 0 (fun m => m.top (fun e => if e.1 = 8 then (9, e.2.1, 0, []) else e)) := fun N pm rp => by
  rw [Int.add_zero]; exact GCM.st (fun t a => ⟨(advT S t.2.1), _, a.nx, (if_pos ((kdN hS a).mp h)).trans ((if_pos ((kdS hS a.nx (c := 40) (by decide)).mp h2)).trans (by rw [a.1, a.2.2.2.1])), fun m => if_pos ⟨(kdN hS a).mp h, (kdS hS a.nx (c := 40) (by decide)).mp h2⟩⟩)
theorem gm25b (hS : SB S) (h : ckd (tkS S j) = 256) (h2 : ckd (tkS S (j + 1)) ≠ 40) : GM S nm rn tb [25] j e b u [2, 52, 159] j e b u 0 id := fun N pm rp => by
  rw [Int.add_zero]; exact GCM.st (fun t a => ⟨(t.1, t.2.1, 2, (advT S t.2.1).2.2.2.1, t.2.2.2.2), _, ⟨a.1, a.2.1, by rw [← a.2.2.1]; exact ((((kdN hS a).mp h)).1).symm, a.2.2.2.1, fun q => absurd (a.2.2.1.symm.trans (((kdN hS a).mp h)).1) q⟩, (if_pos ((kdN hS a).mp h)).trans (if_neg (fun q => h2 ((kdS hS a.nx (c := 40) (by decide)).mpr q))), fun m => if_neg (fun q => absurd ((kdS hS a.nx (c := 40) (by decide)).mpr q.2) h2)⟩)
theorem gm25n (hS : SB S) (h : ckd (tkS S j) ≠ 256) : GM S nm rn tb [25] j e b u [2, 52, 159] j e b u 0 id := fun N pm rp => by
  rw [Int.add_zero]; exact GCM.st (fun t a => ⟨t, _, a, if_neg (fun q => absurd ((kdN hS a).mpr q) h), fun m => if_neg (fun q => absurd ((kdN hS a).mpr q.1) h)⟩)
theorem gm26y (hS : SB S) (h2 : ckd (tkS S (j + 1)) = 41) : GM S nm rn tb [26] j e b u [38, 141] (j + 1) e b u 0 id := fun N pm rp => by
  rw [Int.add_zero]; exact GCM.st (fun t a => ⟨(advT S t.2.1), _, a.nx, if_pos ((kdS hS a.nx (c := 41) (by decide)).mp h2), fun m => rfl⟩)
theorem gm26n (hS : SB S) (h2 : ckd (tkS S (j + 1)) ≠ 41) : GM S nm rn tb [26] j e b u [2, 27] (j + 1) e b u 0 id := fun N pm rp => by
  rw [Int.add_zero]; exact GCM.st (fun t a => ⟨(advT S t.2.1), _, a.nx, if_neg (fun q => h2 ((kdS hS a.nx (c := 41) (by decide)).mpr q)), fun m => rfl⟩)
theorem gm27y (hS : SB S) (h : ckd (tkS S j) = 44) : GM S nm rn tb [27] j e b u [2, 27] (j + 1) e b (u.1, u.2.1 + 1, u.2.2) 0 (fun m => m.top (fun e => if e.1 = 9 then (9, e.2.1, 0, e.2.2.2 ++ [(m.pk, m.pv)]) else e)) := fun N pm rp => by
  rw [Int.add_zero]; exact GCM.st (fun t a => ⟨(advT S t.2.1), _, a.nx, if_pos ((kdS hS a (c := 44) (by decide)).mp h), fun m => rfl⟩)
theorem gm27n (hS : SB S) (h : ckd (tkS S j) ≠ 44) : GM S nm rn tb [27] j e b u [38, 141] j e b (u.1, u.2.1 + 1, u.2.2) 0 (fun m => m.top (fun e => if e.1 = 9 then (9, e.2.1, 0, e.2.2.2 ++ [(m.pk, m.pv)]) else e)) := fun N pm rp => by
  rw [Int.add_zero]; exact GCM.st (fun t a => ⟨t, _, a, if_neg (fun q => absurd ((kdS hS a (c := 44) (by decide)).mpr q) h), fun m => rfl⟩)
theorem gm38 (hS : SB S)  : GM S nm rn tb [38] j e b u [] j e b u0 2 (fun m => m.cal rn u.1) := fun N pm rp => by
  exact GCM.st (fun t a => ⟨t, _, a, rfl, fun m => rfl⟩)
theorem gm28 (hS : SB S) (h : b ≠ 6) : GM S nm rn tb [28] j e b u [223, 29] j e (b + 1) u 0 id := fun N pm rp => by
  rw [Int.add_zero]; exact GCM.st (fun t a => ⟨t, _, a, if_neg h, fun m => rfl⟩)
theorem gm29y (hS : SB S) (h : ckd (tkS S j) = 125) : GM S nm rn tb [29] j e b u [40] (j + 1) e b u 0 id := fun N pm rp => by
  rw [Int.add_zero]; exact GCM.st (fun t a => ⟨(advT S t.2.1), _, a.nx, if_pos ((kdS hS a (c := 125) (by decide)).mp h), fun m => rfl⟩)
theorem gm29n (hS : SB S) (h : ckd (tkS S j) ≠ 125) : GM S nm rn tb [29] j e b u [20, 29] j e b u 0 id := fun N pm rp => by
  rw [Int.add_zero]; exact GCM.st (fun t a => ⟨t, _, a, if_neg (fun q => absurd ((kdS hS a (c := 125) (by decide)).mpr q) h), fun m => rfl⟩)
theorem gm40 (hS : SB S)  : GM S nm rn tb [40] j e b u [] j e (b - 1) u 0 id := fun N pm rp => by
  rw [Int.add_zero]; exact GCM.st (fun t a => ⟨t, _, a, rfl, fun m => rfl⟩)
end YSTEPS
end
section
section EXMS
variable {S : Int → Int} {nm : Int → Int64 → Int} {rn : Int64 → Int} {tb : Int → Int} {ks l ms : List Nat} {j i k : Nat} {e f f2 m m2 : Int} {F G : MK → MK}
theorem GM.rd {u w : UR} {b d : Int} (h : GM S nm rn tb ks j e b u l i f d w m F) (N pm rp : Int) (K : List Nat) (ρ : List EV) (t : TK) (a : TEQ t (tkS S j)) (s0 : MK) : ∃ t' q, TEQ t' (tkS S i) ∧ RM S nm rn tb (ks ++ K, t, (e, b, N), (u.1, u.2.1, u.2.2, pm, rp), ρ) s0 (l ++ K, t', (f, d, N + m), (w.1, w.2.1, w.2.2, pm, rp), ρ ++ q) (F s0) := by
  obtain ⟨t', q, a1, a2⟩ := h N pm rp t a
  exact ⟨t', q, a1, a2 K ρ s0⟩
end EXMS
end
