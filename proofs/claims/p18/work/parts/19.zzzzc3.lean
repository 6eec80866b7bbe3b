section
def JNC (σ0 σ : MS) (r to w n1 : Int) : Prop := (∀ y, ¬ (31824 * r + 144 * to ≤ y ∧ y < 31824 * r + 144 * to + n1) → sDT σ y = sDT σ0 y) ∧ (w = 0 → σ0.2.1 47 to = 1 ∧ ∀ y, sDT σ y = sDT σ0 y) ∧ ((∀ n, 0 ≤ n → n < n1 → leD (some (cDT σ0 n)) (some (sDT σ (31824 * r + 144 * to + n)))) ∧ (σ0.2.1 47 to = 1 → ∀ y, leD (some (sDT σ0 y)) (some (sDT σ y)))) ∧ (∀ n, 0 ≤ n → n < n1 → ∀ u, (σ0.2.1 47 to = 1 → leD (some (sDT σ0 (31824 * r + 144 * to + n))) u) → leD (some (cDT σ0 n)) u → leD (some (sDT σ (31824 * r + 144 * to + n))) u) ∧ G14s σ
section JNS
variable {σ0 σ τ : MS} {r to w n1 R : Int}
theorem sDT_eq {y n : Int} (h : σ.2.1 49 y = σ0.2.1 54 n ∧ σ.2.1 50 y = σ0.2.1 55 n ∧ σ.2.1 51 y = σ0.2.1 56 n ∧ σ.2.1 52 y = σ0.2.1 57 n ∧ σ.2.1 53 y = σ0.2.1 58 n) : sDT σ y = cDT σ0 n := by
  unfold sDT cDT
  rw [h.1, h.2.1, h.2.2.1, h.2.2.2.1, h.2.2.2.2]
theorem sDT_ne {y n : Int} (h : ¬ (σ.2.1 49 y = σ0.2.1 54 n ∧ σ.2.1 50 y = σ0.2.1 55 n ∧ σ.2.1 51 y = σ0.2.1 56 n ∧ σ.2.1 52 y = σ0.2.1 57 n ∧ σ.2.1 53 y = σ0.2.1 58 n)) : sDT σ y ≠ cDT σ0 n := fun e => by
  unfold sDT cDT at e
  injection e with e1 e
  injection e with e2 e
  injection e with e3 e
  injection e with e4 e5
  exact h ⟨e1, e2, e3, e4, e5⟩
theorem JNC.z (g : G14s σ) (hw : w = 0 → σ.2.1 47 to = 1) : JNC σ σ r to w 0 := ⟨fun _ _ => rfl, fun e => ⟨hw e, fun _ => rfl⟩, ⟨fun n a b => by omega, fun _ _ => leD.rfl⟩, fun n a b => by omega, g⟩
theorem JNC.skip (h : JNC σ0 σ r to w n1) (h0 : 0 ≤ n1) (hr : σ0.2.1 47 to = 1) (q : sDT σ (31824 * r + 144 * to + n1) = cDT σ0 n1 ∨ σ.2.1 49 (31824 * r + 144 * to + n1) = 14) : JNC σ0 σ r to w (n1 + 1) := by
  obtain ⟨a1, a2, a3, a4, a5⟩ := h
  have e0 := a1 (31824 * r + 144 * to + n1) (by omega)
  refine ⟨fun y z => a1 y (by omega), a2, ⟨fun n a b => ?_, a3.2⟩, fun n a b u hs hc => ?_, a5⟩
  · by_cases z : n = n1
    · rw [z]
      rcases q with q | q
      · rw [q]; exact leD.rfl
      · rw [a5 _ q]; exact leD.top
    · exact a3.1 n a (by omega)
  · by_cases z : n = n1
    · rw [z] at hs ⊢
      rw [e0]; exact hs hr
    · exact a4 n a (by omega) u hs hc
theorem JNC.cst (h : JNC σ0 σ r to w n1) (h0 : 0 ≤ n1 ∧ n1 < 144) (hc : CST σ τ R (31824 * r + 144 * to + n1) n1) (hR : R = 0 ∨ R = 1) (he : R = σ0.2.1 47 to) (hs : R = 1 → sDT σ (31824 * r + 144 * to + n1) ≠ cDT σ0 n1) (hcc : cDT σ n1 = cDT σ0 n1) (hg : G14c σ0) : JNC σ0 τ r to 1 (n1 + 1) := by
  obtain ⟨a1, a2, a3, a4, a5⟩ := h
  have e0 := a1 (31824 * r + 144 * to + n1) (by omega)
  obtain ⟨d, ⟨gc, gm⟩, g, et⟩ : ∃ d : DT, (leD (some (cDT σ0 n1)) (some d) ∧ (σ0.2.1 47 to = 1 → d = topD)) ∧ (∀ u, (σ0.2.1 47 to = 1 → leD (some (sDT σ0 (31824 * r + 144 * to + n1))) u) → leD (some (cDT σ0 n1)) u → leD (some d) u) ∧ ((∀ y, sDT τ y = if y = 31824 * r + 144 * to + n1 then d else sDT σ y) ∧ G14s τ) := by
    rcases hR with hR | hR
    · refine ⟨cDT σ0 n1, ⟨leD.rfl, fun e => by omega⟩, fun u _ q => q, fun y => ?_, ?_⟩
      · rw [hc.2 hR, sDT.put, ← hcc]; rfl
      · rw [hc.2 hR]
        refine a5.put (fun e => ?_)
        have q := hg n1 h0.1 h0.2 (by rw [← show σ.2.1 54 n1 = σ0.2.1 54 n1 from congrArg Prod.fst hcc]; exact e)
        rw [← hcc] at q
        unfold cDT topD at q
        injection q with q1 q
        injection q with q2 q
        injection q with q3 q
        injection q with q4 q5
        exact ⟨q2, q3, q4, q5⟩
    · refine ⟨topD, ⟨leD.top, fun _ => rfl⟩, fun u q1 q2 => ?_, fun y => ?_, ?_⟩
      · have q := leD.join (q1 (by omega)) q2 (by rw [← e0]; exact hs hR)
        rw [q]; exact leD.rfl
      · rw [hc.1 (by omega), sDT.put]; rfl
      · rw [hc.1 (by omega)]
        exact a5.put (fun _ => ⟨rfl, rfl, rfl, rfl⟩)
  refine ⟨fun y z => ?_, fun e => absurd e (by decide), ⟨fun n a b => ?_, fun e y => ?_⟩, fun n a b u hs hc => ?_, et.2⟩
  · rw [et.1 y, if_neg (by omega)]; exact a1 y (by omega)
  · by_cases z : n = n1
    · rw [z, et.1, if_pos rfl]; exact gc
    · rw [et.1, if_neg (by omega)]; exact a3.1 n a (by omega)
  · rw [et.1]
    by_cases z : y = 31824 * r + 144 * to + n1
    · rw [if_pos z, gm e]; exact leD.top
    · rw [if_neg z]; exact a3.2 e y
  · by_cases z : n = n1
    · rw [z] at hs hc ⊢
      rw [et.1, if_pos rfl]; exact g u hs hc
    · rw [et.1, if_neg (by omega)]; exact a4 n a (by omega) u hs hc
theorem JNC.cstw {w2 : Int} (h : JNC σ0 σ r to w n1) (hw : w2 = 1) (h0 : 0 ≤ n1 ∧ n1 < 144) (hc : CST σ τ R (31824 * r + 144 * to + n1) n1) (hR : R = 0 ∨ R = 1) (he : R = σ0.2.1 47 to) (hs : R = 1 → sDT σ (31824 * r + 144 * to + n1) ≠ cDT σ0 n1) (hcc : cDT σ n1 = cDT σ0 n1) (hg : G14c σ0) : JNC σ0 τ r to w2 (n1 + 1) := by
  rw [hw]; exact h.cst h0 hc hR he hs hcc hg
end JNS
def CMX (σ σ2 : MS) (r to v : Int) : Prop := (∀ y, ¬ (31824 * r + 144 * to ≤ y ∧ y < 31824 * r + 144 * to + 144) → sDT σ2 y = sDT σ y) ∧ ((∀ k, k ≠ to → σ2.2.1 47 k = σ.2.1 47 k) ∧ σ2.2.1 47 to = 1) ∧ (v = 0 → σ.2.1 47 to = 1 ∧ ∀ y, sDT σ2 y = sDT σ y) ∧ ((∀ n, 0 ≤ n → n < 144 → leD (some (cDT σ n)) (some (sDT σ2 (31824 * r + 144 * to + n)))) ∧ (σ.2.1 47 to = 1 → ∀ y, leD (some (sDT σ y)) (some (sDT σ2 y)))) ∧ (∀ n, 0 ≤ n → n < 144 → ∀ u, (σ.2.1 47 to = 1 → leD (some (sDT σ (31824 * r + 144 * to + n))) u) → leD (some (cDT σ n)) u → leD (some (sDT σ2 (31824 * r + 144 * to + n))) u) ∧ G14s σ2
theorem JNC.cmx {σ τ : MS} {r to w : Int} {ss ks js : List Nat} (h : JNC σ τ r to w 144) (f : Fr ss ks js σ τ) (h47 : 47 ∉ ks) : CMX σ (sA 47 to 1 τ) r to w :=
  ⟨h.1, ⟨fun k z => (ra_ne z rfl).trans (congrFun (f.2.1 47 h47) k), ra_eq⟩, h.2.1, h.2.2.1, h.2.2.2.1, h.2.2.2.2⟩
def SNR (σ : MS) (r : Int) (V : Int → It) (N : Int) (B : Int → DT) : Prop := ∀ n, 0 ≤ n → n < 144 → SND V N (B n) (n / 12) (n % 12) (stR σ r n)
def CLR (σ : MS) (r : Int) (V : Int → It) (N k : Int) : Prop := ∀ j, 0 ≤ j → j < k → σ.2.1 47 j = 1 → ∀ t, EDv V N j t → σ.2.1 47 t = 1 ∧ ∀ n, 0 ≤ n → n < 144 → leD (some (trD (n / 12) (n % 12) (V j) (sDT σ (31824 * r + 144 * j + n)))) (some (sDT σ (31824 * r + 144 * t + n)))
def CKS (σ : MS) (V : Int → It) (N : Int) (B : Int → DT) (k : Int) : Prop := ∀ n, 0 ≤ n → n < 144 → ∀ ψ, ClD V N (B n) (n / 12) (n % 12) ψ → ∀ t, EDv V N k t → leD (some (cDT σ n)) (ψ t)
def CLE (σ σc : MS) (r t : Int) : Prop := σ.2.1 47 t = 1 ∧ ∀ n, 0 ≤ n → n < 144 → leD (some (cDT σc n)) (some (sDT σ (31824 * r + 144 * t + n)))
def HSD (σ : MS) (r : Int) (V : Int → It) (N : Int) (B : Int → DT) : Prop := ∀ n, 0 ≤ n → n < 144 → ∃ φ, LFD V N (B n) (n / 12) (n % 12) φ ∧ ∀ k, 0 ≤ k → k ≤ N → sDT σ (31824 * r + 144 * k + n) = shD (φ k)
section FSX
variable {σ τ υ : MS} {r k N t v : Int} {V : Int → It} {B : Int → DT} {ss ks js : List Nat}
theorem stR.fr (f : Fr ss ks js σ τ) (h : ∀ k ∈ [47, 49, 50, 51, 52, 53], k ∉ ks) {n : Int} : stR τ r n = stR σ r n := by
  funext k
  unfold stR
  rw [f.2.1 47 (h 47 (by decide)), sDT.fr f (fun k q => h k ((by decide : ∀ k ∈ [49, 50, 51, 52, 53], k ∈ [47, 49, 50, 51, 52, 53]) k q))]
theorem SNR.fr (h : SNR σ r V N B) (f : Fr ss ks js σ τ) (hk : ∀ k ∈ [47, 49, 50, 51, 52, 53], k ∉ ks) : SNR τ r V N B := fun n a b => by
  rw [stR.fr f hk]; exact h n a b
theorem CLR.fr (h : CLR σ r V N k) (f : Fr ss ks js σ τ) (hk : ∀ k ∈ [47, 49, 50, 51, 52, 53], k ∉ ks) : CLR τ r V N k := fun j a b c t e => by
  have e47 := f.2.1 47 (hk 47 (by decide))
  have es : ∀ y, sDT τ y = sDT σ y := fun y => sDT.fr f (fun k q => hk k ((by decide : ∀ k ∈ [49, 50, 51, 52, 53], k ∈ [47, 49, 50, 51, 52, 53]) k q))
  rw [e47] at c ⊢
  obtain ⟨q1, q2⟩ := h j a b c t e
  refine ⟨q1, fun n a b => ?_⟩
  rw [es, es]; exact q2 n a b
theorem SNR.cks (h : SNR σ r V N B) (hb : BHF σ τ r k) (hV : V = rV σ r) (hN : N = σ.2.1 9 r) (h0 : 0 ≤ k) (h1 : k < N) (hr : σ.2.1 47 k = 1) : CKS τ V N B k := fun n a b ψ c t e => by
  have q := h n a b ψ c k h0 (by omega)
  unfold stR at q
  rw [if_pos hr] at q
  have w := c.step h0 h1 e q
  rw [hV, rv_in h0 (by omega), ← hb n a b] at w
  exact w
theorem SNR.cmx (h : SNR σ r V N B) (hc : CKS σ V N B k) (e : EDv V N k t) (x : CMX σ τ r t v) (ht : 0 ≤ t) : SNR τ r V N B := fun n a b ψ c j j0 j1 => by
  unfold stR
  by_cases z : j = t
  · rw [z, if_pos x.2.1.2]
    refine x.2.2.2.2.1 n a b _ (fun w => ?_) (hc n a b ψ c t e)
    have q := h n a b ψ c t ht (by omega)
    unfold stR at q
    rw [if_pos w] at q
    exact q
  · rw [x.2.1.1 j z, x.1 _ (by omega)]
    exact h n a b ψ c j j0 j1
theorem CKS.c (h : CKS σ V N B k) (e : ∀ n, cDT τ n = cDT σ n) : CKS τ V N B k := fun n a b ψ c t w => by
  rw [e n]; exact h n a b ψ c t w
theorem CLE.mk (x : CMX σ τ r t v) : CLE τ σ r t := ⟨x.2.1.2, fun n a b => x.2.2.2.1.1 n a b⟩
theorem CLE.c {σc τc : MS} (h : CLE σ σc r t) (e : ∀ n, cDT τc n = cDT σc n) : CLE σ τc r t := ⟨h.1, fun n a b => by rw [e n]; exact h.2 n a b⟩
theorem CLE.same {σc : MS} (h : CLE σ σc r t) (hs : (∀ j, τ.2.1 47 j = σ.2.1 47 j) ∧ ∀ y, sDT τ y = sDT σ y) : CLE τ σc r t := ⟨(hs.1 t).trans h.1, fun n a b => by rw [hs.2]; exact h.2 n a b⟩
theorem CMX.same (x : CMX σ τ r t v) (hv : v = 0) : (∀ k, τ.2.1 47 k = σ.2.1 47 k) ∧ ∀ y, sDT τ y = sDT σ y := ⟨fun k => by
  by_cases z : k = t
  · rw [z, x.2.1.2, (x.2.2.1 hv).1]
  · exact x.2.1.1 k z, (x.2.2.1 hv).2⟩
theorem CLR.step {σc : MS} (h : CLR σ r V N k) (hb : BHF σ σc r k) (hV : V = rV σ r) (hN : N = σ.2.1 9 r) (h0 : 0 ≤ k) (h1 : k < N) (hs : (∀ j, τ.2.1 47 j = σ.2.1 47 j) ∧ ∀ y, sDT τ y = sDT σ y) (he : ∀ t, EDv V N k t → CLE τ σc r t) : CLR τ r V N (k + 1) := fun j a b c t e => by
  by_cases z : j = k
  · rw [z] at e ⊢
    obtain ⟨q1, q2⟩ := he t e
    refine ⟨q1, fun n a b => ?_⟩
    rw [hs.2, hV, rv_in h0 (by omega), ← hb n a b]
    exact q2 n a b
  · rw [hs.1] at c
    obtain ⟨q1, q2⟩ := h j a (by omega) c t e
    rw [hs.1]
    refine ⟨q1, fun n a b => ?_⟩
    rw [hs.2, hs.2]; exact q2 n a b
theorem CLR.skip (h : CLR σ r V N k) (hr : σ.2.1 47 k ≠ 1) : CLR σ r V N (k + 1) := fun j a b c t e => by
  by_cases z : j = k
  · rw [z] at c; exact absurd c hr
  · exact h j a (by omega) c t e
def OUTs (σ0 σ : MS) (r : Int) : Prop := ∀ y, ¬ (31824 * r ≤ y ∧ y < 31824 * r + 31824) → sDT σ y = sDT σ0 y
def UNX (σ : MS) (r N : Int) : Prop := ∀ k, 0 ≤ k → k ≤ N → σ.2.1 47 k ≠ 1 → ∀ n, 0 ≤ n → n < 144 → sDT σ (31824 * r + 144 * k + n) = (11, 0, 0, 0, 0)
def BGR (σ : MS) (r : Int) (B : Int → DT) : Prop := σ.2.1 47 0 = 1 ∧ ∀ n, 0 ≤ n → n < 144 → leD (some (B n)) (some (sDT σ (31824 * r + n)))
def FSI (σ0 σ : MS) (r : Int) (V : Int → It) (N : Int) (B : Int → DT) : Prop := (SNR σ r V N B ∧ BGR σ r B) ∧ UNX σ r N ∧ OUTs σ0 σ r ∧ G14s σ
theorem FSI.fr {σ0 : MS} (h : FSI σ0 σ r V N B) (f : Fr ss ks js σ τ) (hk : ∀ k ∈ [47, 49, 50, 51, 52, 53], k ∉ ks) : FSI σ0 τ r V N B := by
  obtain ⟨⟨a1, a2, a3⟩, b, c, d⟩ := h
  have e47 := f.2.1 47 (hk 47 (by decide))
  have hk5 : ∀ k ∈ [49, 50, 51, 52, 53], k ∉ ks := fun k q => hk k ((by decide : ∀ k ∈ [49, 50, 51, 52, 53], k ∈ [47, 49, 50, 51, 52, 53]) k q)
  have es : ∀ y, sDT τ y = sDT σ y := fun y => sDT.fr f hk5
  refine ⟨⟨a1.fr f hk, by rw [e47]; exact a2, fun n p q => by rw [es]; exact a3 n p q⟩, fun k p q w n p2 q2 => ?_, fun y q => (es y).trans (c y q), d.fr f hk5⟩
  rw [e47] at w
  rw [es]; exact b k p q w n p2 q2
theorem FSI.cmx {σ0 : MS} (h : FSI σ0 σ r V N B) (hc : CKS σ V N B k) (e : EDv V N k t) (x : CMX σ τ r t v) (ht : 0 ≤ t ∧ t ≤ 220) : FSI σ0 τ r V N B := by
  obtain ⟨⟨a1, a2, a3⟩, b, c, d⟩ := h
  refine ⟨⟨a1.cmx hc e x ht.1, ?_, fun n p q => ?_⟩, fun j p q w n p2 q2 => ?_, fun y q => ?_, x.2.2.2.2.2⟩
  · by_cases z : 0 = t
    · rw [z]; exact x.2.1.2
    · rw [x.2.1.1 0 z]; exact a2
  · by_cases z : t = 0
    · exact (a3 n p q).trans (x.2.2.2.1.2 (by rw [z]; exact a2) _)
    · rw [x.1 _ (by omega)]; exact a3 n p q
  · have z : j ≠ t := fun z => w (by rw [z]; exact x.2.1.2)
    rw [x.2.1.1 j z] at w
    rw [x.1 _ (by omega)]; exact b j p q w n p2 q2
  · rw [x.1 y (by omega)]; exact c y q
theorem FSI.start {σ0 : MS} (hr : ∀ j, 0 ≤ j → j ≤ N → σ.2.1 47 j = 0) (hN : 0 ≤ N) (hu : ∀ k, 0 ≤ k → k ≤ N → ∀ n, 0 ≤ n → n < 144 → sDT σ (31824 * r + 144 * k + n) = (11, 0, 0, 0, 0)) (ho : OUTs σ0 σ r) (hB : ∀ n, 0 ≤ n → n < 144 → cDT σ n = B n) (x : CMX σ τ r 0 v) : FSI σ0 τ r V N B ∧ v ≠ 0 := by
  have z0 := hr 0 (by omega) hN
  refine ⟨⟨⟨fun n a b ψ c j j0 j1 => ?_, x.2.1.2, fun n a b => ?_⟩, fun j p q w n p2 q2 => ?_, fun y q => ?_, x.2.2.2.2.2⟩, fun e => ?_⟩
  · unfold stR
    by_cases z : j = 0
    · rw [z, if_pos x.2.1.2]
      exact x.2.2.2.2.1 n a b _ (fun w => by omega) (by rw [hB n a b]; exact c.1)
    · rw [x.2.1.1 j z, if_neg (by rw [hr j j0 j1]; decide)]
      exact Or.inl rfl
  · have q := x.2.2.2.1.1 n a b
    rw [hB n a b, show 31824 * r + 144 * 0 + n = 31824 * r + n by omega] at q
    exact q
  · have z : j ≠ 0 := fun z => w (by rw [z]; exact x.2.1.2)
    rw [x.1 _ (by omega)]; exact hu j p q n p2 q2
  · rw [x.1 y (by omega)]; exact ho y q
  · have := (x.2.2.1 e).1
    omega
theorem FSI.fin {σ0 : MS} (hf : FSI σ0 σ r V N B) (c : CLR σ r V N N) : HSD σ r V N B := fun n a b => by
  obtain ⟨⟨h, h0, hb⟩, hu, -, -⟩ := hf
  refine ⟨stR σ r n, ⟨⟨?_, fun k t d k0 k1 e q => ?_⟩, h n a b⟩, fun k k0 k1 => ?_⟩
  · unfold stR
    rw [if_pos h0, show 31824 * r + 144 * 0 + n = 31824 * r + n by omega]; exact hb n a b
  · unfold stR at q ⊢
    by_cases z : σ.2.1 47 k = 1
    · rw [if_pos z] at q
      obtain ⟨q1, q2⟩ := c k k0 k1 z t e
      rw [if_pos q1, ← Option.some.inj q]; exact q2 n a b
    · rw [if_neg z] at q; exact absurd q (by simp)
  · unfold stR
    by_cases z : σ.2.1 47 k = 1
    · rw [if_pos z]; rfl
    · rw [if_neg z]; exact hu k k0 k1 z n a b
end FSX
section FSL
variable {σ τ υ : MS} {r k N n1 : Int}
def UN1 (σ : MS) (r k n1 : Int) : Prop := ∀ n, 0 ≤ n → n < n1 → sDT σ (31824 * r + 144 * k + n) = (11, 0, 0, 0, 0)
theorem UN1.put (h : UN1 σ r k n1) (h0 : 0 ≤ n1) : UN1 (fSt (31824 * r + 144 * k + n1) 11 0 0 0 0 σ) r k (n1 + 1) := fun n a b => by
  rw [sDT.put]
  by_cases z : n = n1
  · rw [if_pos (by omega)]
  · rw [if_neg (by omega)]; exact h n a (by omega)
def ELS (σ0 σ : MS) (r k : Int) : Prop := ∀ y, ¬ (31824 * r + 144 * k ≤ y ∧ y < 31824 * r + 144 * k + 144) → sDT σ y = sDT σ0 y
theorem ELS.put {σ0 : MS} (h : ELS σ0 σ r k) (h0 : 0 ≤ n1 ∧ n1 < 144) : ELS σ0 (fSt (31824 * r + 144 * k + n1) 11 0 0 0 0 σ) r k := fun y q => by
  rw [sDT.put, if_neg (by omega)]; exact h y q
def UN2 (σ0 σ : MS) (r k : Int) : Prop := (∀ j, 0 ≤ j → j < k → σ.2.1 47 j = 0 ∧ UN1 σ r j 144) ∧ OUTs σ0 σ r ∧ G14s σ
theorem UN2.step {σ0 : MS} (h : UN2 σ0 σ r k) (hk : 0 ≤ k ∧ k ≤ 220) (f : Fr [] [49, 50, 51, 52, 53] [] (sA 47 k 0 σ) τ) (hu : UN1 τ r k 144) (he : ELS (sA 47 k 0 σ) τ r k) (hg : G14s τ) : UN2 σ0 τ r (k + 1) := by
  have e47 : ∀ j, τ.2.1 47 j = (sA 47 k 0 σ).2.1 47 j := fun j => congrFun (f.2.1 47 (by decide)) j
  refine ⟨fun j a b => ?_, fun y q => (he y (by omega)).trans (h.2.1 y q), hg⟩
  by_cases z : j = k
  · rw [z]; exact ⟨(e47 k).trans ra_eq, hu⟩
  · have q := h.1 j a (by omega)
    exact ⟨(e47 j).trans ((ra_ne z rfl).trans q.1), fun n p w => (he _ (by omega)).trans (q.2 n p w)⟩
theorem UN2.z (hg : G14s σ) : UN2 σ σ r 0 := ⟨fun j a b => by omega, fun _ _ => rfl, hg⟩
def BG1 (σ : MS) (B : Int → DT) (n1 : Int) : Prop := ∀ n, 0 ≤ n → n < n1 → cDT σ n = B n
def bgT (σ : MS) (r n : Int) : DT := bgD (σ.2.1 11 r) (σ.2.1 12 r) (fun m => σ.2.1 18 (144 * r + m)) (n / 12) (n % 12)
theorem BG1.put {B : Int → DT} {w ka a kb c : Int} (h : BG1 σ B n1) (h0 : 0 ≤ n1) (e : (w, ka, a, kb, c) = B n1) : BG1 (fNow n1 w ka a kb c σ) B (n1 + 1) := fun n p q => by
  rw [cDT.put]
  by_cases z : n = n1
  · rw [if_pos z, z]; exact e
  · rw [if_neg z]; exact h n p (by omega)
theorem BG1.put2 {B : Int → DT} {w ka a kb c w2 ka2 a2 kb2 c2 : Int} (h : BG1 σ B n1) (h0 : 0 ≤ n1) (e : (w, ka, a, kb, c) = B n1) : BG1 (fNow n1 w ka a kb c (fNow n1 w2 ka2 a2 kb2 c2 σ)) B (n1 + 1) := fun n p q => by
  rw [cDT.put]
  by_cases z : n = n1
  · rw [if_pos z, z]; exact e
  · rw [if_neg z, cDT.put, if_neg z]; exact h n p (by omega)
theorem bgT_0 (h0 : 0 ≤ n1) (h : ¬ n1 < σ.2.1 12 r ∧ σ.2.1 12 r ≤ 12) : ((11 : Int), (0 : Int), (0 : Int), (0 : Int), (0 : Int)) = bgT σ r n1 := by
  unfold bgT bgD
  rw [if_neg (by omega)]
theorem bgT_1 (h0 : 0 ≤ n1) (h : n1 < σ.2.1 12 r ∧ σ.2.1 12 r ≤ 12) (hp : ¬ n1 < σ.2.1 11 r) : ((1 : Int), (1 : Int), (0 : Int), (0 : Int), (0 : Int)) = bgT σ r n1 := by
  unfold bgT bgD
  rw [if_pos (by omega), if_neg (by omega)]
theorem bgT_2 {v : Int} (h0 : 0 ≤ n1) (h : n1 < σ.2.1 12 r ∧ σ.2.1 12 r ≤ 12) (hp : n1 < σ.2.1 11 r) (hv : v = σ.2.1 18 (144 * r + n1)) : ((2 : Int), (2 : Int), v, (0 : Int), (0 : Int)) = bgT σ r n1 := by
  unfold bgT bgD
  rw [if_pos (by omega), if_pos (by omega), show n1 % 12 = n1 by omega, hv]
theorem UN2.start {σ0 : MS} {B : Int → DT} {v : Int} {V : Int → It} (h : UN2 σ0 σ r (N + 1)) (hN : 0 ≤ N) (hB : BG1 σ B 144) (x : CMX σ τ r 0 v) : FSI σ0 τ r V N B ∧ v ≠ 0 := FSI.start (fun j a b => (h.1 j a (by omega)).1) hN (fun k a b => (h.1 k a (by omega)).2) h.2.1 hB x
theorem UN2.fr {σ0 : MS} {ss ks js : List Nat} (h : UN2 σ0 σ r k) (f : Fr ss ks js σ τ) (hk : ∀ k ∈ [47, 49, 50, 51, 52, 53], k ∉ ks) : UN2 σ0 τ r k := by
  have hk5 : ∀ k ∈ [49, 50, 51, 52, 53], k ∉ ks := fun k q => hk k ((by decide : ∀ k ∈ [49, 50, 51, 52, 53], k ∈ [47, 49, 50, 51, 52, 53]) k q)
  have es : ∀ y, sDT τ y = sDT σ y := fun y => sDT.fr f hk5
  refine ⟨fun j a b => ?_, fun y q => (es y).trans (h.2.1 y q), h.2.2.fr f hk5⟩
  rw [f.2.1 47 (hk 47 (by decide))]
  exact ⟨(h.1 j a b).1, fun n p q => (es _).trans ((h.1 j a b).2 n p q)⟩
theorem bgT.fr {ss ks js : List Nat} (f : Fr ss ks js σ τ) (hk : ∀ k ∈ [11, 12, 18], k ∉ ks) : bgT τ r = bgT σ r := by
  funext n
  unfold bgT
  rw [f.2.1 11 (hk 11 (by decide)), f.2.1 12 (hk 12 (by decide)), f.2.1 18 (hk 18 (by decide))]
theorem BG1.g14 (h : BG1 σ (bgT τ r) 144) : G14c σ := fun n a b e => by
  have e2 : (cDT σ n).1 = 14 := e
  rw [h n a b] at e2
  unfold bgT bgD at e2
  by_cases c1 : n / 12 = 0 ∧ n % 12 < τ.2.1 12 r
  · rw [if_pos c1] at e2
    by_cases c2 : n % 12 < τ.2.1 11 r
    · rw [if_pos c2] at e2; exact absurd (show (2 : Int) = 14 from e2) (by decide)
    · rw [if_neg c2] at e2; exact absurd (show (1 : Int) = 14 from e2) (by decide)
  · rw [if_neg c1] at e2; exact absurd (show (11 : Int) = 14 from e2) (by decide)
def FSO (σ σ2 : MS) (r : Int) : Prop := HSD σ2 r (rV σ r) (σ.2.1 9 r) (bgT σ r) ∧ OUTs σ σ2 r ∧ G14s σ2 ∧ σ2.2.1 48 r = 1 ∧ ∀ q, q ≠ r → σ2.2.1 48 q = σ.2.1 48 q
def HSI (σ : MS) : Prop := G14s σ ∧ ∀ r, 0 ≤ r → r < 6 → σ.2.1 48 r = 1 → r < σ.1 10 ∧ HSD σ r (rV σ r) (σ.2.1 9 r) (bgT σ r)
theorem HSD.of {V : Int → It} {B : Int → DT} (h : HSD σ r V N B) (hN : N ≤ 220) (e : ∀ y, 31824 * r ≤ y → y < 31824 * r + 31824 → sDT τ y = sDT σ y) : HSD τ r V N B := fun n a b => by
  obtain ⟨φ, h1, h2⟩ := h n a b
  exact ⟨φ, h1, fun k k0 k1 => by rw [e _ (by omega) (by omega)]; exact h2 k k0 k1⟩
theorem HSI.fso (h : HSI σ) (x : FSO σ τ r) (hit : ITM σ) (hV : ∀ q, rV τ q = rV σ q) (h9 : τ.2.1 9 = σ.2.1 9) (hB : ∀ q, bgT τ q = bgT σ q) (e10 : τ.1 10 = σ.1 10) (hr : r < σ.1 10) : HSI τ := ⟨x.2.2.1, fun q a b c => by
  rw [hV, h9, hB, e10]
  by_cases z : q = r
  · rw [z]; exact ⟨hr, x.1⟩
  · rw [x.2.2.2.2 q z] at c
    have w := h.2 q a b c
    exact ⟨w.1, w.2.of (hit q a (by omega)).2 (fun y p w => x.2.1 y (by omega))⟩⟩
theorem HSI.fr {ss ks js : List Nat} (h : HSI σ) (f : Fr ss ks js σ τ) (hk : ∀ k ∈ [3, 4, 5, 6, 7, 8, 9, 11, 12, 18, 48, 49, 50, 51, 52, 53], k ∉ ks) (hs : 10 ∉ ss := by decide) : HSI τ := by
  have sub : ∀ l : List Nat, (∀ k ∈ l, k ∈ [3, 4, 5, 6, 7, 8, 9, 11, 12, 18, 48, 49, 50, 51, 52, 53]) → ∀ k ∈ l, k ∉ ks := fun l hl k q => hk k (hl k q)
  have s5 := sub [49, 50, 51, 52, 53] (by decide)
  refine ⟨h.1.fr f s5, fun r a b c => ?_⟩
  rw [f.2.1 48 (hk 48 (by decide))] at c
  rw [rv_fr f (sub _ (by decide)), f.2.1 9 (hk 9 (by decide)), bgT.fr f (sub _ (by decide)), f.1 10 hs]
  obtain ⟨q1, q⟩ := h.2 r a b c
  refine ⟨q1, ?_⟩
  intro n p w
  obtain ⟨φ, h1, h2⟩ := q n p w
  exact ⟨φ, h1, fun k k0 k1 => (sDT.fr f s5).trans (h2 k k0 k1)⟩
def UN6 (σ : MS) : Prop := ∀ r, 0 ≤ r → r < σ.1 10 → UNQ (rV σ r) (σ.2.1 9 r)
theorem UN6.fr {ss ks js : List Nat} (h : UN6 σ) (f : Fr ss ks js σ τ) (hs : 10 ∉ ss) (hk : ∀ k ∈ [3, 4, 5, 6, 7, 8, 9], k ∉ ks) : UN6 τ := fun r a b => by
  rw [f.1 10 hs] at b
  rw [rv_fr f hk, f.2.1 9 (hk 9 (by decide))]
  exact h r a b
def TLD (σ : MS) (q k F m : Int) (d : DT) : Prop := ∃ φ, LFD (rV σ q) (σ.2.1 9 q) (bgT σ q (12 * F + m)) F m φ ∧ d = shD (φ k)
theorem TLD.mk {s1 s2 : MS} {q F m y : Int} {ss ks js : List Nat} (x : FSO s1 s2 q) (f : Fr ss ks js σ s1) (hk : ∀ k ∈ [3, 4, 5, 6, 7, 8, 9, 11, 12, 18], k ∉ ks) (hF : 0 ≤ F ∧ F < 12) (hm : 0 ≤ m ∧ m < 12) (h0 : 0 ≤ k) (h1 : k ≤ σ.2.1 9 q) (hy : y = 31824 * q + 144 * k + (12 * F + m)) : TLD σ q k F m (sDT s2 y) := by
  have sub : ∀ l : List Nat, (∀ k ∈ l, k ∈ [3, 4, 5, 6, 7, 8, 9, 11, 12, 18]) → ∀ k ∈ l, k ∉ ks := fun l hl k q => hk k (hl k q)
  have h := x.1 (12 * F + m) (by omega) (by omega)
  rw [rv_fr f (sub _ (by decide)), f.2.1 9 (hk 9 (by decide)), bgT.fr f (sub _ (by decide)), show (12 * F + m) / 12 = F by omega, show (12 * F + m) % 12 = m by omega] at h
  obtain ⟨φ, l1, l2⟩ := h
  exact ⟨φ, l1, by rw [hy]; exact l2 k h0 h1⟩
def KNR (σ : MS) (k n v : Int) : Prop := (v = -1 ∧ (σ.1 67 = 0 ∨ σ.1 68 ≠ 0 ∨ k < 0 ∨ dpt σ 0 ≤ k)) ∨ ((σ.1 67 ≠ 0 ∧ σ.1 68 = 0 ∧ 0 ≤ k) ∧ ∃ c f, FNDS σ 0 k c f ∧ ((v = -1 ∧ ¬ (0 ≤ n ∧ n < σ.2.1 12 (σ.2.1 15 (12 * σ.2.1 78 c + f)))) ∨ ((0 ≤ n ∧ n < σ.2.1 12 (σ.2.1 15 (12 * σ.2.1 78 c + f))) ∧ ∃ d, TLD σ (σ.2.1 78 c) (σ.2.1 79 c) f n d ∧ v = if d.1 < 10 then 1 else d.1)))
def SCH (σ : MS) : Prop := SCA σ ∧ HSI σ ∧ UN6 σ
theorem SCH.fr {ss ks js : List Nat} (h : SCH σ) (f : Fr ss ks js σ τ) (hk : ∀ k ∈ [3, 4, 5, 6, 7, 8, 9, 11, 12, 18, 48, 49, 50, 51, 52, 53, 55, 56, 57, 58], k ∉ ks) (hs : 10 ∉ ss := by decide) : SCH τ := by
  have sub : ∀ l : List Nat, (∀ k ∈ l, k ∈ [3, 4, 5, 6, 7, 8, 9, 11, 12, 18, 48, 49, 50, 51, 52, 53, 55, 56, 57, 58]) → ∀ k ∈ l, k ∉ ks := fun l hl k q => hk k (hl k q)
  exact ⟨h.1.fr f (sub _ (by decide)), h.2.1.fr f (sub _ (by decide)) hs, h.2.2.fr f hs (sub _ (by decide))⟩
end FSL
end
