section
noncomputable def shS (H : RTS) (P : Int) (NM nb : Int → Int) : RTS := (H.n, shV H.V H.n nb (bgV H.V H.n (pmS H P)), H.F, H.fo, H.fi, H.fl, fun f m => if (0 ≤ f ∧ f < H.F) ∧ 0 ≤ m ∧ m < NM (H.fo f) then nb (H.na f m) else 0)
def PSV (w r : Int) (Gs : Int → RTS) (PM NM : Int → Int) (H H' : RTS) (v : Int) : Prop :=
  (w = 0 ∧ (∃ K, foS H.V H.n.toNat = (K, H'.n, v, H'.V)) ∧ H'.2.2 = H.2.2) ∨
  (w = 1 ∧ DRX H.V H.n H'.V H'.n v ∧ H'.2.2 = H.2.2) ∨
  (w = 2 ∧ MVA (hmS H NM) H.n H.n.toNat H.V H'.V v ∧ H'.n = H.n ∧ H'.2.2 = H.2.2) ∨
  (w = 3 ∧ ALS H.n.toNat H.V H'.V v ∧ H'.n = H.n ∧ H'.2.2 = H.2.2) ∨
  (w = 4 ∧ ∃ t, MLR r Gs PM NM t H 0 H' H'.n v) ∨
  (w = 5 ∧ ∃ nb, nbV (odV H.V H.n (pmS H (PM r))) 192 nb ∧ (∀ g, 0 ≤ g → g < 192 → 0 ≤ nb g ∧ nb g < 192) ∧ H' = shS H (PM r) NM nb ∧ mxV (rgV H'.V H'.n (hmS H' NM)) v)
def PSX (σ τ : MS) (w r v : Int) : Prop := PSV w r (rS σ) (σ.2.1 11) (σ.2.1 12) (rS σ r) (rS τ r) v ∧ ∀ j, 0 ≤ j → j < σ.1 10 → j ≠ r → rS τ j = rS σ j
def RPM (σ τ : MS) (w r : Int) : Prop := (¬ (0 ≤ w ∧ w ≤ 5 ∧ 0 ≤ r ∧ r < σ.1 10) ∧ τ = sS 0 0 σ) ∨ ((0 ≤ w ∧ w ≤ 5 ∧ 0 ≤ r ∧ r < σ.1 10) ∧ τ.1 67 = 0)
def PSQ (σ τ : MS) (w r v : Int) : Prop := (¬ (0 ≤ w ∧ w ≤ 5 ∧ 0 ≤ r ∧ r < σ.1 10) ∧ v = -1 ∧ ∀ j, rS τ j = rS σ j) ∨ ((0 ≤ w ∧ w ≤ 5 ∧ 0 ≤ r ∧ r < σ.1 10) ∧ PSX σ τ w r v)
section PSS
variable {σ τ υ : MS} {r w v : Int}
theorem PSX.s {ss ks js : List Nat} (h : PSX τ υ w r v) (f : Fr ss ks js σ τ) (hk : ∀ k ∈ [3, 4, 5, 6, 7, 8, 9, 11, 12, 14, 15, 16, 17, 18], k ∉ ks) (hs : 10 ∉ ss) : PSX σ υ w r v := by
  have e : ∀ j, rS τ j = rS σ j := fun j => rs_fr f (fun k q => hk k ((by decide : ∀ k ∈ [3, 4, 5, 6, 7, 8, 9, 12, 14, 15, 16, 17, 18], k ∈ [3, 4, 5, 6, 7, 8, 9, 11, 12, 14, 15, 16, 17, 18]) k q))
  have e' : rS τ = rS σ := funext e
  have h1 := h.1
  rw [e', f.q hk (k := 11) (by decide), f.q hk (k := 12) (by decide)] at h1
  exact ⟨h1, fun j a b c => by rw [← e j]; exact h.2 j a (by rw [f.1 10 hs]; exact b) c⟩
theorem rs_tl {ss ks js : List Nat} (f : Fr ss ks js σ τ) (hk : ∀ k ∈ [12, 14, 15, 16, 17, 18], k ∉ ks) : (rS τ r).2.2 = (rS σ r).2.2 := by
  unfold rS
  rw [f.q hk (k := 12) (by decide), f.q hk (k := 14) (by decide), f.q hk (k := 15) (by decide), f.q hk (k := 16) (by decide), f.q hk (k := 17) (by decide), f.q hk (k := 18) (by decide)]
theorem xf_of {ss ks js : List Nat} (f : Fr ss ks js σ τ) (hk : ∀ k ∈ [12, 14, 15, 16, 17], k ∉ ks) (xn : XN r σ τ) (h9 : ∀ j, j ≠ r → τ.2.1 9 j = σ.2.1 9 j) : XF r 0 σ τ := ⟨fun y _ => by rw [f.q hk (k := 15) (by decide), f.q hk (k := 16) (by decide), f.q hk (k := 17) (by decide)]; exact ⟨rfl, rfl, rfl⟩, fun z a => xn z (by omega), fun j a => ⟨by rw [f.q hk (k := 14) (by decide)], h9 j a⟩⟩
theorem rs_oth {ss ks js : List Nat} (g : GDA σ) (hn : NAM σ) (f : Fr ss ks js σ τ) (hk : ∀ k ∈ [12, 14, 15, 16, 17], k ∉ ks) (xr : XR r σ τ) (xn : XN r σ τ) (h9 : ∀ j, j ≠ r → τ.2.1 9 j = σ.2.1 9 j) : ∀ j, 0 ≤ j → j < σ.1 10 → j ≠ r → rS τ j = rS σ j := fun j a b c => by
  have g1 := g.1
  have gj := g.2 j a b
  exact rs_xr xr (xf_of f hk xn h9) (f.q hk (k := 12) (by decide)) (Int.le_refl 0) a (by omega) c (by have := gj.1; omega) gj.2.1 hn
theorem MVA.c {H K : Int → Prop} {n : Int} {t : Nat} {V V' : Int → It} {w : Int} (h : MVA H n t V V' w) (e : ∀ g, K g ↔ H g) : MVA K n t V V' w := by
  rw [show K = H from funext (fun g => propext (e g))]; exact h
theorem sh_rs {ss ks js : List Nat} (h : SHX σ τ r v) (f : Fr ss ks js σ τ) (hk : ∀ k ∈ [9, 11, 12, 14, 15, 16, 17], k ∉ ks) (g : GDR σ r) (hok : OKS τ (σ.2.1 14 r) r) (hp : PAR τ) : ∃ nb, nbV (odV (rS σ r).V (rS σ r).n (pmS (rS σ r) (σ.2.1 11 r))) 192 nb ∧ (∀ g, 0 ≤ g → g < 192 → 0 ≤ nb g ∧ nb g < 192) ∧ rS τ r = shS (rS σ r) (σ.2.1 11 r) (σ.2.1 12) nb ∧ mxV (rgV (rS τ r).V (rS τ r).n (hmS (rS τ r) (σ.2.1 12))) v := by
  obtain ⟨nb, h1, h2, h3, h4, h5⟩ := h
  have e12 : τ.2.1 12 = σ.2.1 12 := f.q hk (k := 12) (by decide)
  have ep : PMQ σ r = pmS (rS σ r) (σ.2.1 11 r) := funext (fun x => propext (pm_rs g.2.2.2.1 g.2.1.1.1 g.2.2.2.2.2.2.2.2).symm)
  refine ⟨nb, by rw [← ep]; exact h1, h2, ?_, by rw [← e12]; exact mx_rs h5 hok hp⟩
  unfold shS
  rw [← ep]
  unfold rS
  rw [h3, e12, f.q hk (k := 9) (by decide), f.q hk (k := 14) (by decide), f.q hk (k := 15) (by decide), f.q hk (k := 16) (by decide), f.q hk (k := 17) (by decide)]
  refine Prod.ext rfl (Prod.ext rfl (Prod.ext rfl (Prod.ext rfl (Prod.ext rfl (Prod.ext rfl ?_)))))
  funext y m
  show (if (0 ≤ y ∧ y < σ.2.1 14 r) ∧ 0 ≤ m ∧ m < σ.2.1 12 (σ.2.1 15 (12 * r + y)) then τ.2.1 18 (144 * r + 12 * y + m) else 0) = if (0 ≤ y ∧ y < σ.2.1 14 r) ∧ 0 ≤ m ∧ m < σ.2.1 12 (if 0 ≤ y ∧ y < σ.2.1 14 r then σ.2.1 15 (12 * r + y) else 0) then nb (if (0 ≤ y ∧ y < σ.2.1 14 r) ∧ 0 ≤ m ∧ m < σ.2.1 12 (σ.2.1 15 (12 * r + y)) then σ.2.1 18 (144 * r + 12 * y + m) else 0) else 0
  by_cases a : 0 ≤ y ∧ y < σ.2.1 14 r
  · rw [if_pos a]
    by_cases c : 0 ≤ m ∧ m < σ.2.1 12 (σ.2.1 15 (12 * r + y))
    · rw [if_pos ⟨a, c⟩, if_pos ⟨a, c⟩, if_pos ⟨a, c⟩]
      exact h4 y m a.1 a.2 c.1 c.2
    · rw [if_neg (fun z => c z.2), if_neg (fun z => c z.2)]
  · rw [if_neg (fun z => a z.1), if_neg (fun z => a z.1)]
end PSS
def HS8 (σ τ : MS) (w r : Int) : Prop := (¬ (0 ≤ w ∧ w ≤ 5 ∧ 0 ≤ r ∧ r < σ.1 10) ∧ τ = sS 0 0 σ) ∨ ((0 ≤ w ∧ w ≤ 5 ∧ 0 ≤ r ∧ r < σ.1 10) ∧ τ.2.1 48 = uZ (σ.2.1 48) r 0)
theorem sA_uz {k : Nat} {z v : Int} {σ : MS} : (sA k z v σ).2.1 k = uZ (σ.2.1 k) z v := by
  funext q
  simp only [sA, if_true]
  rfl
end
