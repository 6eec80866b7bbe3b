section
def sDT (σ : MS) (y : Int) : DT := (σ.2.1 49 y, σ.2.1 50 y, σ.2.1 51 y, σ.2.1 52 y, σ.2.1 53 y)
def cDT (σ : MS) (n : Int) : DT := (σ.2.1 54 n, σ.2.1 55 n, σ.2.1 56 n, σ.2.1 57 n, σ.2.1 58 n)
def stR (σ : MS) (r n k : Int) : Option DT := if σ.2.1 47 k = 1 then some (sDT σ (31824 * r + 144 * k + n)) else none
def G14s (σ : MS) : Prop := ∀ y, σ.2.1 49 y = 14 → sDT σ y = topD
def G14c (σ : MS) : Prop := ∀ n, 0 ≤ n → n < 144 → σ.2.1 54 n = 14 → cDT σ n = topD
section SCD
variable {σ τ : MS} {y q n w ka a kb c r k : Int} {ss ks js : List Nat}
theorem sDT.fr (f : Fr ss ks js σ τ) (h : ∀ k ∈ [49, 50, 51, 52, 53], k ∉ ks) : sDT τ y = sDT σ y := by
  unfold sDT
  rw [f.q h (k := 49) (by decide), f.q h (k := 50) (by decide), f.q h (k := 51) (by decide), f.q h (k := 52) (by decide), f.q h (k := 53) (by decide)]
theorem cDT.fr (f : Fr ss ks js σ τ) (h : ∀ k ∈ [54, 55, 56, 57, 58], k ∉ ks) : cDT τ y = cDT σ y := by
  unfold cDT
  rw [f.q h (k := 54) (by decide), f.q h (k := 55) (by decide), f.q h (k := 56) (by decide), f.q h (k := 57) (by decide), f.q h (k := 58) (by decide)]
theorem sDT.put : sDT (fSt y w ka a kb c σ) q = if q = y then (w, ka, a, kb, c) else sDT σ q := by
  have a1 : (fSt y w ka a kb c σ).2.1 49 q = if q = y then w else σ.2.1 49 q := rfl
  have a2 : (fSt y w ka a kb c σ).2.1 50 q = if q = y then ka else σ.2.1 50 q := rfl
  have a3 : (fSt y w ka a kb c σ).2.1 51 q = if q = y then a else σ.2.1 51 q := rfl
  have a4 : (fSt y w ka a kb c σ).2.1 52 q = if q = y then kb else σ.2.1 52 q := rfl
  have a5 : (fSt y w ka a kb c σ).2.1 53 q = if q = y then c else σ.2.1 53 q := rfl
  unfold sDT
  rw [a1, a2, a3, a4, a5]
  by_cases e : q = y
  · simp only [if_pos e]
  · simp only [if_neg e]
theorem cDT.put : cDT (fNow n w ka a kb c σ) q = if q = n then (w, ka, a, kb, c) else cDT σ q := by
  have a1 : (fNow n w ka a kb c σ).2.1 54 q = if q = n then w else σ.2.1 54 q := rfl
  have a2 : (fNow n w ka a kb c σ).2.1 55 q = if q = n then ka else σ.2.1 55 q := rfl
  have a3 : (fNow n w ka a kb c σ).2.1 56 q = if q = n then a else σ.2.1 56 q := rfl
  have a4 : (fNow n w ka a kb c σ).2.1 57 q = if q = n then kb else σ.2.1 57 q := rfl
  have a5 : (fNow n w ka a kb c σ).2.1 58 q = if q = n then c else σ.2.1 58 q := rfl
  unfold cDT
  rw [a1, a2, a3, a4, a5]
  by_cases e : q = n
  · simp only [if_pos e]
  · simp only [if_neg e]
theorem G14s.fr (h : G14s σ) (f : Fr ss ks js σ τ) (hk : ∀ k ∈ [49, 50, 51, 52, 53], k ∉ ks) : G14s τ := fun y e => by
  rw [f.q hk (k := 49) (by decide)] at e
  rw [sDT.fr f hk]; exact h y e
theorem G14c.fr (h : G14c σ) (f : Fr ss ks js σ τ) (hk : ∀ k ∈ [54, 55, 56, 57, 58], k ∉ ks) : G14c τ := fun y a b e => by
  rw [f.q hk (k := 54) (by decide)] at e
  rw [cDT.fr f hk]; exact h y a b e
theorem G14s.put (h : G14s σ) (e : w = 14 → (ka = 0 ∧ a = 0 ∧ kb = 0 ∧ c = 0)) : G14s (fSt y w ka a kb c σ) := fun q => by
  rw [sDT.put]
  by_cases z : q = y
  · intro e2
    have e3 : (if q = y then w else σ.2.1 49 q) = 14 := e2
    rw [if_pos z] at e3 ⊢
    obtain ⟨e4, e5, e6, e7⟩ := e e3
    rw [e3, e4, e5, e6, e7]; rfl
  · intro e2
    have e3 : (if q = y then w else σ.2.1 49 q) = 14 := e2
    rw [if_neg z] at e3 ⊢
    exact h q e3
end SCD
def BH1 (σ0 σ : MS) (r k n1 : Int) : Prop := ∀ n, 0 ≤ n → n < n1 → cDT σ n = sDT σ0 (31824 * r + 144 * k + n)
theorem BH1.z {σ0 σ : MS} {r k : Int} : BH1 σ0 σ r k 0 := fun n a b => by omega
theorem BH1.put {σ0 σ : MS} {r k n1 w ka a kb c : Int} (h : BH1 σ0 σ r k n1) (h0 : 0 ≤ n1) (hv : (w, ka, a, kb, c) = sDT σ0 (31824 * r + 144 * k + n1)) : BH1 σ0 (fNow n1 w ka a kb c σ) r k (n1 + 1) := fun n p q => by
  rw [cDT.put]
  by_cases e : n = n1
  · rw [if_pos e, e]; exact hv
  · rw [if_neg e]; exact h n p (by omega)
def BHL (σ0 σ : MS) (f n1 : Int) : Prop := ∀ n, 0 ≤ n → n < 144 → cDT σ n = if 12 * f ≤ n ∧ n < 12 * f + n1 then (11, 0, 0, 0, 0) else cDT σ0 n
theorem BHL.z {σ : MS} {f : Int} : BHL σ σ f 0 := fun n a b => by rw [if_neg (by omega)]
theorem BHL.put {σ0 σ : MS} {f n1 z : Int} (h : BHL σ0 σ f n1) (h0 : 0 ≤ n1) (hz : z = 12 * f + n1) : BHL σ0 (fNow z 11 0 0 0 0 σ) f (n1 + 1) := fun n a b => by
  subst hz
  rw [cDT.put]
  by_cases e : n = 12 * f + n1
  · rw [if_pos e, if_pos (by omega)]
  · rw [if_neg e, h n a b]
    by_cases q : 12 * f ≤ n ∧ n < 12 * f + n1
    · rw [if_pos q, if_pos (by omega)]
    · rw [if_neg q, if_neg (by omega)]
def BHO (σ0 σ : MS) (W : Prop) (g n1 : Int) : Prop := ∀ n, 0 ≤ n → n < 144 → ((n < n1 ∧ W) ∧ lnD (cDT σ0 n) g → cDT σ n = (13, 0, 0, 0, 0)) ∧ (¬ ((n < n1 ∧ W) ∧ lnD (cDT σ0 n) g) → cDT σ n = cDT σ0 n)
theorem BHO.z {σ : MS} {W : Prop} {g : Int} : BHO σ σ W g 0 := fun n a b => ⟨fun q => by omega, fun _ => rfl⟩
theorem BHO.put {σ0 σ : MS} {W : Prop} {g n1 : Int} (h : BHO σ0 σ W g n1) (h0 : 0 ≤ n1 ∧ n1 < 144) (w : W) (l : (σ.2.1 55 n1 = 2 ∧ σ.2.1 56 n1 = g) ∨ (σ.2.1 57 n1 = 2 ∧ σ.2.1 58 n1 = g)) : BHO σ0 (fNow n1 13 0 0 0 0 σ) W g (n1 + 1) := fun n a b => by
  have e0 := (h n1 h0.1 h0.2).2 (fun q => by omega)
  rw [cDT.put]
  by_cases e : n = n1
  · have l2 : lnD (cDT σ n1) g := l
    rw [e0] at l2
    rw [if_pos e]
    exact ⟨fun _ => rfl, fun q => absurd ⟨⟨by omega, w⟩, by rw [e]; exact l2⟩ q⟩
  · rw [if_neg e]
    exact ⟨fun q => (h n a b).1 ⟨⟨by omega, q.1.2⟩, q.2⟩, fun q => (h n a b).2 (fun z => q ⟨⟨by omega, z.1.2⟩, z.2⟩)⟩
theorem BHO.no {σ0 σ : MS} {W : Prop} {g n1 : Int} (h : BHO σ0 σ W g n1) (h0 : 0 ≤ n1 ∧ n1 < 144) (l : ¬ ((σ.2.1 55 n1 = 2 ∧ σ.2.1 56 n1 = g) ∨ (σ.2.1 57 n1 = 2 ∧ σ.2.1 58 n1 = g))) : BHO σ0 σ W g (n1 + 1) := fun n a b => by
  have e0 := (h n1 h0.1 h0.2).2 (fun q => by omega)
  by_cases e : n = n1
  · have l2 : ¬ lnD (cDT σ n1) g := l
    rw [e0] at l2
    rw [e]
    exact ⟨fun q => absurd q.2 l2, fun _ => e0⟩
  · exact ⟨fun q => (h n a b).1 ⟨⟨by omega, q.1.2⟩, q.2⟩, fun q => (h n a b).2 (fun z => q ⟨⟨by omega, z.1.2⟩, z.2⟩)⟩
theorem BHO.end {σ0 σ : MS} {W : Prop} {g n1 : Int} (h : BHO σ0 σ W g n1) (e : ¬ W ∨ 144 ≤ n1) : BHO σ0 σ W g 144 := fun n a b => ⟨fun q => by
  rcases e with e | e
  · exact absurd q.1.2 e
  · exact (h n a b).1 ⟨⟨by omega, q.1.2⟩, q.2⟩, fun q => (h n a b).2 (fun z => q ⟨⟨by omega, z.1.2⟩, z.2⟩)⟩
def BHF (σ σ2 : MS) (r k : Int) : Prop := ∀ n, 0 ≤ n → n < 144 → cDT σ2 n = trD (n / 12) (n % 12) (rI σ (220 * r + k)) (sDT σ (31824 * r + 144 * k + n))
section BHFS
variable {σ σ1 σ2 σ3 : MS} {r k x : Int}
theorem trD_bind {F m : Int} {i : It} {d : DT} (h : i 0 = 12) : trD F m i d = if i 2 = F ∧ i 1 = m then whD i else d := if_pos h
theorem trD_leave {F m : Int} {i : It} {d : DT} (h : i 0 = 15) : trD F m i d = if i 1 = F then (11, 0, 0, 0, 0) else d := (if_neg (by omega)).trans (if_pos h)
theorem trD_oth {F m : Int} {i : It} {d : DT} (h : i 0 ≠ 12) (h2 : i 0 ≠ 15) : trD F m i d = if (i 0 ≤ 5 ∨ i 0 = 10) ∧ lnD d (i 1) then (13, 0, 0, 0, 0) else d := (if_neg h).trans (if_neg h2)
theorem whD_eq {w ka a kb c : Int} (h6 : w = σ.2.1 6 x) (h0 : 10 ≤ w → ka = 0 ∧ a = 0 ∧ kb = 0 ∧ c = 0) (h2 : 2 < w → w < 10 → ka = σ.2.1 7 (4 * x) ∧ a = σ.2.1 8 (4 * x) ∧ kb = σ.2.1 7 (4 * x + 1) ∧ c = σ.2.1 8 (4 * x + 1)) (h1 : w ≤ 2 → ka = σ.2.1 7 (4 * x) ∧ a = σ.2.1 8 (4 * x) ∧ kb = 0 ∧ c = 0) : (w, ka, a, kb, c) = whD (rI σ x) := by
  unfold whD
  rw [ri11, ri3, ri4, ri5, ri6, ← h6, Int.add_zero]
  by_cases e : 10 ≤ w
  · obtain ⟨a1, a2, a3, a4⟩ := h0 e
    rw [if_pos e, a1, a2, a3, a4]
  · by_cases q : 2 < w
    · obtain ⟨a1, a2, a3, a4⟩ := h2 q (by omega)
      rw [if_neg e, if_pos q, a1, a2, a3, a4]
    · obtain ⟨a1, a2, a3, a4⟩ := h1 (by omega)
      rw [if_neg e, if_neg q, a1, a2, a3, a4]
theorem BHF.bind {W : Prop} {z g w ka a kb c : Int} (h1 : BH1 σ σ1 r k 144) (hx : x = 220 * r + k) (h12 : σ.2.1 3 x = 12) (hd : 0 ≤ σ.2.1 4 x ∧ σ.2.1 4 x < 12) (hf : 0 ≤ σ.2.1 5 x) (hz : z = 12 * σ.2.1 5 x + σ.2.1 4 x) (hw : (w, ka, a, kb, c) = whD (rI σ x)) (hW : ¬ W) (h3 : BHO (fNow z w ka a kb c σ1) σ3 W g 144) : BHF σ σ3 r k := fun n p q => by
  rw [(h3 n p q).2 (fun z => hW z.1.2), cDT.put, h1 n p q, ← hx, trD_bind (i := rI σ x) h12, hw, ri2, ri1]
  by_cases e : n = z
  · rw [if_pos e, if_pos (by omega)]
  · rw [if_neg e, if_neg (by omega)]
theorem BHF.leave {W : Prop} {f g : Int} (h1 : BH1 σ σ1 r k 144) (hx : x = 220 * r + k) (h15 : σ.2.1 3 x = 15) (hf : f = σ.2.1 4 x) (h2 : BHL σ1 σ2 f 12) (hW : ¬ W) (h3 : BHO σ2 σ3 W g 144) : BHF σ σ3 r k := fun n p q => by
  rw [(h3 n p q).2 (fun z => hW z.1.2), h2 n p q, h1 n p q, ← hx, trD_leave (i := rI σ x) h15, ri1, hf]
  by_cases e : 12 * σ.2.1 4 x ≤ n ∧ n < 12 * σ.2.1 4 x + 12
  · rw [if_pos e, if_pos (by omega)]
  · rw [if_neg e, if_neg (by omega)]
theorem BHF.oth {W : Prop} {g : Int} (h1 : BH1 σ σ1 r k 144) (hx : x = 220 * r + k) (h12 : σ.2.1 3 x ≠ 12) (h15 : σ.2.1 3 x ≠ 15) (hW : W ↔ (σ.2.1 3 x ≤ 5 ∨ σ.2.1 3 x = 10)) (hg : g = σ.2.1 4 x) (h3 : BHO σ1 σ3 W g 144) : BHF σ σ3 r k := fun n p q => by
  rw [← hx, trD_oth (i := rI σ x) h12 h15, ← h1 n p q, ri0, ri1]
  by_cases e : (σ.2.1 3 x ≤ 5 ∨ σ.2.1 3 x = 10) ∧ lnD (cDT σ1 n) (σ.2.1 4 x)
  · rw [if_pos e]; exact (h3 n p q).1 ⟨⟨q, hW.mpr e.1⟩, by rw [hg]; exact e.2⟩
  · rw [if_neg e]; exact (h3 n p q).2 (fun z => e ⟨hW.mp z.1.2, by rw [← hg]; exact z.2⟩)
theorem BHF.g14 (h : BHF σ σ2 r k) (g : G14s σ) : G14c σ2 := fun n p q e => by
  rw [h n p q]
  have e2 : (cDT σ2 n).1 = 14 := e
  rw [h n p q] at e2
  unfold trD at e2 ⊢
  by_cases a : rI σ (220 * r + k) 0 = 12
  · rw [if_pos a] at e2 ⊢
    by_cases b : rI σ (220 * r + k) 2 = n / 12 ∧ rI σ (220 * r + k) 1 = n % 12
    · rw [if_pos b] at e2 ⊢
      unfold whD at e2 ⊢
      by_cases c : 10 ≤ rI σ (220 * r + k) 11
      · rw [if_pos c] at e2 ⊢
        have e3 : rI σ (220 * r + k) 11 = 14 := e2
        rw [e3]; rfl
      · rw [if_neg c] at e2
        by_cases d : 2 < rI σ (220 * r + k) 11
        · rw [if_pos d] at e2
          have e3 : rI σ (220 * r + k) 11 = 14 := e2
          omega
        · rw [if_neg d] at e2
          have e3 : rI σ (220 * r + k) 11 = 14 := e2
          omega
    · rw [if_neg b] at e2 ⊢; exact g _ e2
  · rw [if_neg a] at e2 ⊢
    by_cases b : rI σ (220 * r + k) 0 = 15
    · rw [if_pos b] at e2 ⊢
      by_cases c : rI σ (220 * r + k) 1 = n / 12
      · rw [if_pos c] at e2; exact absurd (show (11 : Int) = 14 from e2) (by decide)
      · rw [if_neg c] at e2 ⊢; exact g _ e2
    · rw [if_neg b] at e2 ⊢
      by_cases c : (rI σ (220 * r + k) 0 ≤ 5 ∨ rI σ (220 * r + k) 0 = 10) ∧ lnD (sDT σ (31824 * r + 144 * k + n)) (rI σ (220 * r + k) 1)
      · rw [if_pos c] at e2; exact absurd (show (13 : Int) = 14 from e2) (by decide)
      · rw [if_neg c] at e2 ⊢; exact g _ e2
theorem nAr_12 (h : σ.2.1 3 x = 12) : (10 ≤ σ.2.1 6 x → nArgs σ x = 0) ∧ (2 < σ.2.1 6 x ∧ σ.2.1 6 x < 10 → nArgs σ x = 2) ∧ (σ.2.1 6 x ≤ 2 → nArgs σ x = 1) := by
  unfold nArgs
  rw [if_neg (by omega), if_pos h]
  exact ⟨fun a => if_pos a, fun a => (if_neg (by omega)).trans (if_pos a.1), fun a => (if_neg (by omega)).trans (if_neg (by omega))⟩
end BHFS
end
