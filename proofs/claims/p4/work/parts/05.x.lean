/-! how many noughts stand among the first n -/
def cz (f : Int → Int) : Nat → Nat
  | 0 => 0
  | n + 1 => cz f n + (if f n = 0 then 1 else 0)
theorem cz_le (f : Int → Int) (n : Nat) : cz f n ≤ n := by
  induction n with
  | zero => exact Nat.le_refl _
  | succ n ih => unfold cz; split <;> omega
theorem cz_ext {f g : Int → Int} (n : Nat) (h : ∀ j : Int, 0 ≤ j → j < n → f j = g j) : cz f n = cz g n := by
  induction n with
  | zero => rfl
  | succ n ih =>
    unfold cz
    rw [ih (fun j a b => h j a (by omega)), h n (by omega) (by omega)]
theorem cz_upd {f : Int → Int} {n : Nat} {z v : Int} (h0 : 0 ≤ z) (h1 : z < n) (hf : f z = 0) (hv : v ≠ 0) : cz (fun q => if q = z then v else f q) n + 1 = cz f n := by
  induction n with
  | zero => omega
  | succ n ih =>
    unfold cz
    by_cases e : z = n
    · have h2 : cz (fun q => if q = z then v else f q) n = cz f n := cz_ext n (fun j a b => if_neg (by omega))
      rw [h2, if_neg (by rw [if_pos e.symm]; exact hv), if_pos (by rw [← e]; exact hf)]
    · have h2 := ih (by omega)
      have h3 : (if (n : Int) = z then v else f n) = f n := if_neg (fun q => e q.symm)
      rw [h3]
      omega
theorem cz_sA {σ : MS} {k n : Nat} {z v : Int} (h0 : 0 ≤ z) (h1 : z < n) (hf : σ.2.1 k z = 0) (hv : v ≠ 0) : cz ((sA k z v σ).2.1 k) n + 1 = cz (σ.2.1 k) n := by
  have e : (sA k z v σ).2.1 k = fun q => if q = z then v else σ.2.1 k q := by simp only [sA, if_true]
  rw [e]
  exact cz_upd h0 h1 hf hv
theorem cz_fr {ss ks js : List Nat} {σ τ : MS} {k n : Nat} (f : Fr ss ks js σ τ) (hk : k ∉ ks) : cz (τ.2.1 k) n = cz (σ.2.1 k) n := by rw [f.2.1 k hk]
def BO (k : Nat) (σ : MS) : Prop := ∀ i, σ.2.1 k i = 0 ∨ σ.2.1 k i = 1
theorem BO.fr {ss ks js : List Nat} {σ τ : MS} {k : Nat} (h : BO k σ) (f : Fr ss ks js σ τ) (hk : k ∉ ks) : BO k τ := fun l => by rw [f.2.1 k hk]; exact h l
theorem BO.A {σ : MS} {k : Nat} (h : BO k σ) {z v : Int} (hv : v = 0 ∨ v = 1) : BO k (sA k z v σ) := fun l => by
  simp only [sA, if_true]
  by_cases e : l = z
  · rw [if_pos e]; exact hv
  · rw [if_neg e]; exact h l
theorem BO.o {σ : MS} {k j : Nat} (h : BO k σ) {z v : Int} (hk : k ≠ j) : BO k (sA j z v σ) := fun l => by
  simp only [sA, if_neg hk]
  exact h l
theorem tm_iorZ {d : Nat} {M : MT} {pc b : Nat} {σ : MS} {L : List (Nat × Value)} {st : List Value} {post : Option Value → MS → Prop} {x y : Int} (hd : decode M.2.1 pc = .ok (.ior, 1)) (hx : x = 0 ∨ x = 1) (hy : y = 0 ∨ y = 1) (k : ∀ c : Int, (c = 0 ∨ c = 1) ∧ (c = 1 ↔ x = 1 ∨ y = 1) → Tm d M (pc + 1) b σ L (.int (iI c) :: st) post) : Tm d M pc b σ L (.int (iI y) :: .int (iI x) :: st) post := by
  refine tm_ior hd ?_
  rcases hx with rfl | rfl <;> rcases hy with rfl | rfl
  · exact k 0 (by omega)
  · exact k 1 (by omega)
  · exact k 1 (by omega)
  · exact k 1 (by omega)
theorem tm_iandZ {d : Nat} {M : MT} {pc b : Nat} {σ : MS} {L : List (Nat × Value)} {st : List Value} {post : Option Value → MS → Prop} {x : Int} (hd : decode M.2.1 pc = .ok (.iand, 1)) (k : ∀ c : Int, 0 ≤ c ∧ c ≤ 255 → Tm d M (pc + 1) b σ L (.int (iI c) :: st) post) : Tm d M pc b σ L (.int (iI 255) :: .int (iI x) :: st) post := by
  refine tm_iand hd ?_
  obtain ⟨w, e, h⟩ := iI_and255 (z := x)
  rw [e]
  exact k w h
/-! how many of n from lo on are not 14 -/
def cw (f : Int → Int) (lo : Int) : Nat → Nat
  | 0 => 0
  | n + 1 => cw f lo n + (if f (lo + n) = 14 then 0 else 1)
theorem cw_ext {f g : Int → Int} {lo : Int} (n : Nat) (h : ∀ j : Int, 0 ≤ j → j < n → f (lo + j) = g (lo + j)) : cw f lo n = cw g lo n := by
  induction n with
  | zero => rfl
  | succ n ih =>
    unfold cw
    rw [ih (fun j a b => h j a (by omega)), h n (by omega) (by omega)]
theorem cw_upd {f : Int → Int} {lo z v : Int} {n : Nat} (h0 : lo ≤ z) (h1 : z < lo + n) (hf : f z ≠ 14) : cw (fun q => if q = z then v else f q) lo n + (if v = 14 then 1 else 0) = cw f lo n := by
  induction n with
  | zero => omega
  | succ n ih =>
    unfold cw
    by_cases e : z = lo + n
    · have h2 : cw (fun q => if q = z then v else f q) lo n = cw f lo n := cw_ext n (fun j a b => if_neg (by omega))
      rw [h2, if_pos e.symm, if_neg (show ¬ f (lo + n) = 14 by rw [← e]; exact hf)]
      split <;> omega
    · have h2 := ih (by omega)
      have h3 : (if lo + (n : Int) = z then v else f (lo + n)) = f (lo + n) := if_neg (fun q => e q.symm)
      rw [h3]
      omega
theorem cw_fr {ss ks js : List Nat} {σ τ : MS} {n : Nat} {lo : Int} (f : Fr ss ks js σ τ) (hk : 49 ∉ ks) : cw (τ.2.1 49) lo n = cw (σ.2.1 49) lo n := by rw [f.2.1 49 hk]
