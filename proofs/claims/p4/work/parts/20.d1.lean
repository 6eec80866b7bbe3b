/-! what feed writes -/
def bt (x sh : Int) : Int := (vp_nar .byte ((iI x >>> (iI sh &&& 31)).toInt8.toInt32)).toInt
theorem bt_r (x sh : Int) : -128 ≤ bt x sh ∧ bt x sh ≤ 127 := nar_rng _
def w4 (f : Int → Int) (s x : Int) : Int → Int := fun k => if k = s then bt x 24 else if k = s + 1 then bt x 16 else if k = s + 2 then bt x 8 else if k = s + 3 then bt x 0 else f k
theorem w4_of {f g : Int → Int} {s x : Int} (h0 : g s = bt x 24) (h1 : g (s + 1) = bt x 16) (h2 : g (s + 1 + 1) = bt x 8) (h3 : g (s + 1 + 1 + 1) = bt x 0) (ho : ∀ k, k ≠ s → k ≠ s + 1 → k ≠ s + 1 + 1 → k ≠ s + 1 + 1 + 1 → g k = f k) : g = w4 f s x := by
  funext k
  unfold w4
  by_cases c0 : k = s
  · rw [if_pos c0, c0]; exact h0
  rw [if_neg c0]
  by_cases c1 : k = s + 1
  · rw [if_pos c1, c1]; exact h1
  rw [if_neg c1]
  by_cases c2 : k = s + 2
  · rw [if_pos c2, c2, show s + 2 = s + 1 + 1 by omega]; exact h2
  rw [if_neg c2]
  by_cases c3 : k = s + 3
  · rw [if_pos c3, c3, show s + 3 = s + 1 + 1 + 1 by omega]; exact h3
  rw [if_neg c3]
  exact ho k c0 c1 (by omega) (by omega)
def w20 (f : Int → Int) (s x1 x2 x3 x4 x5 : Int) : Int → Int := w4 (w4 (w4 (w4 (w4 f s x1) (s + 4) x2) (s + 8) x3) (s + 12) x4) (s + 16) x5
/-- j bytes of them -/
def w4p (f : Int → Int) (s x j : Int) : Int → Int := fun k => if k = s ∧ 1 ≤ j then bt x 24 else if k = s + 1 ∧ 2 ≤ j then bt x 16 else if k = s + 2 ∧ 3 ≤ j then bt x 8 else if k = s + 3 ∧ 4 ≤ j then bt x 0 else f k
theorem w4p_0 (f : Int → Int) (s x : Int) : w4p f s x 0 = f := by
  funext k
  unfold w4p
  rw [if_neg (by omega), if_neg (by omega), if_neg (by omega), if_neg (by omega)]
theorem w4p_4 (f : Int → Int) (s x : Int) : w4p f s x 4 = w4 f s x := by
  funext k
  unfold w4p w4
  by_cases c0 : k = s
  · rw [if_pos ⟨c0, by omega⟩, if_pos c0]
  rw [if_neg (fun q => c0 q.1), if_neg c0]
  by_cases c1 : k = s + 1
  · rw [if_pos ⟨c1, by omega⟩, if_pos c1]
  rw [if_neg (fun q => c1 q.1), if_neg c1]
  by_cases c2 : k = s + 2
  · rw [if_pos ⟨c2, by omega⟩, if_pos c2]
  rw [if_neg (fun q => c2 q.1), if_neg c2]
  by_cases c3 : k = s + 3
  · rw [if_pos ⟨c3, by omega⟩, if_pos c3]
  rw [if_neg (fun q => c3 q.1), if_neg c3]
theorem w4p_s {f : Int → Int} {s x j sh : Int} (h0 : 0 ≤ j) (h3 : j ≤ 3) (hs : sh = 24 - 8 * j) : (fun k => if k = s + j then bt x sh else w4p f s x j k) = w4p f s x (j + 1) := by
  funext k
  have hh : j = 0 ∨ j = 1 ∨ j = 2 ∨ j = 3 := by omega
  unfold w4p
  rcases hh with r | r | r | r <;> subst r <;> subst hs <;> (repeat' split) <;> first
    | (exfalso; omega)
    | rfl
/-- the class's byte -/
theorem bt_c {n sh : Int} (h : sh = 24 ∨ sh = 16 ∨ sh = 8 ∨ sh = 0) : vp_nar .byte ((((iI n).toUInt32 >>> ((iI sh).toUInt32 &&& Int32.toUInt32 31)).toInt32).toInt8.toInt32) = iI (bt n sh) := by
  have e : iI (bt n sh) = vp_nar .byte ((iI n >>> (iI sh &&& 31)).toInt8.toInt32) := iI_self _
  rw [e]
  rcases h with r | r | r | r <;> subst r
  · rw [show ((((iI n).toUInt32 >>> ((iI 24).toUInt32 &&& Int32.toUInt32 31)).toInt32).toInt8.toInt32) = ((iI n >>> (iI 24 &&& 31)).toInt8.toInt32) from tp_24 _]
  · rw [show ((((iI n).toUInt32 >>> ((iI 16).toUInt32 &&& Int32.toUInt32 31)).toInt32).toInt8.toInt32) = ((iI n >>> (iI 16 &&& 31)).toInt8.toInt32) from tp_16 _]
  · rw [show ((((iI n).toUInt32 >>> ((iI 8).toUInt32 &&& Int32.toUInt32 31)).toInt32).toInt8.toInt32) = ((iI n >>> (iI 8 &&& 31)).toInt8.toInt32) from tp_8 _]
  · rw [show ((((iI n).toUInt32 >>> ((iI 0).toUInt32 &&& Int32.toUInt32 31)).toInt32).toInt8.toInt32) = ((iI n >>> (iI 0 &&& 31)).toInt8.toInt32) from tp_0 _]
/-- tapes alike up to n -/
def TAL (f g : Int → Int) (n : Int) : Prop := ∀ k, 0 ≤ k → k < n → f k = g k ∧ -128 ≤ f k ∧ f k ≤ 127
theorem TAL.sub {f g : Int → Int} {n m : Int} (h : TAL f g n) (hm : m ≤ n) : TAL f g m := fun k a b => h k a (by omega)
theorem TAL.w {f g : Int → Int} {n x : Int} (h : TAL f g n) : TAL (w4 f n x) (w4 g n x) (n + 4) := fun k a b => by
  unfold w4
  by_cases c0 : k = n
  · rw [if_pos c0, if_pos c0]; exact ⟨rfl, bt_r _ _⟩
  rw [if_neg c0, if_neg c0]
  by_cases c1 : k = n + 1
  · rw [if_pos c1, if_pos c1]; exact ⟨rfl, bt_r _ _⟩
  rw [if_neg c1, if_neg c1]
  by_cases c2 : k = n + 2
  · rw [if_pos c2, if_pos c2]; exact ⟨rfl, bt_r _ _⟩
  rw [if_neg c2, if_neg c2]
  by_cases c3 : k = n + 3
  · rw [if_pos c3, if_pos c3]; exact ⟨rfl, bt_r _ _⟩
  rw [if_neg c3, if_neg c3]
  exact h k a (by omega)
theorem TAL.w20 {f g : Int → Int} {n x1 x2 x3 x4 x5 : Int} (h : TAL f g n) : TAL (w20 f n x1 x2 x3 x4 x5) (w20 g n x1 x2 x3 x4 x5) (n + 20) := by
  have a1 := h.w (x := x1)
  have a2 := a1.w (x := x2)
  have a3 := (show TAL _ _ (n + 8) from by rw [show n + 8 = n + 4 + 4 by omega]; exact a2).w (x := x3)
  have a4 := (show TAL _ _ (n + 12) from by rw [show n + 12 = n + 8 + 4 by omega]; exact a3).w (x := x4)
  have a5 := (show TAL _ _ (n + 16) from by rw [show n + 16 = n + 12 + 4 by omega]; exact a4).w (x := x5)
  rw [show n + 20 = n + 16 + 4 by omega]
  exact a5
/-- the reference's bytes as the class has them -/
def fTm (τ : MS) : Int → Int := fun k => if an5 (τ.2.1 1 k) ≤ 127 then an5 (τ.2.1 1 k) else an5 (τ.2.1 1 k) - 256
theorem fTm_b (τ : MS) : BYT (fTm τ) := fun k => by
  have r := an5_r (τ.2.1 1 k)
  unfold fTm
  by_cases c : an5 (τ.2.1 1 k) ≤ 127
  · rw [if_pos c]; omega
  · rw [if_neg c]; omega
theorem fTm_sv {τ : MS} {n : Int} (h : τ.1 21 = n) : svC (fTm τ) n = sv τ := by
  funext k
  have r := an5_r (τ.2.1 1 k)
  unfold svC sv fTm
  rw [h]
  by_cases c : k < n
  · rw [if_pos c, if_pos c]
    by_cases d : an5 (τ.2.1 1 k) ≤ 127
    · rw [if_pos d, if_neg (by omega)]
    · rw [if_neg d, if_pos (by omega)]; omega
  · rw [if_neg c, if_neg c]
theorem an5_fin : ∀ n : Fin 256, an5 (((n : Nat) : Int) - 128) = if (n : Nat) < 128 then ((n : Nat) : Int) - 128 + 256 else ((n : Nat) : Int) - 128 := by decide +kernel
theorem an5_at {z : Int} (h : -128 ≤ z ∧ z ≤ 127) : an5 z = if z < 0 then z + 256 else z := by
  have q := an5_fin ⟨(z + 128).toNat, by omega⟩
  have e : (((z + 128).toNat : Nat) : Int) - 128 = z := by omega
  simp only [e] at q
  rw [q]
  by_cases c : z < 0
  · rw [if_pos c, if_pos (by omega)]
  · rw [if_neg c, if_neg (by omega)]
theorem TAL.rw {f : Int → Int} {τ : MS} {n : Int} (h : TAL f (τ.2.1 1) n) : ∀ k, 0 ≤ k → k < n → f k = fTm τ k := fun k a b => by
  obtain ⟨q1, q2⟩ := h k a b
  unfold fTm
  rw [← q1, an5_at q2]
  by_cases c : f k < 0
  · rw [if_pos c, if_neg (by omega)]; omega
  · rw [if_neg c, if_pos (by omega)]
theorem tw_step {σ : MS} {x : Nat} {f : Int → Int} {tg n sh z : Int} (h : σ.2.1 (1000 + x) = w4p f tg n (z - tg)) (h0 : 0 ≤ z - tg) (h3 : z - tg ≤ 3) (hs : sh = 24 - 8 * (z - tg)) : (sA (1000 + x) z (bt n sh) σ).2.1 (1000 + x) = w4p f tg n (z + 1 - tg) := by
  have e : (sA (1000 + x) z (bt n sh) σ).2.1 (1000 + x) = fun k => if k = tg + (z - tg) then bt n sh else w4p f tg n (z - tg) k := by
    funext k
    rw [sA_at, h, show tg + (z - tg) = z by omega]
  rw [e, w4p_s h0 h3 hs, show z - tg + 1 = z + 1 - tg by omega]
/-- how tapes are written in the class -/
def TWQ (σ σ2 : MS) (a : Nat) (n : Int) : Prop := ∀ x : Nat, σ.2.1 95 a = (x : Int) → σ2.2.1 (1000 + x) = w4 (σ.2.1 (1000 + x)) (σ.2.1 96 a) n
def FWQ (σ σ2 : MS) (a : Nat) (p q r s t : Int) : Prop := ∀ x : Nat, σ.2.1 95 a = (x : Int) → (σ.2.1 96 a ≤ 1180 → σ2.2.1 (1000 + x) = w20 (σ.2.1 (1000 + x)) (σ.2.1 96 a) p q r s t) ∧ (1180 < σ.2.1 96 a → σ2.2.1 (1000 + x) = σ.2.1 (1000 + x))
theorem RQ9.of {σ : MS} {b : Nat} {S : Int → Int} {v f p r0 r g : Int} (h : TO9 σ b S g) (hg : g = 0 ∨ g = 1) (hf : f = σ.2.1 43 b) (h0 : g = 0 → v = -1 ∧ p = σ.2.1 44 b ∧ r = r0) (h1 : g = 1 → v = (if σ.2.1 38 b ≤ 6 then σ.2.1 38 b else 6) ∧ p = -1 ∧ r = v) : RQ9 S v f p r0 r := by
  rcases h with ⟨q1, es, pl, q2, q3⟩ | ⟨es, t, x, q, ρ, q2, q3⟩
  · obtain ⟨a1, a2, a3⟩ := h0 q1
    exact Or.inl ⟨es, pl, q2, a1, by rw [hf]; exact q3.1, by rw [a2]; exact q3.2, a3⟩
  · obtain ⟨s1, s2, s3, s4⟩ := q3
    have e1 : σ.2.1 43 b = (RA9 (es.foldl uC c00)).1 := congrArg Prod.fst s1
    have e2 : σ.2.1 44 b = (RA9 (es.foldl uC c00)).2 := congrArg Prod.snd s1
    refine Or.inr ⟨es, t, x, q, ρ, q2, by rw [hf]; exact e1, fun z => ?_, fun z => ?_⟩
    · have g1 : g = 1 := by
        rcases hg with w | w
        · exact absurd (hf.symm.trans z) (s4 w)
        · exact w
      rw [← s2]; exact h1 g1
    · have g0 : g = 0 := by
        rcases hg with w | w
        · exact w
        · exact absurd (hf.trans (s3 w)) z
      obtain ⟨a1, a2, a3⟩ := h0 g0
      exact ⟨a1, by rw [a2]; exact e2, a3⟩
theorem min6 {z r : Int} (h : (r ≤ 6 ∧ z = r) ∨ (6 ≤ r ∧ z = 6)) : z = (if r ≤ 6 then r else 6) := by
  by_cases c : r ≤ 6
  · rw [if_pos c]; omega
  · rw [if_neg c]; omega

